/-! THE CLAIM OUT OF ONE WALK OF THE LAW'S BODY. Your part is whole_start (and what it stands on); all else here is the same for every law, but numbers. -/
def R_law : String := "CoastLampsLaw"
def lw_P (b : Addr) (xs : List Int32) (args : Array Value) (s : State) : Prop := args = #[.ref b] ∧ s.IntsAt b xs ∧ xs.length ≤ 2048 ∧ (Jvm.Cond.and given_1 narrow_1).before args s = true
def lw_Q (_ : Array Value) (s : State) (o : Outcome) (t : State) : Prop := o = .returned (some (.int 1)) ∧ Framed s o t [] 600000 7302250
def lw_Z (below : List Frame) (a : Array Value) (s : State) : State → Prop := fun t => ∃ o, t.status = .running ∧ Ended t below o ∧ lw_Q a s o t
/-- the law's own end, with 1 on the stack, nothing written that was there before, its room as the claim has it -/
theorem lw_ret {p : Program} {l : Launch} {e : Env} {s : State} {m : MethodId} {below : List Frame} {meth : Method} {c : Code} {b : Nat} (hx : p.tables.exec = Jvm.exec) (hb : c.code = code) (hr : meth.sig.returnType = ret) (hlocks : meth.locks = false) {pc : Nat} {H : Heap} {ls : Array Slot} (hdg : decode code pc = .ok (.ireturn, 1)) : W p l e room_1 s m #[Value.ref b] below meth c H [] 600000 7302250 (lw_Z below #[Value.ref b] s) (F0 m pc ls [.int 1]) := by
  intro T hT X
  obtain ⟨fs, hret, hrun, hended, hW, hframe⟩ := X.leave (v := some (.int 1)) (hlocks := hlocks) (fun h => by rw [hr] at h; cases h)
  have hmeth' : T.vm.method? m = some meth := X.method'
  refine ⟨T.setFrames fs, ?_, .returned (some (.int 1)), hrun, hended, rfl, ⟨_, rfl⟩, hW, hframe⟩
  jvm_step X.here [X.here.top, hx, hb, hdg, hmeth', hr, ret, narrow_b1]
  (try refine ⟨rfl, ?_⟩); (try refine ⟨rfl, ?_⟩)
  first | (intro acts; rw [hret _ acts rfl rfl rfl]) | rw [hret _ _ rfl rfl rfl]
  exact Steps.refl _
/-- what holds at the law's entry: the machine, the code, the tables' words (any of lw_tbl by 'hts w (by decide +kernel)'), the script of L ints xs at the cell b, what the Statement gives of the start (any of its parts by flat_of_before) -/
def lw_At (p : Program) (s : State) (m : MethodId) (meth : Method) (c : Code) (b L : Nat) (xs : Nat → Int32) : Prop :=
  p.tables.exec = Jvm.exec ∧ c.code = code ∧ meth.sig.returnType = ret ∧ c.maxLocals = 4 ∧ s.vm.findClass R_law = some m.cls ∧ (∀ w ∈ lw_tbl, w.before #[Value.ref b] s = true) ∧ va_X b L xs s s.heap ∧ b < s.heap.size ∧ meth.locks = false ∧ (Jvm.Cond.and given_1 narrow_1).before #[Value.ref b] s = true

theorem lg_cmp_self (v : Int64) : lg_cmp v v = 0 := by
  unfold lg_cmp
  rw [if_neg (by intro h; exact absurd h Int64.lt_irrefl), if_pos rfl]
theorem nI_p2 (a : Nat) : nI a + 2 = nI (a + 2) := nI_add a 2
theorem nI_p3 (a : Nat) : nI a + 3 = nI (a + 3) := nI_add a 3
theorem nI_p4 (j : Nat) : nI (4 * j) + Int32.ofInt 4 = nI (4 * (j + 1)) := by
  rw [show 4 * (j + 1) = 4 * j + 4 by omega]
  exact nI_add (4 * j) 4
theorem lw_go {L j : Nat} (hL : L ≤ 2048) (h : 4 * j + 4 ≤ L) : ¬ nI L - 4 < nI (4 * j) := by
  rw [show (4 : Int32) = nI 4 from by decide, pk_sub (by omega)]
  exact nI_nlt (by omega) (by omega)
theorem lw_end {L j : Nat} (hL : L ≤ 2048) (hj : j ≤ 512) (h : ¬ 4 * j + 4 ≤ L) : nI L - 4 < nI (4 * j) := by
  rw [show (4 : Int32) = nI 4 from by decide]
  by_cases h4 : 4 ≤ L
  · rw [pk_sub h4]
    exact nI_lt (by omega) (by omega)
  · exact Int32.lt_of_lt_of_le (pk_sneg (by omega) (by omega)) (nI_pos' (by omega))
/-! the state's frame is kept by every call -/
theorem up0 {f : Nat → Int32} {n i : Nat} {x : Int32} (hi : i < n) {j : Nat} (hj : n ≤ j) (h : f j = 0) : upd f i x j = 0 := by
  unfold upd
  rw [if_neg (by omega)]
  exact h
theorem cl_lt {x : Int32} {n : Nat} (hn : n ≤ 60) (h : 0 ≤ x ∧ x ≤ nI n - 1) : x.toNatClampNeg < n := by
  obtain ⟨i, hi, rfl⟩ := isL_of (Nat.le_trans hn (by decide)) h
  rw [nI_clamp (by omega)]
  exact hi
section INV
variable {S : zA}
theorem inv_dial (h : zInv S) (x y : Int32) : zInv (dialA S x y).2 := by
  obtain ⟨d, n, kk, ht, tk, so, lt, sto, ni, ac, bl, t⟩ := S
  show zInv (if _ then _ else _ : Int32 × zA).2
  split <;> exact h
theorem inv_lamp (h : zInv S) (x y : Int32) : zInv (lampA S x y).2 := by
  obtain ⟨d, n, kk, ht, tk, so, lt, sto, ni, ac, bl, t⟩ := S
  obtain ⟨hn, hkk, hz⟩ := id h
  show zInv (if _ then _ else _ : Int32 × zA).2
  split
  · rename_i hc
    split
    · exact h
    · rename_i h3
      obtain ⟨q, hq, hx⟩ := kq_of hc.1
      refine ⟨by omega, fun i hi => ?_, fun i hi => hz i (by omega)⟩
      show updN kk n (x.toNatClampNeg - 1) i < 9
      unfold updN
      by_cases hin : i = n
      · rw [if_pos hin, hx, nI_clamp (by omega)]
        omega
      · rw [if_neg hin]
        exact hkk i (by omega)
  · exact h
theorem inv_ask (h : zInv S) (x m y : Int32) : zInv (askA S x m y).2 := by
  obtain ⟨d, n, kk, ht, tk, so, lt, sto, ni, ac, bl, t⟩ := S
  obtain ⟨hn, hkk, hz⟩ := id h
  show zInv (if _ then _ else _ : Int64 × zA).2
  split
  · rename_i hc
    split
    · exact h
    · exact ⟨hn, hkk, fun i hi => ⟨(hz i hi).1, up0 (cl_lt hn hc.1) hi (hz i hi).2.1, (hz i hi).2.2⟩⟩
  · exact h
theorem inv_haul (h : zInv S) (x : Int32) : zInv (haulA S x).2 := by
  obtain ⟨d, n, kk, ht, tk, so, lt, sto, ni, ac, bl, t⟩ := S
  show zInv (if _ then _ else _ : Int64 × zA).2
  split <;> exact h
theorem inv_fill (h : zInv S) (x y : Int32) : zInv (fillA S x y).2 := by
  obtain ⟨d, n, kk, ht, tk, so, lt, sto, ni, ac, bl, t⟩ := S
  obtain ⟨hn, hkk, hz⟩ := id h
  show zInv (if _ then _ else _ : Int32 × zA).2
  split
  · rename_i hc
    split
    · split
      · exact ⟨hn, hkk, fun i hi => ⟨up0 (cl_lt hn hc.1) hi (hz i hi).1, (hz i hi).2.1, (hz i hi).2.2⟩⟩
      · exact h
    · exact h
  · exact h
theorem inv_light (h : zInv S) (x y : Int32) : zInv (lightA S x y).2 := by
  obtain ⟨d, n, kk, ht, tk, so, lt, sto, ni, ac, bl, t⟩ := S
  obtain ⟨hn, hkk, hz⟩ := id h
  show zInv (if _ then _ else _ : Int32 × zA).2
  split
  · rename_i hc
    split
    · exact h
    · split
      · exact h
      · exact ⟨hn, hkk, fun i hi => ⟨(hz i hi).1, (hz i hi).2.1, up0 (cl_lt hn hc) hi (hz i hi).2.2⟩⟩
  · exact h
theorem inv_blow (h : zInv S) (x y : Int32) : zInv (blowA S x y).2 := by
  obtain ⟨d, n, kk, ht, tk, so, lt, sto, ni, ac, bl, t⟩ := S
  obtain ⟨hn, hkk, hz⟩ := id h
  show zInv (if _ then _ else _ : Int32 × zA).2
  split
  · rename_i hc
    split
    · exact h
    · exact ⟨hn, hkk, fun i hi => ⟨(hz i hi).1, up0 (cl_lt hn hc) hi (hz i hi).2.1, (hz i hi).2.2⟩⟩
  · exact h
theorem night_z (kk : Nat → Nat) (d : Nat → Int32) (x : Int32) (s : Int32 × (Nat → Int32) × (Nat → Int32) × (Nat → Int32) × zT) (j : Nat) (h : s.2.1 j = 0 ∧ s.2.2.1 j = 0 ∧ s.2.2.2.1 j = 0) : ∀ n, n ≤ j → (nightF kk d x n s).2.1 j = 0 ∧ (nightF kk d x n s).2.2.1 j = 0 ∧ (nightF kk d x n s).2.2.2.1 j = 0 := by
  intro n
  induction n with
  | zero => intro _; exact h
  | succ n ih =>
    intro hj
    rcases hF : nightF kk d x n s with ⟨o, tk, so, lt, t⟩
    have g := ih (by omega)
    rw [hF] at g
    have g : tk j = 0 ∧ so j = 0 ∧ lt j = 0 := g
    rw [nightF_s hF]
    generalize (if (burnK (kk n) d x (so n, t)).1 < 0 then (0 : Int32) else (burnK (kk n) d x (so n, t)).1) = V
    split
    · exact g
    · split
      · exact ⟨up0 (Nat.lt_succ_self n) hj g.1, up0 (Nat.lt_succ_self n) hj g.2.1, up0 (Nat.lt_succ_self n) hj g.2.2⟩
      · exact ⟨up0 (Nat.lt_succ_self n) hj g.1, up0 (Nat.lt_succ_self n) hj g.2.1, g.2.2⟩
theorem seen_z (kk : Nat → Nat) (d ht lt : Nat → Int32) (x : Int32) (s : Option Nat × Int32 × (Nat → Int32) × zT) (j : Nat) (h : s.2.2.1 j = 0) : ∀ n, n ≤ j → (seenF kk d ht lt x n s).2.2.1 j = 0 := by
  intro n
  induction n with
  | zero => intro _; exact h
  | succ n ih =>
    intro hj
    rcases hF : seenF kk d ht lt x n s with ⟨b, f, so, t⟩
    have g := ih (by omega)
    rw [hF] at g
    have g : so j = 0 := g
    rw [seenF_s hF]
    split
    · exact g
    · split <;> exact up0 (Nat.lt_succ_self n) hj g
theorem inv_night (h : zInv S) (x : Int32) : zInv (nightA S x).2 := by
  obtain ⟨d, n, kk, ht, tk, so, lt, sto, ni, ac, bl, t⟩ := S
  obtain ⟨hn, hkk, hz⟩ := id h
  show zInv (if _ then _ else _ : Int32 × zA).2
  split
  · split
    · exact ⟨hn, hkk, fun i hi => night_z kk d x (0, tk, so, lt, t0 t) i (hz i hi) n hi⟩
    · exact h
  · exact h
theorem inv_seen (h : zInv S) (x : Int32) : zInv (seenA S x).2 := by
  obtain ⟨d, n, kk, ht, tk, so, lt, sto, ni, ac, bl, t⟩ := S
  obtain ⟨hn, hkk, hz⟩ := id h
  show zInv (if _ then _ else _ : Int32 × zA).2
  split
  · split
    · exact ⟨hn, hkk, fun i hi => ⟨(hz i hi).1, seen_z kk d ht lt x (none, 0, so, t0 t) i (hz i hi).2.1 n hi, (hz i hi).2.2⟩⟩
    · exact h
  · exact h
end INV
/-! the reference's places, and the class's -/
def zAM (aM m1 m2 m3 m4 m5 m6 m7 : Nat) (q : Nat) : Prop := q = aM ∨ q = m1 ∨ q = m2 ∨ q = m3 ∨ q = m4 ∨ q = m5 ∨ q = m6 ∨ q = m7
def zAX (z aM m1 m2 m3 m4 m5 m6 m7 : Nat) (q : Nat) : Prop := z ≤ q ∧ ¬ zAM aM m1 m2 m3 m4 m5 m6 m7 q
theorem am_lt {D : va_G} {g1 g2 g3 g4 g5 g6 g7 : ClassId} {aM m1 m2 m3 m4 m5 m6 m7 : Nat} {S : zA} {H : Heap} (hP : va_P D classes (mW g1 g2 g3 g4 g5 g6 g7 aM m1 m2 m3 m4 m5 m6 m7 S) H) {q : Nat} (h : zAM aM m1 m2 m3 m4 m5 m6 m7 q) : q < H.size := by
  obtain ⟨d, n, kk, ht, tk, so, lt, sto, ni, ac, bl, t⟩ := S
  rcases h with rfl | rfl | rfl | rfl | rfl | rfl | rfl | rfl
  · exact (hP 0 _ rfl).lt
  · exact (hP 1 _ rfl).lt
  · exact (hP 2 _ rfl).lt
  · exact (hP 3 _ rfl).lt
  · exact (hP 4 _ rfl).lt
  · exact (hP 5 _ rfl).lt
  · exact (hP 6 _ rfl).lt
  · exact (hP 7 _ rfl).lt
/-- what the class did isn't the reference's -/
theorem keepM {D : va_G} {z aM m1 m2 m3 m4 m5 m6 m7 : Nat} {w : va_W} {H H1 : Heap} (hP : va_P D classes w H) (hD : va_D (zAM aM m1 m2 m3 m4 m5 m6 m7) w) (hk : ∀ q : Nat, q < H.size → ¬ zAX z aM m1 m2 m3 m4 m5 m6 m7 q → H1[q]? = H[q]?) : va_P D classes w H1 :=
  hP.kept (fun k x hx => hk x.1 (hP k x hx).lt (fun h => h.2 (hD.2 k x hx)))
theorem keepX {D : va_G} {z aM m1 m2 m3 m4 m5 m6 m7 : Nat} {w : va_W} {H H1 : Heap} (hP : va_P D classes w H) (hD : va_D (zAX z aM m1 m2 m3 m4 m5 m6 m7) w) (hk : ∀ q : Nat, q < H.size → ¬ zAM aM m1 m2 m3 m4 m5 m6 m7 q → H1[q]? = H[q]?) : va_P D classes w H1 :=
  hP.kept (fun k x hx => hk x.1 (hP k x hx).lt (fun h => (hD.2 k x hx).2 h))
