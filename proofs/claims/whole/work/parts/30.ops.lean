/-! the state of both sides: dials, count, kinds less 1, heights, tanks, soot, lit, store, nights, acts, blown, trace -/
abbrev zA : Type := (Nat → Int32) × Nat × (Nat → Nat) × (Nat → Int32) × (Nat → Int32) × (Nat → Int32) × (Nat → Int32) × Int64 × Int32 × Int32 × Int32 × zT
def zInv (S : zA) : Prop := match S with
  | (_, n, kk, _, tk, so, lt, _, _, _, _, _) => n ≤ 60 ∧ (∀ i, i < n → kk i < 9) ∧ ∀ i, n ≤ i → tk i = 0 ∧ so i = 0 ∧ lt i = 0
abbrev kdF (kk : Nat → Nat) : Nat → Int32 := fun i => nI (kk i + 1)
def updN (f : Nat → Nat) (k : Nat) (x : Nat) : Nat → Nat := fun j => if j = k then x else f j
abbrev mW (g1 g2 g3 g4 g5 g6 g7 : ClassId) (aM m1 m2 m3 m4 m5 m6 m7 : Nat) (S : zA) : va_W :=
  match S with
  | (d, n, kk, ht, tk, so, lt, sto, ni, ac, bl, t) => wm g1 g2 g3 g4 g5 g6 g7 aM m1 m2 m3 m4 m5 m6 m7 d n (kdF kk) ht tk so lt sto ni ac bl t
/-! the class's world: the coast's three cells, the object, its array, the lamps -/
abbrev pl (aC : Nat) (ad : Nat → Nat) (kk : Nat → Nat) (ht tk so lt : Nat → Int32) (n : Nat) : va_W := (List.range n).map (fun i => wL aC (ad i) (kk i) (nI (kk i + 1)) (ht i) (tk i) (so i) (lt i))
abbrev wxR (c3 : ClassId) (aX aC aA : Nat) (ad : Nat → Nat) (n : Nat) (kk : Nat → Nat) (ht tk so lt : Nat → Int32) (sto : Int64) (ni ac bl : Int32) : va_W :=
  (aX, .inr (10, [.ref aC, .ref aA, .int (nI n), .int ni, .int ac, .int bl, .long sto])) :: (aA, .inl (c3, 60, .inr (.inr (.inr (.inr (fun i => if i < n then some (ad i) else none)))))) :: pl aC ad kk ht tk so lt n
abbrev wx (c1 c2 c3 : ClassId) (aX aC aD aE aA : Nat) (ad : Nat → Nat) (d : Nat → Int32) (n : Nat) (kk : Nat → Nat) (ht tk so lt : Nat → Int32) (sto : Int64) (ni ac bl : Int32) (t : zT) : va_W :=
  wc c1 c2 aC aD aE d (wxR c3 aX aC aA ad n kk ht tk so lt sto ni ac bl) t
abbrev xW (c1 c2 c3 : ClassId) (aX aC aD aE aA : Nat) (ad : Nat → Nat) (S : zA) : va_W := match S with
  | (d, n, kk, ht, tk, so, lt, sto, ni, ac, bl, t) => wx c1 c2 c3 aX aC aD aE aA ad d n kk ht tk so lt sto ni ac bl t
theorem pl_len (aC : Nat) (ad : Nat → Nat) (kk : Nat → Nat) (ht tk so lt : Nat → Int32) (n : Nat) : (pl aC ad kk ht tk so lt n).length = n := by simp [pl]
theorem pl_at {aC : Nat} {ad : Nat → Nat} {kk : Nat → Nat} {ht tk so lt : Nat → Int32} {n i : Nat} (hi : i < n) : (pl aC ad kk ht tk so lt n)[i]? = some (wL aC (ad i) (kk i) (nI (kk i + 1)) (ht i) (tk i) (so i) (lt i)) := by
  simp [pl, List.getElem?_map, List.getElem?_range, hi]
theorem pl_set {aC : Nat} {ad : Nat → Nat} {kk : Nat → Nat} {ht tk so lt : Nat → Int32} {n i : Nat} (x y z : Int32) : (pl aC ad kk ht tk so lt n).set i (wL aC (ad i) (kk i) (nI (kk i + 1)) (ht i) x y z) = pl aC ad kk ht (upd tk i x) (upd so i y) (upd lt i z) n := by
  apply List.ext_getElem?
  intro j
  rw [List.getElem?_set]
  by_cases hj : j < n
  · by_cases hij : i = j
    · subst hij
      rw [if_pos rfl, if_pos (by rw [pl_len]; exact hj), pl_at hj]
      simp [upd]
    · rw [if_neg hij, pl_at hj, pl_at hj]
      simp [upd, Ne.symm hij]
  · have h1 : ∀ tk so lt, (pl aC ad kk ht tk so lt n)[j]? = none := fun tk so lt => List.getElem?_eq_none (by rw [pl_len]; omega)
    by_cases hij : i = j
    · subst hij
      rw [if_pos rfl, if_neg (by rw [pl_len]; exact hj), h1]
    · rw [if_neg hij, h1, h1]
section FO
variable {c1 c2 c3 : ClassId} {aX aC aD aE aA : Nat} {ad : Nat → Nat} {d : Nat → Int32} {n : Nat} {kk : Nat → Nat} {ht tk so lt : Nat → Int32} {sto : Int64} {ni ac bl : Int32} {t : zT}
/-- a lamp of the world, and what changes with it -/
theorem x_un (i : Nat) (x z : Int32) (σ : zS) : wl c1 c2 aC aD aE (ad i) (kk i) d (nI (kk i + 1)) (ht i) x z (wxR c3 aX aC aA ad n kk ht tk so lt sto ni ac bl) (i + 2) σ = wx c1 c2 c3 aX aC aD aE aA ad d n kk ht (upd tk i x) (upd so i σ.1) (upd lt i z) sto ni ac bl σ.2 := by
  show _ :: _ :: _ :: _ :: _ :: (pl aC ad kk ht tk so lt n).set i _ = _
  rw [pl_set]
theorem x_fo (i : Nat) : wl c1 c2 aC aD aE (ad i) (kk i) d (nI (kk i + 1)) (ht i) (tk i) (lt i) (wxR c3 aX aC aA ad n kk ht tk so lt sto ni ac bl) (i + 2) (so i, t) = wx c1 c2 c3 aX aC aD aE aA ad d n kk ht tk so lt sto ni ac bl t := by
  rw [x_un, upd_me, upd_me, upd_me]
theorem x_len {i : Nat} (hi : i < n) : i + 2 < (wxR c3 aX aC aA ad n kk ht tk so lt sto ni ac bl).length := by
  simp [wxR, pl_len, hi]
end FO
/-! numbers -/
theorem isL_of {x : Int32} {n : Nat} (hn : n ≤ 1000) (h : 0 ≤ x ∧ x ≤ nI n - 1) : ∃ i, i < n ∧ x = nI i := by
  cases n with
  | zero =>
    have h2 := h.2
    rw [nI_0] at h2
    exact absurd (Int32.le_trans h.1 h2) (by decide)
  | succ q =>
    have h2 := h.2
    rw [nI_pred] at h2
    obtain ⟨i, hi, rfl⟩ := nI_of2 (M := nI q) (n := q) (nI_toInt (by omega)) (Int32.not_lt.mpr h.1) h2
    exact ⟨i, by omega, rfl⟩
theorem isL_to {n i : Nat} (hn : n ≤ 1000) (hi : i < n) : 0 ≤ nI i ∧ nI i ≤ nI n - 1 := by
  cases n with
  | zero => omega
  | succ q =>
    rw [nI_pred]
    exact ⟨nI_pos' (by omega), nI_le (by omega) (by omega)⟩
theorem in_of {x M : Int32} {q : Nat} (hM : M = nI q) (hq : q < 2 ^ 31) (h : 0 ≤ x ∧ x ≤ M) : ∃ i, i ≤ q ∧ x = nI i := by
  subst hM
  obtain ⟨i, hi, rfl⟩ := nI_of2 (M := nI q) (n := q) (nI_toInt hq) (Int32.not_lt.mpr h.1) h.2
  exact ⟨i, hi, rfl⟩
def t0 (t : zT) : zT := (t.1, ⟨0, by decide⟩)
def zNONE : Int64 := -9223372036854775808
def zCAST : Int64 := -9223372036854775807
def anyL (lt : Nat → Int32) : Nat → Bool
  | 0 => false
  | n + 1 => anyL lt n || decide (¬ lt n = 0)
/-- the answer of a member -/
def memK (q k : Nat) (d : Nat → Int32) (ht tk y : Int32) (σ : zS) : Int32 × zS := match q with
  | 0 => burnK k d y σ
  | 1 => reachK k d ht y σ
  | 2 => flashK k y σ
  | 3 => tendK k d y σ
  | 4 => rankK k ht tk σ
  | 5 => hornK k d ht tk y σ
  | _ => toneK k d ht tk σ
/-! the calls: answer and new state -/
def dialA (S : zA) (x y : Int32) : Int32 × zA := match S with
  | (d, n, kk, ht, tk, so, lt, sto, ni, ac, bl, t) => if (0 ≤ x ∧ x ≤ 7) ∧ 0 ≤ y ∧ y ≤ 1000 then (d x.toNatClampNeg, (upd d x.toNatClampNeg y, n, kk, ht, tk, so, lt, sto, ni, ac, bl, t)) else (-1, S)
def lampA (S : zA) (x y : Int32) : Int32 × zA := match S with
  | (d, n, kk, ht, tk, so, lt, sto, ni, ac, bl, t) => if (1 ≤ x ∧ x ≤ 9) ∧ 0 ≤ y ∧ y ≤ 500 then (if n = 60 then (-2, S) else (nI n, (d, n + 1, updN kk n (x.toNatClampNeg - 1), upd ht n y, tk, so, lt, sto, ni, ac, bl, t))) else (-1, S)
def askA (S : zA) (x m y : Int32) : Int64 × zA := match S with
  | (d, n, kk, ht, tk, so, lt, sto, ni, ac, bl, t) => if (0 ≤ x ∧ x ≤ nI n - 1) ∧ 0 ≤ m ∧ m ≤ 6 then
      (if 5 ≤ m ∧ hornedK (kk x.toNatClampNeg) = false then (zCAST, (d, n, kk, ht, tk, so, lt, sto, ni, ac + 1, bl, t0 t))
       else ((memK m.toNatClampNeg (kk x.toNatClampNeg) d (ht x.toNatClampNeg) (tk x.toNatClampNeg) y (so x.toNatClampNeg, t0 t)).1.toInt64, (d, n, kk, ht, tk, upd so x.toNatClampNeg (memK m.toNatClampNeg (kk x.toNatClampNeg) d (ht x.toNatClampNeg) (tk x.toNatClampNeg) y (so x.toNatClampNeg, t0 t)).2.1, lt, sto, ni, ac + 1, bl, (memK m.toNatClampNeg (kk x.toNatClampNeg) d (ht x.toNatClampNeg) (tk x.toNatClampNeg) y (so x.toNatClampNeg, t0 t)).2.2)))
      else (zNONE, S)
def traceA (S : zA) (x : Int32) : Int32 := match S with
  | (_, _, _, _, _, _, _, _, _, _, _, t) => if 0 ≤ x ∧ x ≤ nI t.2.1 - 1 then t.1 x.toNatClampNeg else -1
def haulA (S : zA) (x : Int32) : Int64 × zA := match S with
  | (d, n, kk, ht, tk, so, lt, sto, ni, ac, bl, t) => if 1 ≤ x ∧ x ≤ 100000 then (sto + x.toInt64, (d, n, kk, ht, tk, so, lt, sto + x.toInt64, ni, ac, bl, t)) else (zNONE, S)
def fillA (S : zA) (x y : Int32) : Int32 × zA := match S with
  | (d, n, kk, ht, tk, so, lt, sto, ni, ac, bl, t) => if (0 ≤ x ∧ x ≤ nI n - 1) ∧ 1 ≤ y ∧ y ≤ 100000 then
      (if y.toInt64 ≤ sto then (if tk x.toNatClampNeg + y ≤ 1000000 then (tk x.toNatClampNeg + y, (d, n, kk, ht, upd tk x.toNatClampNeg (tk x.toNatClampNeg + y), so, lt, sto - y.toInt64, ni, ac, bl, t)) else (-2, S)) else (-3, S)) else (-1, S)
def lightA (S : zA) (x o : Int32) : Int32 × zA := match S with
  | (d, n, kk, ht, tk, so, lt, sto, ni, ac, bl, t) => if 0 ≤ x ∧ x ≤ nI n - 1 then
      (if lt x.toNatClampNeg = o then (0, S) else (if ¬ o = 0 ∧ tk x.toNatClampNeg = 0 then (-3, S) else (1, (d, n, kk, ht, tk, so, upd lt x.toNatClampNeg o, sto, ni, ac, bl, t)))) else (-1, S)
/-- a night of h hours over the lamps below i: how many went out, the tanks, soot, lit, trace -/
def nightF (kk : Nat → Nat) (d : Nat → Int32) (h : Int32) : Nat → Int32 × (Nat → Int32) × (Nat → Int32) × (Nat → Int32) × zT → Int32 × (Nat → Int32) × (Nat → Int32) × (Nat → Int32) × zT
  | 0, s => s
  | i + 1, s => match nightF kk d h i s with
    | (o, tk, so, lt, t) => if lt i = 0 then (o, tk, so, lt, t) else
        (if tk i ≤ (if (burnK (kk i) d h (so i, t)).1 < 0 then 0 else (burnK (kk i) d h (so i, t)).1) then (o + 1, upd tk i 0, upd so i (burnK (kk i) d h (so i, t)).2.1, upd lt i 0, (burnK (kk i) d h (so i, t)).2.2)
         else (o, upd tk i (tk i - (if (burnK (kk i) d h (so i, t)).1 < 0 then 0 else (burnK (kk i) d h (so i, t)).1)), upd so i (burnK (kk i) d h (so i, t)).2.1, lt, (burnK (kk i) d h (so i, t)).2.2))
def nightA (S : zA) (x : Int32) : Int32 × zA := match S with
  | (d, n, kk, ht, tk, so, lt, sto, ni, ac, bl, t) => if 1 ≤ x ∧ x ≤ 14 then
      (if anyL lt n = true then ((nightF kk d x n (0, tk, so, lt, t0 t)).1, (d, n, kk, ht, (nightF kk d x n (0, tk, so, lt, t0 t)).2.1, (nightF kk d x n (0, tk, so, lt, t0 t)).2.2.1, (nightF kk d x n (0, tk, so, lt, t0 t)).2.2.2.1, sto, ni + 1, ac + 1, bl, (nightF kk d x n (0, tk, so, lt, t0 t)).2.2.2.2))
       else (0, (d, n, kk, ht, tk, so, lt, sto, ni + 1, ac, bl, t))) else (-1, S)
/-- the farthest seen among the lamps below i: its number and reach, soot, trace -/
def seenF (kk : Nat → Nat) (d ht : Nat → Int32) (lt : Nat → Int32) (m : Int32) : Nat → Option Nat × Int32 × (Nat → Int32) × zT → Option Nat × Int32 × (Nat → Int32) × zT
  | 0, s => s
  | i + 1, s => match seenF kk d ht lt m i s with
    | (b, f, so, t) => if lt i = 0 then (b, f, so, t) else
        (if b = none ∨ f < (reachK (kk i) d (ht i) m (so i, t)).1 then (some i, (reachK (kk i) d (ht i) m (so i, t)).1, upd so i (reachK (kk i) d (ht i) m (so i, t)).2.1, (reachK (kk i) d (ht i) m (so i, t)).2.2)
         else (b, f, upd so i (reachK (kk i) d (ht i) m (so i, t)).2.1, (reachK (kk i) d (ht i) m (so i, t)).2.2))
def oI (z : Int32) (b : Option Nat) : Int32 := match b with
  | none => z
  | some i => nI i
def seenA (S : zA) (x : Int32) : Int32 × zA := match S with
  | (d, n, kk, ht, tk, so, lt, sto, ni, ac, bl, t) => if 0 ≤ x ∧ x ≤ 9 then
      (if anyL lt n = true then (oI 0 (seenF kk d ht lt x n (none, 0, so, t0 t)).1, (d, n, kk, ht, tk, (seenF kk d ht lt x n (none, 0, so, t0 t)).2.2.1, lt, sto, ni, ac + 1, bl, (seenF kk d ht lt x n (none, 0, so, t0 t)).2.2.2))
       else (-3, S)) else (-1, S)
def blowA (S : zA) (x y : Int32) : Int32 × zA := match S with
  | (d, n, kk, ht, tk, so, lt, sto, ni, ac, bl, t) => if 0 ≤ x ∧ x ≤ nI n - 1 then
      (if hornedK (kk x.toNatClampNeg) = false then (-4, (d, n, kk, ht, tk, so, lt, sto, ni, ac + 1, bl, t0 t))
       else (1, (d, n, kk, ht, tk, upd so x.toNatClampNeg (hornK (kk x.toNatClampNeg) d (ht x.toNatClampNeg) (tk x.toNatClampNeg) y (so x.toNatClampNeg, t0 t)).2.1, lt, sto, ni, ac + 1, (hornK (kk x.toNatClampNeg) d (ht x.toNatClampNeg) (tk x.toNatClampNeg) y (so x.toNatClampNeg, t0 t)).1, (hornK (kk x.toNatClampNeg) d (ht x.toNatClampNeg) (tk x.toNatClampNeg) y (so x.toNatClampNeg, t0 t)).2.2))) else (-1, S)
def blownA (S : zA) : Int32 := match S with
  | (_, _, _, _, _, _, _, _, _, _, bl, _) => bl
def toldA (S : zA) (x y : Int32) : Int64 := match S with
  | (_, n, kk, ht, tk, so, lt, _, _, _, _, _) => if 0 ≤ x ∧ x ≤ nI n - 1 then
      (if y = 0 then (nI (kk x.toNatClampNeg + 1)).toInt64 else if y = 1 then (ht x.toNatClampNeg).toInt64 else if y = 2 then (tk x.toNatClampNeg).toInt64 else if y = 3 then (so x.toNatClampNeg).toInt64 else if y = 4 then (if lt x.toNatClampNeg = 0 then 0 else 1) else if y = 5 then (if hornedK (kk x.toNatClampNeg) = true then 1 else 0) else zNONE) else zNONE
def countA (S : zA) (y : Int32) : Int32 := match S with
  | (_, n, _, _, _, _, _, _, ni, ac, _, t) => if y = 0 then nI n else if y = 1 then ni else if y = 2 then nI t.2.1 else if y = 3 then ac else -1
def storeA (S : zA) : Int64 := match S with
  | (_, _, _, _, _, _, _, sto, _, _, _, _) => sto
