/-! what the bodies of the kinds answer and do, as functions: the class and the reference are both tied to these -/
abbrev zT : Type := (Nat → Int32) × {n : Nat // n ≤ 1000}
abbrev zS : Type := Int32 × zT
def tb (x : Int32) (t : zT) : zT := if h : t.2.1 < 1000 then (upd t.1 t.2.1 x, ⟨t.2.1 + 1, h⟩) else t
def bLamp (d : Nat → Int32) (h : Int32) (σ : zS) : Int32 × zS := (h * d 0 + 1, (σ.1 + h, tb 0 σ.2))
def bOil (d : Nat → Int32) (h : Int32) (σ : zS) : Int32 × zS := ((bLamp d h (σ.1, tb 10 σ.2)).1 + (bLamp d h (σ.1, tb 10 σ.2)).2.1 / 50, (bLamp d h (σ.1, tb 10 σ.2)).2)
def bTwin (d : Nat → Int32) (h : Int32) (σ : zS) : Int32 × zS := ((bOil d h (σ.1, tb 30 σ.2)).1 + (bOil d h (bOil d h (σ.1, tb 30 σ.2)).2).1, (bOil d h (bOil d h (σ.1, tb 30 σ.2)).2).2)
def bSwing (d : Nat → Int32) (h : Int32) (σ : zS) : Int32 × zS := ((bTwin d h (σ.1, tb 50 σ.2)).1 + h / 2, (bTwin d h (σ.1, tb 50 σ.2)).2)
def bFlare (d : Nat → Int32) (h : Int32) (σ : zS) : Int32 × zS := bLamp d (h / 2) (σ.1, tb 70 σ.2)
def bOuter (d : Nat → Int32) (h : Int32) (σ : zS) : Int32 × zS := (if (bFlare d h (σ.1, tb 90 σ.2)).1 - d 1 < 0 then 0 else (bFlare d h (σ.1, tb 90 σ.2)).1 - d 1, (bFlare d h (σ.1, tb 90 σ.2)).2)
def rLamp (ht m : Int32) (σ : zS) : Int32 × zS := (ht / 10 + 30 - 3 * m, (σ.1, tb 1 σ.2))
def rRound (d : Nat → Int32) (ht m : Int32) (σ : zS) : Int32 × zS := ((rLamp ht m (σ.1, tb 21 σ.2)).1 + d 2, (rLamp ht m (σ.1, tb 21 σ.2)).2)
def rTwin (d : Nat → Int32) (ht m : Int32) (σ : zS) : Int32 × zS := ((rRound d ht m (σ.1, tb 31 σ.2)).1 + (rRound d ht (m + 1) (rRound d ht m (σ.1, tb 31 σ.2)).2).1 / 2, (rRound d ht (m + 1) (rRound d ht m (σ.1, tb 31 σ.2)).2).2)
def rDrum (d : Nat → Int32) (ht m : Int32) (σ : zS) : Int32 × zS := (if (rTwin d ht m (σ.1, tb 41 σ.2)).1 < 20 then 20 else (rTwin d ht m (σ.1, tb 41 σ.2)).1, (rTwin d ht m (σ.1, tb 41 σ.2)).2)
def rGas (ht m : Int32) (σ : zS) : Int32 × zS := ((rLamp ht m (σ.1, tb 61 σ.2)).1 - (rLamp ht m (σ.1, tb 61 σ.2)).2.1 / 10, (rLamp ht m (σ.1, tb 61 σ.2)).2)
def rBuoy (ht m : Int32) (σ : zS) : Int32 × zS := ((rGas ht m (σ.1, tb 81 σ.2)).1 / 2, (rGas ht m (σ.1, tb 81 σ.2)).2)
def fLamp (σ : zS) : Int32 × zS := (100, (σ.1, tb 2 σ.2))
def fTwin (t : Int32) (σ : zS) : Int32 × zS := if t &&& 3 = 0 then (0, (σ.1, tb 32 σ.2)) else fLamp (σ.1, tb 32 σ.2)
def fSwing (t : Int32) (σ : zS) : Int32 × zS := fTwin (t / 3) (σ.1, tb 52 σ.2)
def fFlare (t : Int32) (σ : zS) : Int32 × zS := if t &&& 1 = 0 then fLamp (σ.1, tb 72 σ.2) else (0, (σ.1, tb 72 σ.2))
def fOuter (t : Int32) (σ : zS) : Int32 × zS := ((fFlare t (σ.1, tb 92 σ.2)).1 + (fFlare (t + 1) (fFlare t (σ.1, tb 92 σ.2)).2).1, (fFlare (t + 1) (fFlare t (σ.1, tb 92 σ.2)).2).2)
def tLamp (n : Int32) (σ : zS) : Int32 × zS := (if σ.1 - n < 0 then 0 else σ.1 - n, (if σ.1 - n < 0 then 0 else σ.1 - n, tb 3 σ.2))
def tRound (n : Int32) (σ : zS) : Int32 × zS := tLamp (n / 2) (tLamp n (σ.1, tb 23 σ.2)).2
def tDrum (d : Nat → Int32) (n : Int32) (σ : zS) : Int32 × zS := tRound (n + d 3) (σ.1, tb 43 σ.2)
def tBuoy (d : Nat → Int32) (n : Int32) (σ : zS) : Int32 × zS := if d 4 = 0 then tLamp n (σ.1, tb 83 σ.2) else (d 4, (σ.1, tb 83 σ.2))
def kLamp (ht : Int32) (σ : zS) : Int32 × zS := (ht - ht / 9 * 9, (σ.1, tb 4 σ.2))
def kOil (ht : Int32) (σ : zS) : Int32 × zS := ((kLamp ht (σ.1, tb 14 σ.2)).1 + 1, (kLamp ht (σ.1, tb 14 σ.2)).2)
def kDrum (ht : Int32) (σ : zS) : Int32 × zS := (2 * (kOil ht (σ.1, tb 44 σ.2)).1, (kOil ht (σ.1, tb 44 σ.2)).2)
def kFlare (ht : Int32) (σ : zS) : Int32 × zS := ((kLamp ht (σ.1, tb 74 σ.2)).1 + ((kLamp ht (σ.1, tb 74 σ.2)).2.1 - (kLamp ht (σ.1, tb 74 σ.2)).2.1 / 5 * 5), (kLamp ht (σ.1, tb 74 σ.2)).2)
def kOuter (ht tk : Int32) (σ : zS) : Int32 × zS := ((kFlare ht (σ.1, tb 94 σ.2)).1 + (tk - tk / 3 * 3), (kFlare ht (σ.1, tb 94 σ.2)).2)
def oOil (σ : zS) : Int32 × zS := (7, (σ.1, tb 16 σ.2))
def oDrum (d : Nat → Int32) (σ : zS) : Int32 × zS := ((oOil (σ.1, tb 46 σ.2)).1 + d 5, (oOil (σ.1, tb 46 σ.2)).2)
def oFlare (σ : zS) : Int32 × zS := (9, (σ.1, tb 76 σ.2))
def oOuter (ht tk : Int32) (σ : zS) : Int32 × zS := ((oFlare (σ.1, tb 96 σ.2)).1 + (kOuter ht tk (oFlare (σ.1, tb 96 σ.2)).2).1, (kOuter ht tk (oFlare (σ.1, tb 96 σ.2)).2).2)
/-! by kinds: k is the kind less 1 -/
def burnK (k : Nat) (d : Nat → Int32) (h : Int32) (σ : zS) : Int32 × zS := match k with
  | 0 | 1 => bOil d h σ
  | 2 | 3 => bTwin d h σ
  | 4 => bSwing d h σ
  | 5 => bLamp d h σ
  | 8 => bOuter d h σ
  | _ => bFlare d h σ
def reachK (k : Nat) (d : Nat → Int32) (ht m : Int32) (σ : zS) : Int32 × zS := match k with
  | 0 => rLamp ht m σ
  | 1 => rRound d ht m σ
  | 2 => rTwin d ht m σ
  | 3 | 4 => rDrum d ht m σ
  | 5 | 6 => rGas ht m σ
  | _ => rBuoy ht m σ
def flashK (k : Nat) (t : Int32) (σ : zS) : Int32 × zS := match k with
  | 2 | 3 => fTwin t σ
  | 4 => fSwing t σ
  | 6 | 7 => fFlare t σ
  | 8 => fOuter t σ
  | _ => fLamp σ
def tendK (k : Nat) (d : Nat → Int32) (n : Int32) (σ : zS) : Int32 × zS := match k with
  | 1 | 2 => tRound n σ
  | 3 | 4 => tDrum d n σ
  | 7 | 8 => tBuoy d n σ
  | _ => tLamp n σ
def rankK (k : Nat) (ht tk : Int32) (σ : zS) : Int32 × zS := match k with
  | 0 | 1 | 2 => kOil ht σ
  | 3 | 4 => kDrum ht σ
  | 5 => kLamp ht σ
  | 8 => kOuter ht tk σ
  | _ => kFlare ht σ
def toneK (k : Nat) (d : Nat → Int32) (ht tk : Int32) (σ : zS) : Int32 × zS := match k with
  | 3 | 4 => oDrum d σ
  | 6 | 7 => oFlare σ
  | 8 => oOuter ht tk σ
  | _ => oOil σ
def hornK (k : Nat) (d : Nat → Int32) (ht tk n : Int32) (σ : zS) : Int32 × zS := match k with
  | 4 => ((oDrum d (σ.1, tb 55 σ.2)).1 + n, (oDrum d (σ.1, tb 55 σ.2)).2)
  | k => ((toneK k d ht tk (σ.1, tb 5 σ.2)).1 * n + (reachK k d ht 0 (toneK k d ht tk (σ.1, tb 5 σ.2)).2).1, (reachK k d ht 0 (toneK k d ht tk (σ.1, tb 5 σ.2)).2).2)
def hornedK (k : Nat) : Bool := match k with
  | 0 | 1 | 5 => false
  | _ => true
def zb (b : Bool) : Int32 := if b then 1 else 0
theorem zb_nar (b : Bool) : narrow .boolean (.int (zb b)) = .int (zb b) := by cases b <;> rfl
theorem zb_fit (b : Bool) : fits .boolean (.int (zb b)) = true := by cases b <;> rfl
/-! the class's cells: the coast in front, then the dials and the entries, then all the rest; a lamp's cell stands at the place j of the rest -/
abbrev wc (c1 c2 : ClassId) (aC aD aE : Nat) (d : Nat → Int32) (rest : va_W) (t : zT) : va_W := (aC, .inr (9, [.ref aD, .ref aE, .int (nI t.2.1)])) :: (aD, .inl (c1, 8, .inl d)) :: (aE, .inl (c2, 1000, .inl t.1)) :: rest
abbrev wL (aC aL k : Nat) (kd ht tk so lt : Int32) : Nat × va_E := (aL, .inr (k, [.ref aC, .int kd, .int ht, .int tk, .int so, .int lt]))
abbrev wl (c1 c2 : ClassId) (aC aD aE aL k : Nat) (d : Nat → Int32) (kd ht tk lt : Int32) (rest : va_W) (j : Nat) (σ : zS) : va_W := wc c1 c2 aC aD aE d (rest.set j (wL aC aL k kd ht tk σ.1 lt)) σ.2
theorem zg {a b c x : Nat × va_E} {rest : va_W} {j : Nat} (hj : j < rest.length) : (a :: b :: c :: rest.set j x)[j + 3]? = some x := by
  show (rest.set j x)[j]? = some x
  rw [List.getElem?_set_self hj]
theorem zs {a b c x y : Nat × va_E} {rest : va_W} {j : Nat} : (a :: b :: c :: rest.set j x).set (j + 3) y = a :: b :: c :: rest.set j y := by
  show a :: b :: c :: (rest.set j x).set j y = _
  rw [List.set_set]
abbrev t3 (c1 c2 c3 : ClassId) : List (ClassId × FieldType) := [(c1, .int), (c2, .int), (c3, .object "CoastLamps$Lamp")]
theorem nI_w (t : zT) : t.2.1 < 2 ^ 31 := Nat.lt_of_le_of_lt t.2.2 (by decide)
