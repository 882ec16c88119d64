/-! the reference's cells -/
abbrev wm (g1 g2 g3 g4 g5 g6 g7 : ClassId) (aM m1 m2 m3 m4 m5 m6 m7 : Nat) (d : Nat → Int32) (n : Nat) (kd ht tk so lt : Nat → Int32) (sto : Int64) (ni ac bl : Int32) (t : zT) : va_W :=
  [(aM, .inr (11, [.ref m1, .int (nI n), .ref m2, .ref m3, .ref m4, .ref m5, .ref m6, .long sto, .int ni, .int ac, .int bl, .ref m7, .int (nI t.2.1)])), (m1, .inl (g1, 8, .inl d)), (m2, .inl (g2, 60, .inl kd)), (m3, .inl (g3, 60, .inl ht)), (m4, .inl (g4, 60, .inl tk)), (m5, .inl (g5, 60, .inl so)), (m6, .inl (g6, 60, .inl lt)), (m7, .inl (g7, 1000, .inl t.1))]
abbrev t7 (g1 g2 g3 g4 g5 g6 g7 : ClassId) : List (ClassId × FieldType) := [(g1, .int), (g2, .int), (g3, .int), (g4, .int), (g5, .int), (g6, .boolean), (g7, .int)]
theorem upd_upd (f : Nat → Int32) (i : Nat) (x y : Int32) : upd (upd f i x) i y = upd f i y := by
  funext j; unfold upd; by_cases h : j = i <;> simp [h]
theorem upd_me (f : Nat → Int32) (i : Nat) : upd f i (f i) = f := by
  funext j; unfold upd; by_cases h : j = i <;> simp [h]
theorem i31 {i : Nat} (h : i < 60) : i < 2 ^ 31 := Nat.lt_trans h (by decide)
