section XW
variable {c1 c2 c3 : ClassId} {aX aC aD aE aA : Nat} {ad : Nat → Nat} {d : Nat → Int32} {n : Nat} {kk : Nat → Nat} {ht tk so lt : Nat → Int32} {sto : Int64} {ni ac bl : Int32} {t : zT}
theorem x_at {i : Nat} (hi : i < n) : (wx c1 c2 c3 aX aC aD aE aA ad d n kk ht tk so lt sto ni ac bl t)[i + 5]? = some (wL aC (ad i) (kk i) (nI (kk i + 1)) (ht i) (tk i) (so i) (lt i)) := by
  show (pl aC ad kk ht tk so lt n)[i]? = _
  exact pl_at hi
theorem x_setT (i : Nat) (x : Int32) : (wx c1 c2 c3 aX aC aD aE aA ad d n kk ht tk so lt sto ni ac bl t).set (i + 5) (wL aC (ad i) (kk i) (nI (kk i + 1)) (ht i) x (so i) (lt i)) = wx c1 c2 c3 aX aC aD aE aA ad d n kk ht (upd tk i x) so lt sto ni ac bl t := by
  show _ :: _ :: _ :: _ :: _ :: (pl aC ad kk ht tk so lt n).set i _ = _
  rw [pl_set, upd_me so i, upd_me lt i]
theorem x_setL (i : Nat) (x : Int32) : (wx c1 c2 c3 aX aC aD aE aA ad d n kk ht tk so lt sto ni ac bl t).set (i + 5) (wL aC (ad i) (kk i) (nI (kk i + 1)) (ht i) (tk i) (so i) x) = wx c1 c2 c3 aX aC aD aE aA ad d n kk ht tk so (upd lt i x) sto ni ac bl t := by
  show _ :: _ :: _ :: _ :: _ :: (pl aC ad kk ht tk so lt n).set i _ = _
  rw [pl_set, upd_me tk i, upd_me so i]
end XW
