/-! the reference, in general -/
theorem tn_10 {k : Nat} (h : k < 9) : tn_v k * 10 = tn_v (k + 1) := by
  rcases (show k = 0 ∨ k = 1 ∨ k = 2 ∨ k = 3 ∨ k = 4 ∨ k = 5 ∨ k = 6 ∨ k = 7 ∨ k = 8 by omega) with rfl | rfl | rfl | rfl | rfl | rfl | rfl | rfl | rfl <;> decide
theorem ix_90 {im : Int32} (h : vp_in im 30) : vp_in (9 * im) 270 := by
  rw [vp_in_iff] at h
  have e1 : (9 : Int32).toInt = 9 := by decide
  rw [Int32.mul_comm, vp_in_iff, i_mul (by rw [e1]; omega) (by rw [e1]; omega), e1]; omega
/-- a place in a table of rows -/
theorem ix_row {a k c : Int32} {n w N : Nat} (hc : c.toInt = (w : Int)) (h : vp_in a n) (h0 : 0 ≤ k.toInt) (h1 : k.toInt < (w : Int)) (hN : w * n = N) (hs : N ≤ 6000) (hw : w ≤ 20) (hn : n ≤ 300) : vp_in (c * a + k) N := by
  rw [vp_in_iff] at h
  have hm : (w : Int) * a.toInt ≤ (w : Int) * ((n : Int) - 1) := Int.mul_le_mul_of_nonneg_left (by omega) (by omega)
  have hz : 0 ≤ (w : Int) * a.toInt := Int.mul_nonneg (by omega) h.1
  have hN2 : (w : Int) * (n : Int) = (N : Int) := by rw [← hN]; exact (Int.natCast_mul w n).symm
  have hd : (w : Int) * ((n : Int) - 1) = (N : Int) - w := by rw [Int.mul_sub, hN2]; omega
  have e2 : (c * a).toInt = (w : Int) * a.toInt := by rw [i_mul (by rw [hc]; omega) (by rw [hc]; omega), hc]
  rw [vp_in_iff, i_add (by rw [e2]; omega) (by rw [e2]; omega), e2]
  omega
def mcI (ms mi mt : Int32) (mpg mds mss mkd mof : Nat → Int32) : Prop := 0 ≤ ms.toInt ∧ ms.toInt ≤ 100 ∧ (∀ j, 0 ≤ (mpg j).toInt ∧ (mpg j).toInt < 20) ∧ (∀ j : Nat, 1 ≤ j → (j : Int) ≤ ms.toInt → -21 ≤ (mds j).toInt ∧ (mds j).toInt < mi.toInt) ∧ itI mi mss ∧ 0 ≤ mt.toInt ∧ mt.toInt ≤ 20 ∧ ∀ j : Nat, 1 ≤ j → (j : Int) ≤ mt.toInt → mkd j = 3 → 0 ≤ (mof j).toInt ∧ (mof j).toInt < mi.toInt
def mrI (ms ma mp mk : Int32) (mbs mpf mka mki mko mkp : Nat → Int32) : Prop := 0 ≤ ma.toInt ∧ ma.toInt ≤ ms.toInt ∧ 0 ≤ mp.toInt ∧ mp.toInt ≤ 20 ∧ 0 ≤ mk.toInt ∧ mk.toInt ≤ 300 ∧ fitB mbs ∧ (∀ j, 0 ≤ (mpf j).toInt ∧ (mpf j).toInt ≤ ms.toInt) ∧ (∀ j, 0 ≤ (mka j).toInt ∧ (mka j).toInt ≤ ms.toInt) ∧ (∀ j, (mki j).toInt < 30) ∧ (∀ j, 0 ≤ (mko j).toInt ∧ (mko j).toInt ≤ 20) ∧ ∀ j, 0 ≤ (mkp j).toInt ∧ (mkp j).toInt ≤ ms.toInt
theorem i_ne {a b : Int32} (h : ¬ a = b) : a.toInt ≠ b.toInt := fun q => h (Int32.toInt_inj.mp q)
