/-! rows for states in general: what indexes rest on -/
theorem nb_fit {v : Int32} (h : fits .byte (.int v) = true) : narrow .byte (.int v) = .int v := by
  have h2 : (-128 ≤ v ∧ v ≤ 127) := by simpa [fits] using h
  rw [i_le, i_le] at h2
  have e1 : (-128 : Int32).toInt = -128 := by decide
  have e2 : (127 : Int32).toInt = 127 := by decide
  have e : v.toInt8.toInt32 = v := by
    apply Int32.toInt_inj.mp
    rw [Int8.toInt_toInt32, Int32.toInt_toInt8]
    exact Int.bmod_eq_of_le (by omega) (by omega)
  show Value.int v.toInt8.toInt32 = _
  rw [e]
/-- an item that there is: its place, its size -/
def itI (md : Int32) (ss : Nat → Int32) : Prop := 0 ≤ md.toInt ∧ md.toInt ≤ 30 ∧ ∀ j : Nat, (j : Int) < md.toInt → 1 ≤ (ss j).toInt ∧ (ss j).toInt ≤ 9
theorem cl_eq (x : Int32) : x.toNatClampNeg = x.toInt.toNat := rfl
theorem it_in {md im : Int32} {ss : Nat → Int32} (h : itI md ss) (h0 : 0 ≤ im.toInt) (h1 : im.toInt < md.toInt) : vp_in im 30 := vp_in_iff.mpr ⟨h0, by have := h.2.1; omega⟩
theorem it_s {md im : Int32} {ss : Nat → Int32} (h : itI md ss) (h0 : 0 ≤ im.toInt) (h1 : im.toInt < md.toInt) : 1 ≤ (ss im.toNatClampNeg).toInt ∧ (ss im.toNatClampNeg).toInt ≤ 9 := h.2.2 _ (by rw [cl_eq]; omega)
theorem n_lt {a b : Int32} (h : ¬ b ≤ a) : a.toInt < b.toInt := by rw [i_le] at h; omega
theorem n_le {a b : Int32} (h : ¬ b < a) : a.toInt ≤ b.toInt := by rw [i_lt] at h; omega
theorem ix_mr {i md : Int32} {n : Nat} (hmd : md.toInt ≤ (n : Int)) (h0 : 0 ≤ i.toInt) (h1 : ¬ md ≤ i) : vp_in i n := by
  rw [vp_in_iff]; rw [i_le] at h1; omega
theorem ix_s1 {op : Int32} {n : Nat} (h0 : 0 < op.toInt) (h1 : op.toInt ≤ (n : Int)) : vp_in (op - 1) n := by
  rw [vp_in_iff, i_s1 (by omega)]; omega
theorem pos_n {x : Int32} (h : ¬ x ≤ 0) : 0 < x.toInt := by rw [i_le, Int32.toInt_zero] at h; omega
/-- a remainder by a constant -/
theorem rem_k {x k : Int32} {n : Nat} (hk : k.toInt = (n : Int)) (hn : 0 < n) (h0 : 0 ≤ x.toInt) (hn2 : (n : Int) < 2147483648) : 0 ≤ (x - x / k * k).toInt ∧ (x - x / k * k).toInt < (n : Int) := by
  have hx := i_rg x
  obtain ⟨a, ha⟩ : ∃ a : Nat, x.toInt = (a : Int) := ⟨x.toInt.toNat, by omega⟩
  have ex : x = nI a := Int32.toInt_inj.mp (by rw [ha, nI_toInt (by omega)])
  have ek : k = nI n := Int32.toInt_inj.mp (by rw [hk, nI_toInt (by omega)])
  rw [ex, ek, pk_rem (by omega) hn (by omega), nI_toInt (by have := Nat.mod_lt a hn; omega)]
  have := Nat.mod_lt a hn
  omega
theorem m9 {im : Int32} {n N : Nat} (h : vp_in im n) (hN : 9 * n = N) (hn : n ≤ 300) : ¬ im * 9 < 0 ∧ (im * 9).toNatClampNeg + (9 : Int32).toNatClampNeg ≤ N := by
  rw [vp_in_iff] at h
  have e1 : (9 : Int32).toInt = 9 := by decide
  have e2 : (im * 9).toInt = im.toInt * 9 := by rw [i_mul (by rw [e1]; omega) (by rw [e1]; omega), e1]
  rw [i_lt, Int32.toInt_zero, cl_eq, cl_eq, e1, e2]
  omega
theorem fitB_cpy {f g : Nat → Int32} (hf : fitB f) (hg : fitB g) (sp dp n : Nat) : fitB (va_cpy f g sp dp n) := by
  intro j
  by_cases h : dp ≤ j ∧ j < dp + n
  · rw [pk_cpy_in h.1 h.2]; exact hf _
  · rw [pk_cpy_out (by omega)]; exact hg j
theorem up_all {P : Int32 → Prop} {f : Nat → Int32} (h : ∀ j, P (f j)) {k : Nat} {x : Int32} (hx : P x) : ∀ j, P (upd f k x j) := by
  intro j
  rcases up_or f k x j with e | e <;> rw [e]
  · exact h j
  · exact hx
theorem i_k {x : Int32} (k : Int32) {n : Int} (hk : k.toInt = n) (h1 : -2147483648 ≤ x.toInt + n) (h2 : x.toInt + n < 2147483648) : (x + k).toInt = x.toInt + n := by
  rw [i_add (by omega) (by omega), hk]
