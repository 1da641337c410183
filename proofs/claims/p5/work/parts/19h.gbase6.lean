/-! the class and the reference side by side -/
def relS (sm : Int32) (kd of cd mkd mof mcd : Nat → Int32) : Prop := ∀ j : Nat, (j : Int) < sm.toInt → kd j = mkd (j + 1) ∧ of j = mof (j + 1) ∧ cd j = mcd (j + 1)
theorem rel_stop {md sm sm' mt' kn oo co : Int32} {kd of cd mkd mof mcd kd' of' cd' mkd' mof' mcd' : Nat → Int32} (hr : relS sm kd of cd mkd mof mcd) (h0 : 0 ≤ sm.toInt)
    (a1 : stopOk md sm kn oo → sm' = sm + 1 ∧ kd' = upd kd sm.toNatClampNeg kn ∧ of' = upd of sm.toNatClampNeg oo ∧ cd' = upd cd sm.toNatClampNeg co) (a2 : ¬ stopOk md sm kn oo → sm' = sm ∧ kd' = kd ∧ of' = of ∧ cd' = cd)
    (b1 : stopOk md sm kn oo → mt' = sm + 1 ∧ mkd' = upd mkd mt'.toNatClampNeg kn ∧ mof' = upd mof mt'.toNatClampNeg oo ∧ mcd' = upd mcd mt'.toNatClampNeg co) (b2 : ¬ stopOk md sm kn oo → mt' = sm ∧ mkd' = mkd ∧ mof' = mof ∧ mcd' = mcd) : sm' = mt' ∧ relS sm' kd' of' cd' mkd' mof' mcd' := by
  by_cases q : stopOk md sm kn oo
  · obtain ⟨e1, e2, e3, e4⟩ := a1 q
    obtain ⟨f1, f2, f3, f4⟩ := b1 q
    refine ⟨e1.trans f1.symm, ?_⟩
    have hl : sm.toInt < 20 := by have := q.2.2; rw [i_lt] at this; exact this
    have hm : mt'.toInt = sm.toInt + 1 := by rw [f1]; exact i_p1 (by omega) (by omega)
    have hs : sm'.toInt = sm.toInt + 1 := by rw [e1]; exact i_p1 (by omega) (by omega)
    intro j hj
    have ec : mt'.toNatClampNeg = sm.toNatClampNeg + 1 := by rw [cl_eq, cl_eq, hm]; omega
    by_cases z : j = sm.toNatClampNeg
    · rw [e2, e3, e4, f2, f3, f4, ec, z, pk_us, pk_us, pk_us, pk_us, pk_us, pk_us]; exact ⟨rfl, rfl, rfl⟩
    · have z2 : j + 1 ≠ sm.toNatClampNeg + 1 := by omega
      rw [e2, e3, e4, f2, f3, f4, ec, pk_un z, pk_un z, pk_un z, pk_un z2, pk_un z2, pk_un z2]
      rw [cl_eq] at z
      exact hr j (by omega)
  · obtain ⟨e1, e2, e3, e4⟩ := a2 q
    obtain ⟨f1, f2, f3, f4⟩ := b2 q
    refine ⟨e1.trans f1.symm, ?_⟩
    rw [e1, e2, e3, e4, f2, f3, f4]; exact hr
theorem it_eq {md md' mi' ug sx : Int32} {us us' mus' : Nat → Int32} (a1 : itemOk ug sx → md < 30 → md' = md + 1 ∧ us' = upd us md.toNatClampNeg ug) (a2 : ¬ (itemOk ug sx ∧ md < 30) → md' = md ∧ us' = us)
    (b1 : itemOk ug sx → md < 30 → mi' = md + 1 ∧ mus' = upd us md.toNatClampNeg ug) (b2 : ¬ (itemOk ug sx ∧ md < 30) → mi' = md ∧ mus' = us) : md' = mi' ∧ us' = mus' := by
  by_cases q : itemOk ug sx ∧ md < 30
  · exact ⟨(a1 q.1 q.2).1.trans (b1 q.1 q.2).1.symm, (a1 q.1 q.2).2.trans (b1 q.1 q.2).2.symm⟩
  · exact ⟨(a2 q).1.trans (b2 q).1.symm, (a2 q).2.trans (b2 q).2.symm⟩
theorem near_eq {md nm : Int32} (h0 : 0 ≤ md.toInt) : (if md = 0 then (-1) else (if 0 < (if md - 1 < nm then md - 1 else nm) then (if md - 1 < nm then md - 1 else nm) else 0) : Int32) = if md = 0 then (-1) else if nm < 0 then 0 else if nm < md then nm else md - 1 := by
  by_cases q : md = 0
  · rw [if_pos q, if_pos q]
  · rw [if_neg q, if_neg q]
    have hm := i_ne q
    rw [Int32.toInt_zero] at hm
    have e1 := i_s1 h0
    have key : ∀ a b : Int32, a.toInt = b.toInt → a = b := fun a b h => Int32.toInt_inj.mp h
    simp only [i_lt, Int32.toInt_zero]
    split <;> split <;> (try split) <;> (try split) <;> (apply key; try rw [Int32.toInt_zero]) <;> omega
theorem lt_cong {M N : Nat → Prop} {n : Nat} {r : Int32} (h : ltS M n r) (e : ∀ j, j < n → (M j ↔ N j)) : ltS N n r := by
  rcases h with ⟨h1, h2⟩ | ⟨j, h1, h2, h3, h4⟩
  · exact Or.inl ⟨h1, fun j hj g => h2 j hj ((e j hj).mpr g)⟩
  · exact Or.inr ⟨j, h1, h2, (e j h1).mp h3, fun i hi g => h4 i hi ((e i (by omega)).mpr g)⟩
theorem rel_lt {sm co te : Int32} {kd of cd mkd mof mcd : Nat → Int32} {r q : Int32} (hr : relS sm kd of cd mkd mof mcd) (h : ltS (fun j => kd j = 4 ∧ of j = co ∧ cd j = te) sm.toInt.toNat r) (g : ltS (fun j => mkd (j + 1) = 4 ∧ mof (j + 1) = co ∧ mcd (j + 1) = te) sm.toInt.toNat q) : r = q := by
  refine ltS_eq (lt_cong h (fun j hj => ?_)) g
  obtain ⟨e1, e2, e3⟩ := hr j (by omega)
  rw [e1, e2, e3]
theorem z_ge : 0 ≤ (0 : Int32).toInt := by decide
theorem z_l20 : (0 : Int32).toInt < 20 := by decide
theorem z_le : (0 : Int32).toInt ≤ (0 : Int32).toInt := by decide
theorem z_20 : (0 : Int32).toInt ≤ 20 := by decide
theorem z_30 : (0 : Int32).toInt < 30 := by decide
theorem z_ft : fits .byte (.int 0) = true := by decide
theorem cf_0 : cfI 0 0 0 (fun _ => 0) (fun _ => 0) (fun _ => 0) (fun _ => 0) (fun _ => 0) (fun _ => 0) :=
  ⟨z_ge, by decide, fun _ => ⟨z_ge, z_l20⟩, fun j h1 h2 => by rw [Int32.toInt_zero] at h2; omega, fun _ => ⟨z_ge, z_le⟩, ⟨z_ge, by decide, fun j h => by rw [Int32.toInt_zero] at h; omega⟩, z_ge, z_20, fun j h => by rw [Int32.toInt_zero] at h; omega⟩
theorem fit_0 : fitB (fun _ => 0) := fun _ => z_ft
theorem rn_0 : rnI 0 0 0 0 0 0 (fun _ => 0) (fun _ => 0) (fun _ => 0) (fun _ => 0) (fun _ => 0) :=
  ⟨z_ge, z_le, z_ge, z_20, z_ge, by decide, z_ge, by decide, z_ge, by decide, fit_0, fun _ => z_ge, fun _ => z_ge, fun _ => ⟨z_ge, z_le⟩, fit_0⟩
theorem mc_0 : mcI 0 0 0 (fun _ => 0) (fun _ => 0) (fun _ => 0) (fun _ => 0) (fun _ => 0) :=
  ⟨z_ge, by decide, fun _ => ⟨z_ge, z_l20⟩, fun j h1 h2 => by rw [Int32.toInt_zero] at h2; omega, ⟨z_ge, by decide, fun j h => by rw [Int32.toInt_zero] at h; omega⟩, z_ge, z_20, fun j h1 h => by rw [Int32.toInt_zero] at h; omega⟩
theorem mr_0 : mrI 0 0 0 0 (fun _ => 0) (fun _ => 0) (fun _ => 0) (fun _ => 0) (fun _ => 0) (fun _ => 0) :=
  ⟨z_ge, z_le, z_ge, z_20, z_ge, by decide, fit_0, fun _ => ⟨z_ge, z_le⟩, fun _ => ⟨z_ge, z_le⟩, fun _ => z_30, fun _ => ⟨z_ge, z_20⟩, fun _ => ⟨z_ge, z_le⟩⟩
theorem rel_0 : relS 0 (fun _ => 0) (fun _ => 0) (fun _ => 0) (fun _ => 0) (fun _ => 0) (fun _ => 0) := fun j h => by rw [Int32.toInt_zero] at h; omega
/-- the script's places -/
theorem ll_len {L : Nat} (h : L ≤ 2560) : (Int32.ofNat L - 5).toInt = (L : Int) - 5 := by
  have e1 : (Int32.ofNat L).toInt = (L : Int) := nI_toInt (n := L) (by omega)
  have e5 : (5 : Int32).toInt = 5 := by decide
  rw [i_sub (by rw [e1, e5]; omega) (by rw [e1, e5]; omega), e1, e5]
theorem ll_x {k L : Nat} {x4 : Int32} (ex : x4 = nI (5 * k)) (h : 5 * k ≤ L) (hL : L ≤ 2560) : x4.toInt = 5 * (k : Int) := by rw [ex, nI_toInt (by omega)]; omega
theorem ll_lt {k L : Nat} {x4 : Int32} (hL : L ≤ 2560) (ex : x4 = nI (5 * k)) (h : 5 * k ≤ L) (c : ¬ Int32.ofNat L - 5 < x4) : 5 * k + 5 ≤ L := by
  rw [i_lt, ll_len hL, ll_x ex h hL] at c; omega
theorem ll_0 {k L : Nat} {x4 : Int32} (hL : L ≤ 2560) (ex : x4 = nI (5 * k)) (h : 5 * k + 5 ≤ L) : vp_in x4 L := by
  rw [vp_in_iff, ll_x ex (by omega) hL]; omega
theorem ll_j {k L : Nat} {x4 : Int32} (hL : L ≤ 2560) (ex : x4 = nI (5 * k)) (h : 5 * k + 5 ≤ L) (j : Int32) {n : Int} (hj : j.toInt = n) (h0 : 0 ≤ n) (h5 : n < 5) : vp_in (x4 + j) L := by
  have e := ll_x ex (by omega) hL
  rw [vp_in_iff, i_add (by omega) (by omega), e, hj]; omega
theorem ll_5 (k : Nat) : nI (5 * k) + 5 = nI (5 * (k + 1)) := nI_add (5 * k) 5
