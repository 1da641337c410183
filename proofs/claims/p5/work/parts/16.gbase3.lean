/-! the calls that make something, and what holds behind them -/
def stmtN (n p ln : Int32) : Int32 := if p < 0 ∨ 19 < p ∨ ln < 1 ∨ 9999 < ln then n else if n < 100 then n + 1 else n
def itemOk (ug sz : Int32) : Prop := ¬ (ug < 0 ∨ 2 < ug ∨ sz < 1 ∨ (if ug = 1 then 4 else 9) < sz)
def stepA (n md st im : Int32) : Int32 := if st < 1 ∨ n < st ∨ md ≤ im then (-2) else if im < (-21) then (-4) else 1
def changeA (md : Int32) (us : Nat → Int32) (im : Int32) : Int32 := if im < 0 ∨ md ≤ im then (-2) else if us im.toNatClampNeg = 2 then 0 else 1
theorem lt_100 {n : Int32} (h : n < 100) : n.toInt < 100 := by rw [i_lt] at h; exact h
theorem p1_100 {n : Int32} (h0 : 0 ≤ n.toInt) (h : n < 100) : (n + 1).toInt = n.toInt + 1 := i_p1 (by have := lt_100 h; omega) (by omega)
theorem cf_stmt {sn sn' md sm pa : Int32} {pg pg' ds ds' fo fo' ss kd of : Nat → Int32} (hc : cfI sn md sm pg ds fo ss kd of) (hlt : sn < 100) (hpa : vp_in pa 20) (e1 : sn' = sn + 1) (e2 : pg' = upd pg sn'.toNatClampNeg pa) (e3 : ds' = upd ds sn'.toNatClampNeg (-1)) (e4 : ∀ j, fo' j = fo j ∨ fo' j = sn') : cfI sn' md sm pg' ds' fo' ss kd of := by
  obtain ⟨hsn0, hsn1, hpg, hds, hfo, hit, hsm0, hsm1, hstp⟩ := hc
  have hs : sn'.toInt = sn.toInt + 1 := by rw [e1]; exact p1_100 hsn0 hlt
  have hl := lt_100 hlt
  rw [vp_in_iff] at hpa
  refine ⟨by omega, by omega, ?_, ?_, ?_, hit, hsm0, hsm1, hstp⟩
  · rw [e2]; exact up_all (P := fun x => 0 ≤ x.toInt ∧ x.toInt < 20) hpg ⟨hpa.1, by have := hpa.2; omega⟩
  · intro j h1 h2
    by_cases q : j = sn'.toNatClampNeg
    · rw [e3, q, pk_us]
      have : (-1 : Int32).toInt = -1 := by decide
      have := hit.1
      omega
    · rw [e3, pk_un q]
      refine hds j h1 ?_
      rw [cl_eq] at q
      omega
  · intro j
    rcases e4 j with e | e <;> rw [e]
    · have := hfo j; omega
    · omega
theorem rn_sn {sn sn' sd sd' op nl nx nw : Int32} {bs pf lp nu kb : Nat → Int32} (hr : rnI sn sd op nl nx nw bs pf lp nu kb) (h1 : sn.toInt ≤ sn'.toInt) (h2 : 0 ≤ sd'.toInt ∧ sd'.toInt ≤ sn'.toInt) : rnI sn' sd' op nl nx nw bs pf lp nu kb := by
  obtain ⟨hsd0, hsd1, hop0, hop1, hnl0, hnl1, hnx0, hnx1, hnw0, hnw1, hfb, hpf, hlp, hnu, hfk⟩ := hr
  exact ⟨h2.1, h2.2, hop0, hop1, hnl0, hnl1, hnx0, hnx1, hnw0, hnw1, hfb, hpf, hlp, fun j => by have := hnu j; omega, hfk⟩
theorem rn_bs {sn sd op nl nx nw : Int32} {bs bs' pf lp nu kb : Nat → Int32} (hr : rnI sn sd op nl nx nw bs pf lp nu kb) (h : fitB bs → fitB bs') : rnI sn sd op nl nx nw bs' pf lp nu kb := by
  obtain ⟨hsd0, hsd1, hop0, hop1, hnl0, hnl1, hnx0, hnx1, hnw0, hnw1, hfb, hpf, hlp, hnu, hfk⟩ := hr
  exact ⟨hsd0, hsd1, hop0, hop1, hnl0, hnl1, hnx0, hnx1, hnw0, hnw1, h hfb, hpf, hlp, hnu, hfk⟩
theorem cf_item {sn md md' sm sx : Int32} {pg ds fo ss ss' kd of : Nat → Int32} (hc : cfI sn md sm pg ds fo ss kd of) (hlt : md < 30) (h1 : 1 ≤ sx.toInt) (h9 : sx.toInt ≤ 9) (e1 : md' = md + 1) (e2 : ss' = upd ss md.toNatClampNeg sx) : cfI sn md' sm pg ds fo ss' kd of := by
  obtain ⟨hsn0, hsn1, hpg, hds, hfo, hit, hsm0, hsm1, hstp⟩ := hc
  obtain ⟨ha, hb, hd⟩ := hit
  have hl : md.toInt < 30 := by rw [i_lt] at hlt; exact hlt
  have hm : md'.toInt = md.toInt + 1 := by rw [e1]; exact i_p1 (by omega) (by omega)
  refine ⟨hsn0, hsn1, hpg, fun j a b => by have := hds j a b; omega, hfo, ⟨by omega, by omega, ?_⟩, hsm0, hsm1, fun j a b => by have := hstp j a b; omega⟩
  intro j hj
  by_cases q : j = md.toNatClampNeg
  · rw [e2, q, pk_us]; exact ⟨h1, h9⟩
  · rw [e2, pk_un q]
    rw [cl_eq] at q
    exact hd j (by omega)
theorem cf_step {sn md sm st im : Int32} {pg ds ds' fo ss kd of : Nat → Int32} (hc : cfI sn md sm pg ds fo ss kd of) (h1 : -21 ≤ im.toInt) (h2 : im.toInt < md.toInt) (e1 : ds' = upd ds st.toNatClampNeg im) : cfI sn md sm pg ds' fo ss kd of := by
  obtain ⟨hsn0, hsn1, hpg, hds, hfo, hit, hsm0, hsm1, hstp⟩ := hc
  refine ⟨hsn0, hsn1, hpg, ?_, hfo, hit, hsm0, hsm1, hstp⟩
  intro j a b
  by_cases q : j = st.toNatClampNeg
  · rw [e1, q, pk_us]; exact ⟨h1, h2⟩
  · rw [e1, pk_un q]; exact hds j a b
theorem cf_stop {sn md sm sm' kn oo : Int32} {pg ds fo ss kd kd' of of' : Nat → Int32} (hc : cfI sn md sm pg ds fo ss kd of) (hlt : sm < 20) (h3 : kn = 3 → 0 ≤ oo.toInt ∧ oo.toInt < md.toInt) (e1 : sm' = sm + 1) (e2 : kd' = upd kd sm.toNatClampNeg kn) (e3 : of' = upd of sm.toNatClampNeg oo) : cfI sn md sm' pg ds fo ss kd' of' := by
  obtain ⟨hsn0, hsn1, hpg, hds, hfo, hit, hsm0, hsm1, hstp⟩ := hc
  have hl : sm.toInt < 20 := by rw [i_lt] at hlt; exact hlt
  have hm : sm'.toInt = sm.toInt + 1 := by rw [e1]; exact i_p1 (by omega) (by omega)
  refine ⟨hsn0, hsn1, hpg, hds, hfo, hit, by omega, by omega, ?_⟩
  intro j hj hk
  by_cases q : j = sm.toNatClampNeg
  · rw [e2, q, pk_us] at hk; rw [e3, q, pk_us]; exact h3 hk
  · rw [e2, pk_un q] at hk; rw [e3, pk_un q]
    rw [cl_eq] at q
    exact hstp j (by omega) hk
theorem i_22 {im : Int32} (h : im ≤ (-2)) : (((-2) - im < 0 ∨ 20 ≤ (-2) - im) ↔ im < (-21)) := by
  have e2 : (-2 : Int32).toInt = -2 := by decide
  have e20 : (20 : Int32).toInt = 20 := by decide
  have e21 : (-21 : Int32).toInt = -21 := by decide
  have := i_rg im
  rw [i_le, e2] at h
  have es : ((-2) - im).toInt = -2 - im.toInt := by rw [i_sub (by rw [e2]; omega) (by rw [e2]; omega), e2]
  rw [i_lt, i_le, i_lt, es, e20, e21, Int32.toInt_zero]; omega
def stopOk (md sm k o : Int32) : Prop := ¬ (k < 0 ∨ 4 < k) ∧ ¬ ((k = 2 ∨ k = 3) ∧ (o < 0 ∨ md ≤ o)) ∧ sm < 20
theorem it_cf {sn md sm sx ug r : Int32} {pg ds fo us ss bs kd of : Nat → Int32} {u : Int32 × (Nat → Int32) × (Nat → Int32) × (Nat → Int32)} (hc : cfI sn md sm pg ds fo ss kd of)
    (w : (¬ md < 30 → r = (-1) ∧ u = (md, us, ss, bs)) ∧ (md < 30 → r = md ∧ u.1 = md + 1 ∧ u.2.1 = upd us md.toNatClampNeg ug ∧ u.2.2.1 = upd ss md.toNatClampNeg sx) ∧ (fitB bs → fitB u.2.2.2)) (h1 : 1 ≤ sx.toInt) (h9 : sx.toInt ≤ 9) : cfI sn u.1 sm pg ds fo u.2.2.1 kd of := by
  by_cases q : md < 30
  · exact cf_item hc q h1 h9 (w.2.1 q).2.1 (w.2.1 q).2.2.2
  · rw [(w.1 q).2]; exact hc
theorem so_no {sm : Int32} {kd of cd : Nat → Int32} {u : Int32 × (Nat → Int32) × (Nat → Int32) × (Nat → Int32)} (h : u = (sm, kd, of, cd)) : u.1 = sm ∧ u.2.1 = kd ∧ u.2.2.1 = of ∧ u.2.2.2 = cd := by subst h; exact ⟨rfl, rfl, rfl, rfl⟩
theorem so_cf {sn md sm kn oo co r : Int32} {pg ds fo ss kd of cd : Nat → Int32} {u : Int32 × (Nat → Int32) × (Nat → Int32) × (Nat → Int32)} (hc : cfI sn md sm pg ds fo ss kd of)
    (w : (¬ sm < 20 → r = (-1) ∧ u = (sm, kd, of, cd)) ∧ (sm < 20 → r = sm + 1 ∧ u.1 = sm + 1 ∧ u.2.1 = upd kd sm.toNatClampNeg kn ∧ u.2.2.1 = upd of sm.toNatClampNeg oo ∧ u.2.2.2 = upd cd sm.toNatClampNeg co)) (h3 : kn = 3 → 0 ≤ oo.toInt ∧ oo.toInt < md.toInt) : cfI sn md u.1 pg ds fo ss u.2.1 u.2.2.1 := by
  by_cases q : sm < 20
  · exact cf_stop hc q h3 (w.2 q).2.1 (w.2 q).2.2.1 (w.2 q).2.2.2.1
  · obtain ⟨a, b, c, -⟩ := so_no (w.1 q).2; rw [a, b, c]; exact hc
theorem sp_no {im : Int32} (h : (-2) < im) (h2 : im < (-21)) : False := by
  rw [i_lt] at h h2
  have e2 : (-2 : Int32).toInt = -2 := by decide
  have e21 : (-21 : Int32).toInt = -21 := by decide
  omega
theorem sp_ge {im : Int32} (h : ¬ im < (-21)) : -21 ≤ im.toInt := by
  rw [i_lt] at h
  have e21 : (-21 : Int32).toInt = -21 := by decide
  omega
theorem sp_ix {st sn : Int32} (h1 : ¬ st < 1) (h2 : ¬ sn < st) (h : sn.toInt ≤ 100) : vp_in st 101 := by
  rw [i_lt] at h1 h2
  have e1 : (1 : Int32).toInt = 1 := by decide
  exact ix_r (by omega) (by omega)
