/-! what holds behind the reference's calls -/
theorem mc_stmt {ms ms' mi mt pa : Int32} {mpg mpg' mds mds' mss mkd mof : Nat → Int32} (hc : mcI ms mi mt mpg mds mss mkd mof) (hlt : ms < 100) (hpa : 0 ≤ pa.toInt ∧ pa.toInt < 20) (e1 : ms' = ms + 1) (e2 : mpg' = upd mpg ms'.toNatClampNeg pa) (e3 : mds' = upd mds ms'.toNatClampNeg (-1)) : mcI ms' mi mt mpg' mds' mss mkd mof := by
  obtain ⟨hs0, hs1, hpg, hds, hit, ht0, ht1, hstp⟩ := hc
  have hs : ms'.toInt = ms.toInt + 1 := by rw [e1]; exact p1_100 hs0 hlt
  have hl := lt_100 hlt
  refine ⟨by omega, by omega, ?_, ?_, hit, ht0, ht1, hstp⟩
  · rw [e2]; exact up_all (P := fun x => 0 ≤ x.toInt ∧ x.toInt < 20) hpg hpa
  · intro j h1 h2
    by_cases q : j = ms'.toNatClampNeg
    · rw [e3, q, pk_us]
      have : (-1 : Int32).toInt = -1 := by decide
      have := hit.1
      omega
    · rw [e3, pk_un q]
      refine hds j h1 ?_
      rw [cl_eq] at q
      omega
theorem mr_ms {ms ms' ma ma' mp mk : Int32} {mbs mpf mka mki mko mkp : Nat → Int32} (hr : mrI ms ma mp mk mbs mpf mka mki mko mkp) (h1 : ms.toInt ≤ ms'.toInt) (h2 : 0 ≤ ma'.toInt ∧ ma'.toInt ≤ ms'.toInt) : mrI ms' ma' mp mk mbs mpf mka mki mko mkp := by
  obtain ⟨hma0, hma1, hp0, hp1, hk0, hk1, hfb, hpf, hka, hki, hko, hkp⟩ := hr
  exact ⟨h2.1, h2.2, hp0, hp1, hk0, hk1, hfb, fun j => by have := hpf j; omega, fun j => by have := hka j; omega, hki, hko, fun j => by have := hkp j; omega⟩
theorem mr_bs {ms ma mp mk : Int32} {mbs mbs' mpf mka mki mko mkp : Nat → Int32} (hr : mrI ms ma mp mk mbs mpf mka mki mko mkp) (h : fitB mbs → fitB mbs') : mrI ms ma mp mk mbs' mpf mka mki mko mkp := by
  obtain ⟨hma0, hma1, hp0, hp1, hk0, hk1, hfb, hpf, hka, hki, hko, hkp⟩ := hr
  exact ⟨hma0, hma1, hp0, hp1, hk0, hk1, h hfb, hpf, hka, hki, hko, hkp⟩
theorem mc_item {ms mi mi' mt sx : Int32} {mpg mds mss mss' mkd mof : Nat → Int32} (hc : mcI ms mi mt mpg mds mss mkd mof) (hlt : mi < 30) (h1 : 1 ≤ sx.toInt) (h9 : sx.toInt ≤ 9) (e1 : mi' = mi + 1) (e2 : mss' = upd mss mi.toNatClampNeg sx) : mcI ms mi' mt mpg mds mss' mkd mof := by
  obtain ⟨hs0, hs1, hpg, hds, hit, ht0, ht1, hstp⟩ := hc
  obtain ⟨ha, hb, hd⟩ := hit
  have hl : mi.toInt < 30 := by rw [i_lt] at hlt; exact hlt
  have hm : mi'.toInt = mi.toInt + 1 := by rw [e1]; exact i_p1 (by omega) (by omega)
  refine ⟨hs0, hs1, hpg, fun j a b => by have := hds j a b; omega, ⟨by omega, by omega, ?_⟩, ht0, ht1, fun j a b c => by have := hstp j a b c; omega⟩
  intro j hj
  by_cases q : j = mi.toNatClampNeg
  · rw [e2, q, pk_us]; exact ⟨h1, h9⟩
  · rw [e2, pk_un q]
    rw [cl_eq] at q
    exact hd j (by omega)
theorem mc_step {ms mi mt st im : Int32} {mpg mds mds' mss mkd mof : Nat → Int32} (hc : mcI ms mi mt mpg mds mss mkd mof) (h1 : -21 ≤ im.toInt) (h2 : im.toInt < mi.toInt) (e1 : mds' = upd mds st.toNatClampNeg im) : mcI ms mi mt mpg mds' mss mkd mof := by
  obtain ⟨hs0, hs1, hpg, hds, hit, ht0, ht1, hstp⟩ := hc
  refine ⟨hs0, hs1, hpg, ?_, hit, ht0, ht1, hstp⟩
  intro j a b
  by_cases q : j = st.toNatClampNeg
  · rw [e1, q, pk_us]; exact ⟨h1, h2⟩
  · rw [e1, pk_un q]; exact hds j a b
theorem mc_stop {ms mi mt mt' kn oo : Int32} {mpg mds mss mkd mkd' mof mof' : Nat → Int32} (hc : mcI ms mi mt mpg mds mss mkd mof) (hlt : mt < 20) (h3 : kn = 3 → 0 ≤ oo.toInt ∧ oo.toInt < mi.toInt) (e1 : mt' = mt + 1) (e2 : mkd' = upd mkd mt'.toNatClampNeg kn) (e3 : mof' = upd mof mt'.toNatClampNeg oo) : mcI ms mi mt' mpg mds mss mkd' mof' := by
  obtain ⟨hs0, hs1, hpg, hds, hit, ht0, ht1, hstp⟩ := hc
  have hl : mt.toInt < 20 := by rw [i_lt] at hlt; exact hlt
  have hm : mt'.toInt = mt.toInt + 1 := by rw [e1]; exact i_p1 (by omega) (by omega)
  refine ⟨hs0, hs1, hpg, hds, hit, by omega, by omega, ?_⟩
  intro j h1 hj hk
  by_cases q : j = mt'.toNatClampNeg
  · rw [e2, q, pk_us] at hk; rw [e3, q, pk_us]; exact h3 hk
  · rw [e2, pk_un q] at hk; rw [e3, pk_un q]
    rw [cl_eq] at q
    exact hstp j h1 (by omega) hk
theorem st_le {st : Int32} (h : st ≤ 0) : st < 1 := by
  rw [i_le, Int32.toInt_zero] at h; rw [i_lt]
  have e1 : (1 : Int32).toInt = 1 := by decide
  omega
theorem st_gt {st : Int32} (h : ¬ st ≤ 0) : ¬ st < 1 := by
  rw [i_le, Int32.toInt_zero] at h; rw [i_lt]
  have e1 : (1 : Int32).toInt = 1 := by decide
  omega
theorem pa_20 {pa : Int32} (h0 : ¬ pa < 0) (h1 : ¬ 19 < pa) : 0 ≤ pa.toInt ∧ pa.toInt < 20 := by
  rw [i_lt, Int32.toInt_zero] at h0; rw [i_lt] at h1
  have e1 : (19 : Int32).toInt = 19 := by decide
  omega
