/-! what the walk stands on: readers' calls, loops, the nest's links, the static row, index rows -/
theorem rd_keep {D : va_G} {cl : List vw_C} {ws : va_W} {H H1 : Heap} (hP : va_P D cl ws H) (hk : ∀ q : Nat, q < H.size → ¬ (fun _ : Nat => False) q → H1[q]? = H[q]?) : va_P D cl ws H1 := hP.kept (fun k q h => hk _ (vx_lt hP h) id)
section WL
variable {p : Program} {l : Launch} {e : Env} {R : Room} {s : State} {m : MethodId} {args : Array Value} {below : List Frame} {meth : Method} {c : Code} {cells slots : Nat} {Q : State → Prop} {pc : Nat} {rest : List Value}
theorem wl1 {A1 : Type} (μ : A1 → Nat) (I : A1 → Array Slot → Heap → List Loc → Prop) (hs : ∀ (a1 : A1) (ls : Array Slot) (H : Heap) (locs : List Loc), I a1 ls H locs → (∀ (b1 : A1) (ls' : Array Slot) (H' : Heap) (locs' : List Loc), I b1 ls' H' locs' → μ b1 < μ a1 → W p l e R s m args below meth c H' locs' cells slots Q (F0 m pc ls' rest)) → W p l e R s m args below meth c H locs cells slots Q (F0 m pc ls rest)) (a1 : A1) (ls : Array Slot) (H : Heap) (locs : List Loc) (h : I a1 ls H locs) : W p l e R s m args below meth c H locs cells slots Q (F0 m pc ls rest) := by
  have key : ∀ (n : Nat) (a1 : A1) (ls : Array Slot) (H : Heap) (locs : List Loc), I a1 ls H locs → μ a1 < n → W p l e R s m args below meth c H locs cells slots Q (F0 m pc ls rest) := by
    intro n
    induction n with
    | zero => intro _ _ _ _ _ h; exact absurd h (Nat.not_lt_zero _)
    | succ n ih => intro a1 ls H locs h hn; exact hs a1 ls H locs h (fun b1 ls' H' locs' hb hm => ih b1 ls' H' locs' hb (Nat.lt_of_lt_of_le hm (Nat.le_of_lt_succ hn)))
  exact key _ a1 ls H locs h (Nat.lt_succ_self _)
theorem wl2 {A1 A2 : Type} (μ : A1 → A2 → Nat) (I : A1 → A2 → Array Slot → Heap → List Loc → Prop) (hs : ∀ (a1 : A1) (a2 : A2) (ls : Array Slot) (H : Heap) (locs : List Loc), I a1 a2 ls H locs → (∀ (b1 : A1) (b2 : A2) (ls' : Array Slot) (H' : Heap) (locs' : List Loc), I b1 b2 ls' H' locs' → μ b1 b2 < μ a1 a2 → W p l e R s m args below meth c H' locs' cells slots Q (F0 m pc ls' rest)) → W p l e R s m args below meth c H locs cells slots Q (F0 m pc ls rest)) (a1 : A1) (a2 : A2) (ls : Array Slot) (H : Heap) (locs : List Loc) (h : I a1 a2 ls H locs) : W p l e R s m args below meth c H locs cells slots Q (F0 m pc ls rest) := by
  have key : ∀ (n : Nat) (a1 : A1) (a2 : A2) (ls : Array Slot) (H : Heap) (locs : List Loc), I a1 a2 ls H locs → μ a1 a2 < n → W p l e R s m args below meth c H locs cells slots Q (F0 m pc ls rest) := by
    intro n
    induction n with
    | zero => intro _ _ _ _ _ _ h; exact absurd h (Nat.not_lt_zero _)
    | succ n ih => intro a1 a2 ls H locs h hn; exact hs a1 a2 ls H locs h (fun b1 b2 ls' H' locs' hb hm => ih b1 b2 ls' H' locs' hb (Nat.lt_of_lt_of_le hm (Nat.le_of_lt_succ hn)))
  exact key _ a1 a2 ls H locs h (Nat.lt_succ_self _)
theorem wl3 {A1 A2 A3 : Type} (μ : A1 → A2 → A3 → Nat) (I : A1 → A2 → A3 → Array Slot → Heap → List Loc → Prop) (hs : ∀ (a1 : A1) (a2 : A2) (a3 : A3) (ls : Array Slot) (H : Heap) (locs : List Loc), I a1 a2 a3 ls H locs → (∀ (b1 : A1) (b2 : A2) (b3 : A3) (ls' : Array Slot) (H' : Heap) (locs' : List Loc), I b1 b2 b3 ls' H' locs' → μ b1 b2 b3 < μ a1 a2 a3 → W p l e R s m args below meth c H' locs' cells slots Q (F0 m pc ls' rest)) → W p l e R s m args below meth c H locs cells slots Q (F0 m pc ls rest)) (a1 : A1) (a2 : A2) (a3 : A3) (ls : Array Slot) (H : Heap) (locs : List Loc) (h : I a1 a2 a3 ls H locs) : W p l e R s m args below meth c H locs cells slots Q (F0 m pc ls rest) := by
  have key : ∀ (n : Nat) (a1 : A1) (a2 : A2) (a3 : A3) (ls : Array Slot) (H : Heap) (locs : List Loc), I a1 a2 a3 ls H locs → μ a1 a2 a3 < n → W p l e R s m args below meth c H locs cells slots Q (F0 m pc ls rest) := by
    intro n
    induction n with
    | zero => intro _ _ _ _ _ _ _ h; exact absurd h (Nat.not_lt_zero _)
    | succ n ih => intro a1 a2 a3 ls H locs h hn; exact hs a1 a2 a3 ls H locs h (fun b1 b2 b3 ls' H' locs' hb hm => ih b1 b2 b3 ls' H' locs' hb (Nat.lt_of_lt_of_le hm (Nat.le_of_lt_succ hn)))
  exact key _ a1 a2 a3 ls H locs h (Nat.lt_succ_self _)
theorem wl4 {A1 A2 A3 A4 : Type} (μ : A1 → A2 → A3 → A4 → Nat) (I : A1 → A2 → A3 → A4 → Array Slot → Heap → List Loc → Prop) (hs : ∀ (a1 : A1) (a2 : A2) (a3 : A3) (a4 : A4) (ls : Array Slot) (H : Heap) (locs : List Loc), I a1 a2 a3 a4 ls H locs → (∀ (b1 : A1) (b2 : A2) (b3 : A3) (b4 : A4) (ls' : Array Slot) (H' : Heap) (locs' : List Loc), I b1 b2 b3 b4 ls' H' locs' → μ b1 b2 b3 b4 < μ a1 a2 a3 a4 → W p l e R s m args below meth c H' locs' cells slots Q (F0 m pc ls' rest)) → W p l e R s m args below meth c H locs cells slots Q (F0 m pc ls rest)) (a1 : A1) (a2 : A2) (a3 : A3) (a4 : A4) (ls : Array Slot) (H : Heap) (locs : List Loc) (h : I a1 a2 a3 a4 ls H locs) : W p l e R s m args below meth c H locs cells slots Q (F0 m pc ls rest) := by
  have key : ∀ (n : Nat) (a1 : A1) (a2 : A2) (a3 : A3) (a4 : A4) (ls : Array Slot) (H : Heap) (locs : List Loc), I a1 a2 a3 a4 ls H locs → μ a1 a2 a3 a4 < n → W p l e R s m args below meth c H locs cells slots Q (F0 m pc ls rest) := by
    intro n
    induction n with
    | zero => intro _ _ _ _ _ _ _ _ h; exact absurd h (Nat.not_lt_zero _)
    | succ n ih => intro a1 a2 a3 a4 ls H locs h hn; exact hs a1 a2 a3 a4 ls H locs h (fun b1 b2 b3 b4 ls' H' locs' hb hm => ih b1 b2 b3 b4 ls' H' locs' hb (Nat.lt_of_lt_of_le hm (Nat.le_of_lt_succ hn)))
  exact key _ a1 a2 a3 a4 ls H locs h (Nat.lt_succ_self _)
theorem wl5 {A1 A2 A3 A4 A5 : Type} (μ : A1 → A2 → A3 → A4 → A5 → Nat) (I : A1 → A2 → A3 → A4 → A5 → Array Slot → Heap → List Loc → Prop) (hs : ∀ (a1 : A1) (a2 : A2) (a3 : A3) (a4 : A4) (a5 : A5) (ls : Array Slot) (H : Heap) (locs : List Loc), I a1 a2 a3 a4 a5 ls H locs → (∀ (b1 : A1) (b2 : A2) (b3 : A3) (b4 : A4) (b5 : A5) (ls' : Array Slot) (H' : Heap) (locs' : List Loc), I b1 b2 b3 b4 b5 ls' H' locs' → μ b1 b2 b3 b4 b5 < μ a1 a2 a3 a4 a5 → W p l e R s m args below meth c H' locs' cells slots Q (F0 m pc ls' rest)) → W p l e R s m args below meth c H locs cells slots Q (F0 m pc ls rest)) (a1 : A1) (a2 : A2) (a3 : A3) (a4 : A4) (a5 : A5) (ls : Array Slot) (H : Heap) (locs : List Loc) (h : I a1 a2 a3 a4 a5 ls H locs) : W p l e R s m args below meth c H locs cells slots Q (F0 m pc ls rest) := by
  have key : ∀ (n : Nat) (a1 : A1) (a2 : A2) (a3 : A3) (a4 : A4) (a5 : A5) (ls : Array Slot) (H : Heap) (locs : List Loc), I a1 a2 a3 a4 a5 ls H locs → μ a1 a2 a3 a4 a5 < n → W p l e R s m args below meth c H locs cells slots Q (F0 m pc ls rest) := by
    intro n
    induction n with
    | zero => intro _ _ _ _ _ _ _ _ _ h; exact absurd h (Nat.not_lt_zero _)
    | succ n ih => intro a1 a2 a3 a4 a5 ls H locs h hn; exact hs a1 a2 a3 a4 a5 ls H locs h (fun b1 b2 b3 b4 b5 ls' H' locs' hb hm => ih b1 b2 b3 b4 b5 ls' H' locs' hb (Nat.lt_of_lt_of_le hm (Nat.le_of_lt_succ hn)))
  exact key _ a1 a2 a3 a4 a5 ls H locs h (Nat.lt_succ_self _)
theorem wl6 {A1 A2 A3 A4 A5 A6 : Type} (μ : A1 → A2 → A3 → A4 → A5 → A6 → Nat) (I : A1 → A2 → A3 → A4 → A5 → A6 → Array Slot → Heap → List Loc → Prop) (hs : ∀ (a1 : A1) (a2 : A2) (a3 : A3) (a4 : A4) (a5 : A5) (a6 : A6) (ls : Array Slot) (H : Heap) (locs : List Loc), I a1 a2 a3 a4 a5 a6 ls H locs → (∀ (b1 : A1) (b2 : A2) (b3 : A3) (b4 : A4) (b5 : A5) (b6 : A6) (ls' : Array Slot) (H' : Heap) (locs' : List Loc), I b1 b2 b3 b4 b5 b6 ls' H' locs' → μ b1 b2 b3 b4 b5 b6 < μ a1 a2 a3 a4 a5 a6 → W p l e R s m args below meth c H' locs' cells slots Q (F0 m pc ls' rest)) → W p l e R s m args below meth c H locs cells slots Q (F0 m pc ls rest)) (a1 : A1) (a2 : A2) (a3 : A3) (a4 : A4) (a5 : A5) (a6 : A6) (ls : Array Slot) (H : Heap) (locs : List Loc) (h : I a1 a2 a3 a4 a5 a6 ls H locs) : W p l e R s m args below meth c H locs cells slots Q (F0 m pc ls rest) := by
  have key : ∀ (n : Nat) (a1 : A1) (a2 : A2) (a3 : A3) (a4 : A4) (a5 : A5) (a6 : A6) (ls : Array Slot) (H : Heap) (locs : List Loc), I a1 a2 a3 a4 a5 a6 ls H locs → μ a1 a2 a3 a4 a5 a6 < n → W p l e R s m args below meth c H locs cells slots Q (F0 m pc ls rest) := by
    intro n
    induction n with
    | zero => intro _ _ _ _ _ _ _ _ _ _ h; exact absurd h (Nat.not_lt_zero _)
    | succ n ih => intro a1 a2 a3 a4 a5 a6 ls H locs h hn; exact hs a1 a2 a3 a4 a5 a6 ls H locs h (fun b1 b2 b3 b4 b5 b6 ls' H' locs' hb hm => ih b1 b2 b3 b4 b5 b6 ls' H' locs' hb (Nat.lt_of_lt_of_le hm (Nat.le_of_lt_succ hn)))
  exact key _ a1 a2 a3 a4 a5 a6 ls H locs h (Nat.lt_succ_self _)
theorem wl7 {A1 A2 A3 A4 A5 A6 A7 : Type} (μ : A1 → A2 → A3 → A4 → A5 → A6 → A7 → Nat) (I : A1 → A2 → A3 → A4 → A5 → A6 → A7 → Array Slot → Heap → List Loc → Prop) (hs : ∀ (a1 : A1) (a2 : A2) (a3 : A3) (a4 : A4) (a5 : A5) (a6 : A6) (a7 : A7) (ls : Array Slot) (H : Heap) (locs : List Loc), I a1 a2 a3 a4 a5 a6 a7 ls H locs → (∀ (b1 : A1) (b2 : A2) (b3 : A3) (b4 : A4) (b5 : A5) (b6 : A6) (b7 : A7) (ls' : Array Slot) (H' : Heap) (locs' : List Loc), I b1 b2 b3 b4 b5 b6 b7 ls' H' locs' → μ b1 b2 b3 b4 b5 b6 b7 < μ a1 a2 a3 a4 a5 a6 a7 → W p l e R s m args below meth c H' locs' cells slots Q (F0 m pc ls' rest)) → W p l e R s m args below meth c H locs cells slots Q (F0 m pc ls rest)) (a1 : A1) (a2 : A2) (a3 : A3) (a4 : A4) (a5 : A5) (a6 : A6) (a7 : A7) (ls : Array Slot) (H : Heap) (locs : List Loc) (h : I a1 a2 a3 a4 a5 a6 a7 ls H locs) : W p l e R s m args below meth c H locs cells slots Q (F0 m pc ls rest) := by
  have key : ∀ (n : Nat) (a1 : A1) (a2 : A2) (a3 : A3) (a4 : A4) (a5 : A5) (a6 : A6) (a7 : A7) (ls : Array Slot) (H : Heap) (locs : List Loc), I a1 a2 a3 a4 a5 a6 a7 ls H locs → μ a1 a2 a3 a4 a5 a6 a7 < n → W p l e R s m args below meth c H locs cells slots Q (F0 m pc ls rest) := by
    intro n
    induction n with
    | zero => intro _ _ _ _ _ _ _ _ _ _ _ h; exact absurd h (Nat.not_lt_zero _)
    | succ n ih => intro a1 a2 a3 a4 a5 a6 a7 ls H locs h hn; exact hs a1 a2 a3 a4 a5 a6 a7 ls H locs h (fun b1 b2 b3 b4 b5 b6 b7 ls' H' locs' hb hm => ih b1 b2 b3 b4 b5 b6 b7 ls' H' locs' hb (Nat.lt_of_lt_of_le hm (Nat.le_of_lt_succ hn)))
  exact key _ a1 a2 a3 a4 a5 a6 a7 ls H locs h (Nat.lt_succ_self _)
theorem wl8 {A1 A2 A3 A4 A5 A6 A7 A8 : Type} (μ : A1 → A2 → A3 → A4 → A5 → A6 → A7 → A8 → Nat) (I : A1 → A2 → A3 → A4 → A5 → A6 → A7 → A8 → Array Slot → Heap → List Loc → Prop) (hs : ∀ (a1 : A1) (a2 : A2) (a3 : A3) (a4 : A4) (a5 : A5) (a6 : A6) (a7 : A7) (a8 : A8) (ls : Array Slot) (H : Heap) (locs : List Loc), I a1 a2 a3 a4 a5 a6 a7 a8 ls H locs → (∀ (b1 : A1) (b2 : A2) (b3 : A3) (b4 : A4) (b5 : A5) (b6 : A6) (b7 : A7) (b8 : A8) (ls' : Array Slot) (H' : Heap) (locs' : List Loc), I b1 b2 b3 b4 b5 b6 b7 b8 ls' H' locs' → μ b1 b2 b3 b4 b5 b6 b7 b8 < μ a1 a2 a3 a4 a5 a6 a7 a8 → W p l e R s m args below meth c H' locs' cells slots Q (F0 m pc ls' rest)) → W p l e R s m args below meth c H locs cells slots Q (F0 m pc ls rest)) (a1 : A1) (a2 : A2) (a3 : A3) (a4 : A4) (a5 : A5) (a6 : A6) (a7 : A7) (a8 : A8) (ls : Array Slot) (H : Heap) (locs : List Loc) (h : I a1 a2 a3 a4 a5 a6 a7 a8 ls H locs) : W p l e R s m args below meth c H locs cells slots Q (F0 m pc ls rest) := by
  have key : ∀ (n : Nat) (a1 : A1) (a2 : A2) (a3 : A3) (a4 : A4) (a5 : A5) (a6 : A6) (a7 : A7) (a8 : A8) (ls : Array Slot) (H : Heap) (locs : List Loc), I a1 a2 a3 a4 a5 a6 a7 a8 ls H locs → μ a1 a2 a3 a4 a5 a6 a7 a8 < n → W p l e R s m args below meth c H locs cells slots Q (F0 m pc ls rest) := by
    intro n
    induction n with
    | zero => intro _ _ _ _ _ _ _ _ _ _ _ _ h; exact absurd h (Nat.not_lt_zero _)
    | succ n ih => intro a1 a2 a3 a4 a5 a6 a7 a8 ls H locs h hn; exact hs a1 a2 a3 a4 a5 a6 a7 a8 ls H locs h (fun b1 b2 b3 b4 b5 b6 b7 b8 ls' H' locs' hb hm => ih b1 b2 b3 b4 b5 b6 b7 b8 ls' H' locs' hb (Nat.lt_of_lt_of_le hm (Nat.le_of_lt_succ hn)))
  exact key _ a1 a2 a3 a4 a5 a6 a7 a8 ls H locs h (Nat.lt_succ_self _)
theorem wl9 {A1 A2 A3 A4 A5 A6 A7 A8 A9 : Type} (μ : A1 → A2 → A3 → A4 → A5 → A6 → A7 → A8 → A9 → Nat) (I : A1 → A2 → A3 → A4 → A5 → A6 → A7 → A8 → A9 → Array Slot → Heap → List Loc → Prop) (hs : ∀ (a1 : A1) (a2 : A2) (a3 : A3) (a4 : A4) (a5 : A5) (a6 : A6) (a7 : A7) (a8 : A8) (a9 : A9) (ls : Array Slot) (H : Heap) (locs : List Loc), I a1 a2 a3 a4 a5 a6 a7 a8 a9 ls H locs → (∀ (b1 : A1) (b2 : A2) (b3 : A3) (b4 : A4) (b5 : A5) (b6 : A6) (b7 : A7) (b8 : A8) (b9 : A9) (ls' : Array Slot) (H' : Heap) (locs' : List Loc), I b1 b2 b3 b4 b5 b6 b7 b8 b9 ls' H' locs' → μ b1 b2 b3 b4 b5 b6 b7 b8 b9 < μ a1 a2 a3 a4 a5 a6 a7 a8 a9 → W p l e R s m args below meth c H' locs' cells slots Q (F0 m pc ls' rest)) → W p l e R s m args below meth c H locs cells slots Q (F0 m pc ls rest)) (a1 : A1) (a2 : A2) (a3 : A3) (a4 : A4) (a5 : A5) (a6 : A6) (a7 : A7) (a8 : A8) (a9 : A9) (ls : Array Slot) (H : Heap) (locs : List Loc) (h : I a1 a2 a3 a4 a5 a6 a7 a8 a9 ls H locs) : W p l e R s m args below meth c H locs cells slots Q (F0 m pc ls rest) := by
  have key : ∀ (n : Nat) (a1 : A1) (a2 : A2) (a3 : A3) (a4 : A4) (a5 : A5) (a6 : A6) (a7 : A7) (a8 : A8) (a9 : A9) (ls : Array Slot) (H : Heap) (locs : List Loc), I a1 a2 a3 a4 a5 a6 a7 a8 a9 ls H locs → μ a1 a2 a3 a4 a5 a6 a7 a8 a9 < n → W p l e R s m args below meth c H locs cells slots Q (F0 m pc ls rest) := by
    intro n
    induction n with
    | zero => intro _ _ _ _ _ _ _ _ _ _ _ _ _ h; exact absurd h (Nat.not_lt_zero _)
    | succ n ih => intro a1 a2 a3 a4 a5 a6 a7 a8 a9 ls H locs h hn; exact hs a1 a2 a3 a4 a5 a6 a7 a8 a9 ls H locs h (fun b1 b2 b3 b4 b5 b6 b7 b8 b9 ls' H' locs' hb hm => ih b1 b2 b3 b4 b5 b6 b7 b8 b9 ls' H' locs' hb (Nat.lt_of_lt_of_le hm (Nat.le_of_lt_succ hn)))
  exact key _ a1 a2 a3 a4 a5 a6 a7 a8 a9 ls H locs h (Nat.lt_succ_self _)
theorem wl10 {A1 A2 A3 A4 A5 A6 A7 A8 A9 A10 : Type} (μ : A1 → A2 → A3 → A4 → A5 → A6 → A7 → A8 → A9 → A10 → Nat) (I : A1 → A2 → A3 → A4 → A5 → A6 → A7 → A8 → A9 → A10 → Array Slot → Heap → List Loc → Prop) (hs : ∀ (a1 : A1) (a2 : A2) (a3 : A3) (a4 : A4) (a5 : A5) (a6 : A6) (a7 : A7) (a8 : A8) (a9 : A9) (a10 : A10) (ls : Array Slot) (H : Heap) (locs : List Loc), I a1 a2 a3 a4 a5 a6 a7 a8 a9 a10 ls H locs → (∀ (b1 : A1) (b2 : A2) (b3 : A3) (b4 : A4) (b5 : A5) (b6 : A6) (b7 : A7) (b8 : A8) (b9 : A9) (b10 : A10) (ls' : Array Slot) (H' : Heap) (locs' : List Loc), I b1 b2 b3 b4 b5 b6 b7 b8 b9 b10 ls' H' locs' → μ b1 b2 b3 b4 b5 b6 b7 b8 b9 b10 < μ a1 a2 a3 a4 a5 a6 a7 a8 a9 a10 → W p l e R s m args below meth c H' locs' cells slots Q (F0 m pc ls' rest)) → W p l e R s m args below meth c H locs cells slots Q (F0 m pc ls rest)) (a1 : A1) (a2 : A2) (a3 : A3) (a4 : A4) (a5 : A5) (a6 : A6) (a7 : A7) (a8 : A8) (a9 : A9) (a10 : A10) (ls : Array Slot) (H : Heap) (locs : List Loc) (h : I a1 a2 a3 a4 a5 a6 a7 a8 a9 a10 ls H locs) : W p l e R s m args below meth c H locs cells slots Q (F0 m pc ls rest) := by
  have key : ∀ (n : Nat) (a1 : A1) (a2 : A2) (a3 : A3) (a4 : A4) (a5 : A5) (a6 : A6) (a7 : A7) (a8 : A8) (a9 : A9) (a10 : A10) (ls : Array Slot) (H : Heap) (locs : List Loc), I a1 a2 a3 a4 a5 a6 a7 a8 a9 a10 ls H locs → μ a1 a2 a3 a4 a5 a6 a7 a8 a9 a10 < n → W p l e R s m args below meth c H locs cells slots Q (F0 m pc ls rest) := by
    intro n
    induction n with
    | zero => intro _ _ _ _ _ _ _ _ _ _ _ _ _ _ h; exact absurd h (Nat.not_lt_zero _)
    | succ n ih => intro a1 a2 a3 a4 a5 a6 a7 a8 a9 a10 ls H locs h hn; exact hs a1 a2 a3 a4 a5 a6 a7 a8 a9 a10 ls H locs h (fun b1 b2 b3 b4 b5 b6 b7 b8 b9 b10 ls' H' locs' hb hm => ih b1 b2 b3 b4 b5 b6 b7 b8 b9 b10 ls' H' locs' hb (Nat.lt_of_lt_of_le hm (Nat.le_of_lt_succ hn)))
  exact key _ a1 a2 a3 a4 a5 a6 a7 a8 a9 a10 ls H locs h (Nat.lt_succ_self _)
theorem wl11 {A1 A2 A3 A4 A5 A6 A7 A8 A9 A10 A11 : Type} (μ : A1 → A2 → A3 → A4 → A5 → A6 → A7 → A8 → A9 → A10 → A11 → Nat) (I : A1 → A2 → A3 → A4 → A5 → A6 → A7 → A8 → A9 → A10 → A11 → Array Slot → Heap → List Loc → Prop) (hs : ∀ (a1 : A1) (a2 : A2) (a3 : A3) (a4 : A4) (a5 : A5) (a6 : A6) (a7 : A7) (a8 : A8) (a9 : A9) (a10 : A10) (a11 : A11) (ls : Array Slot) (H : Heap) (locs : List Loc), I a1 a2 a3 a4 a5 a6 a7 a8 a9 a10 a11 ls H locs → (∀ (b1 : A1) (b2 : A2) (b3 : A3) (b4 : A4) (b5 : A5) (b6 : A6) (b7 : A7) (b8 : A8) (b9 : A9) (b10 : A10) (b11 : A11) (ls' : Array Slot) (H' : Heap) (locs' : List Loc), I b1 b2 b3 b4 b5 b6 b7 b8 b9 b10 b11 ls' H' locs' → μ b1 b2 b3 b4 b5 b6 b7 b8 b9 b10 b11 < μ a1 a2 a3 a4 a5 a6 a7 a8 a9 a10 a11 → W p l e R s m args below meth c H' locs' cells slots Q (F0 m pc ls' rest)) → W p l e R s m args below meth c H locs cells slots Q (F0 m pc ls rest)) (a1 : A1) (a2 : A2) (a3 : A3) (a4 : A4) (a5 : A5) (a6 : A6) (a7 : A7) (a8 : A8) (a9 : A9) (a10 : A10) (a11 : A11) (ls : Array Slot) (H : Heap) (locs : List Loc) (h : I a1 a2 a3 a4 a5 a6 a7 a8 a9 a10 a11 ls H locs) : W p l e R s m args below meth c H locs cells slots Q (F0 m pc ls rest) := by
  have key : ∀ (n : Nat) (a1 : A1) (a2 : A2) (a3 : A3) (a4 : A4) (a5 : A5) (a6 : A6) (a7 : A7) (a8 : A8) (a9 : A9) (a10 : A10) (a11 : A11) (ls : Array Slot) (H : Heap) (locs : List Loc), I a1 a2 a3 a4 a5 a6 a7 a8 a9 a10 a11 ls H locs → μ a1 a2 a3 a4 a5 a6 a7 a8 a9 a10 a11 < n → W p l e R s m args below meth c H locs cells slots Q (F0 m pc ls rest) := by
    intro n
    induction n with
    | zero => intro _ _ _ _ _ _ _ _ _ _ _ _ _ _ _ h; exact absurd h (Nat.not_lt_zero _)
    | succ n ih => intro a1 a2 a3 a4 a5 a6 a7 a8 a9 a10 a11 ls H locs h hn; exact hs a1 a2 a3 a4 a5 a6 a7 a8 a9 a10 a11 ls H locs h (fun b1 b2 b3 b4 b5 b6 b7 b8 b9 b10 b11 ls' H' locs' hb hm => ih b1 b2 b3 b4 b5 b6 b7 b8 b9 b10 b11 ls' H' locs' hb (Nat.lt_of_lt_of_le hm (Nat.le_of_lt_succ hn)))
  exact key _ a1 a2 a3 a4 a5 a6 a7 a8 a9 a10 a11 ls H locs h (Nat.lt_succ_self _)
theorem wl12 {A1 A2 A3 A4 A5 A6 A7 A8 A9 A10 A11 A12 : Type} (μ : A1 → A2 → A3 → A4 → A5 → A6 → A7 → A8 → A9 → A10 → A11 → A12 → Nat) (I : A1 → A2 → A3 → A4 → A5 → A6 → A7 → A8 → A9 → A10 → A11 → A12 → Array Slot → Heap → List Loc → Prop) (hs : ∀ (a1 : A1) (a2 : A2) (a3 : A3) (a4 : A4) (a5 : A5) (a6 : A6) (a7 : A7) (a8 : A8) (a9 : A9) (a10 : A10) (a11 : A11) (a12 : A12) (ls : Array Slot) (H : Heap) (locs : List Loc), I a1 a2 a3 a4 a5 a6 a7 a8 a9 a10 a11 a12 ls H locs → (∀ (b1 : A1) (b2 : A2) (b3 : A3) (b4 : A4) (b5 : A5) (b6 : A6) (b7 : A7) (b8 : A8) (b9 : A9) (b10 : A10) (b11 : A11) (b12 : A12) (ls' : Array Slot) (H' : Heap) (locs' : List Loc), I b1 b2 b3 b4 b5 b6 b7 b8 b9 b10 b11 b12 ls' H' locs' → μ b1 b2 b3 b4 b5 b6 b7 b8 b9 b10 b11 b12 < μ a1 a2 a3 a4 a5 a6 a7 a8 a9 a10 a11 a12 → W p l e R s m args below meth c H' locs' cells slots Q (F0 m pc ls' rest)) → W p l e R s m args below meth c H locs cells slots Q (F0 m pc ls rest)) (a1 : A1) (a2 : A2) (a3 : A3) (a4 : A4) (a5 : A5) (a6 : A6) (a7 : A7) (a8 : A8) (a9 : A9) (a10 : A10) (a11 : A11) (a12 : A12) (ls : Array Slot) (H : Heap) (locs : List Loc) (h : I a1 a2 a3 a4 a5 a6 a7 a8 a9 a10 a11 a12 ls H locs) : W p l e R s m args below meth c H locs cells slots Q (F0 m pc ls rest) := by
  have key : ∀ (n : Nat) (a1 : A1) (a2 : A2) (a3 : A3) (a4 : A4) (a5 : A5) (a6 : A6) (a7 : A7) (a8 : A8) (a9 : A9) (a10 : A10) (a11 : A11) (a12 : A12) (ls : Array Slot) (H : Heap) (locs : List Loc), I a1 a2 a3 a4 a5 a6 a7 a8 a9 a10 a11 a12 ls H locs → μ a1 a2 a3 a4 a5 a6 a7 a8 a9 a10 a11 a12 < n → W p l e R s m args below meth c H locs cells slots Q (F0 m pc ls rest) := by
    intro n
    induction n with
    | zero => intro _ _ _ _ _ _ _ _ _ _ _ _ _ _ _ _ h; exact absurd h (Nat.not_lt_zero _)
    | succ n ih => intro a1 a2 a3 a4 a5 a6 a7 a8 a9 a10 a11 a12 ls H locs h hn; exact hs a1 a2 a3 a4 a5 a6 a7 a8 a9 a10 a11 a12 ls H locs h (fun b1 b2 b3 b4 b5 b6 b7 b8 b9 b10 b11 b12 ls' H' locs' hb hm => ih b1 b2 b3 b4 b5 b6 b7 b8 b9 b10 b11 b12 ls' H' locs' hb (Nat.lt_of_lt_of_le hm (Nat.le_of_lt_succ hn)))
  exact key _ a1 a2 a3 a4 a5 a6 a7 a8 a9 a10 a11 a12 ls H locs h (Nat.lt_succ_self _)
end WL
def nwFs : List (String × Nat × String × String × String × String) := [(RX4, 83, "CobolDebugger$Items", "made", "I", RX4), (RX4, 129, "CobolDebugger$Kept", "rows", "I", RX4), (RX4, 166, "CobolDebugger$Stops", "made", "I", RX4), (RX4, 170, "CobolDebugger$Performings", "open", "I", RX4), (RX1, 45, "CobolDebugger$Items", "bytes", "[B", RX4)]
def nwMs : List (String × Nat × MethodName × String) := [(RX4, 34, yX0_init, RX4), (RX4, 41, yX3_init, RX4), (RX4, 48, yX2_init, RX4), (RX4, 55, yX1_init, RX4), (RX4, 75, yX0_canBe, RX4), (RX4, 79, yX0_make, RX4), (RX4, 86, yX0_has, RX4), (RX4, 89, yX3_make, RX4), (RX4, 99, yX3_leastBehind, RX4), (RX4, 110, yX0_isBad, RX4), (RX4, 118, yX0_says, RX4), (RX4, 122, yX0_isConstant, RX4), (RX4, 125, yX0_write, RX4), (RX4, 135, yX2_performer, RX4), (RX4, 139, yX3_leastForTask, RX4), (RX4, 150, yX0_hasByte, RX4), (RX4, 158, yX0_byteAt, RX4), (RX4, 162, yX0_setByte, RX4), (RX4, 173, yX3_leastAhead, RX4), (RX4, 176, yX1_keep, RX4), (RX4, 190, yX0_add, RX4), (RX4, 193, yX2_enter, RX4), (RX4, 196, yX1_noteEntered, RX4), (RX4, 199, yX2_endsAt, RX4), (RX4, 202, yX2_leave, RX4), (RX4, 205, yX1_noteLeft, RX4), (RX4, 208, yX1_takeNewest, RX4), (RX4, 211, yX1_newestStatement, RX4), (RX4, 214, yX1_restoreBytes, RX4), (RX4, 218, yX1_newestEntered, RX4), (RX4, 222, yX2_forgetNewest, RX4), (RX4, 225, yX1_newestLeft, RX4), (RX4, 228, yX2_reopen, RX4), (RX1, 41, yX0_has, RX4), (RX3, 29, yX0_isBad, RX4), (RX3, 35, yX0_says, RX4)]
/-- the links between nest mates, as a state has them -/
def nW (U : State) : Prop := (∀ q ∈ nwFs, va_Nw (.fieldLinkNest q.1 q.2.1 q.2.2.1 q.2.2.2.1 q.2.2.2.2.1 q.2.2.2.2.2) U) ∧ ∀ q ∈ nwMs, va_Nw (.methodLinkNest q.1 q.2.1 q.2.2.1 q.2.2.2) U
theorem nW_warm {s U : State} (hW : s.WarmedH U.vm) (h : nW s) : nW U := ⟨fun q hq => va_Nw.warmF hW (h.1 q hq), fun q hq => va_Nw.warmM hW (h.2 q hq)⟩
theorem nW_same {U : State} {g : JFrame} {mk : MethodId} {a : Array Value} (h : nW U) : nW (U.calling g mk a) := ⟨fun q hq => va_Nw.same rfl rfl (h.1 q hq), fun q hq => va_Nw.same rfl rfl (h.2 q hq)⟩
theorem nwf {U : State} (h : nW U) (q : String × Nat × String × String × String × String) (hq : q ∈ nwFs) : va_Nw (.fieldLinkNest q.1 q.2.1 q.2.2.1 q.2.2.2.1 q.2.2.2.2.1 q.2.2.2.2.2) U := h.1 q hq
theorem nwm {U : State} (h : nW U) (q : String × Nat × MethodName × String) (hq : q ∈ nwMs) : va_Nw (.methodLinkNest q.1 q.2.1 q.2.2.1 q.2.2.2) U := h.2 q hq
/-- the static row of tens -/
def tn_v : Nat → Int64 := fun j => match j with | 0 => 1 | 1 => 10 | 2 => 100 | 3 => 1000 | 4 => 10000 | 5 => 100000 | 6 => 1000000 | 7 => 10000000 | 8 => 100000000 | _ => 1000000000
def tnW (t : Nat) (A : Nat → Prop) (U : State) : Prop := va_Z "CobolDebugger$Items" "TENS" "[J" (.ref t) A U U.heap ∧ va_T .long t 10 (fun j => .long (tn_v j)) A U U.heap
theorem tn_same {t : Nat} {A : Nat → Prop} {U : State} {g : JFrame} {mk : MethodId} {a : Array Value} (h : tnW t A U) : tnW t A (U.calling g mk a) := ⟨va_Z.moved (u := U) (U := U.calling g mk a) (Vm.Alike.refl U.vm) h.1, va_T.moved (u := U) (U := U.calling g mk a) (Vm.Alike.refl U.vm) h.2⟩
theorem tn_in {s U : State} {A B : Nat → Prop} {H : Heap} {locs : List Loc} {t : Nat} (hW : s.WarmedH U.vm) (hU : U.heap = H) (hS : va_S A s.heap H locs) (hF : ∀ q, B q → A q) (h : tnW t A s) : tnW t B U := ⟨by rw [hU]; exact ((h.1.kept hS.2.1).moved hW.alike).narrow hF, by rw [hU]; exact ((h.2.kept hS.2.1).moved hW.alike).narrow hF⟩
theorem tn_ne (j : Nat) : ¬ tn_v j = 0 := by unfold tn_v; split <;> decide
/-- Int32 by its whole number -/
theorem i_lt {a b : Int32} : a < b ↔ a.toInt < b.toInt := Int32.lt_iff_toInt_lt
theorem i_le {a b : Int32} : a ≤ b ↔ a.toInt ≤ b.toInt := Int32.le_iff_toInt_le
theorem i_rg (a : Int32) : -2147483648 ≤ a.toInt ∧ a.toInt < 2147483648 := ⟨Int32.le_toInt a, Int32.toInt_lt a⟩
theorem i_sub {a b : Int32} (h1 : -2147483648 ≤ a.toInt - b.toInt) (h2 : a.toInt - b.toInt < 2147483648) : (a - b).toInt = a.toInt - b.toInt := by
  rw [Int32.toInt_sub]; exact Int.bmod_eq_of_le (by omega) (by omega)
theorem i_add {a b : Int32} (h1 : -2147483648 ≤ a.toInt + b.toInt) (h2 : a.toInt + b.toInt < 2147483648) : (a + b).toInt = a.toInt + b.toInt := by
  rw [Int32.toInt_add]; exact Int.bmod_eq_of_le (by omega) (by omega)
theorem i_mul {a b : Int32} (h1 : -2147483648 ≤ a.toInt * b.toInt) (h2 : a.toInt * b.toInt < 2147483648) : (a * b).toInt = a.toInt * b.toInt := by
  rw [Int32.toInt_mul]; exact Int.bmod_eq_of_le (by omega) (by omega)
/-- a place below a constant -/
theorem ix_k {i : Int32} {n : Nat} (M : Int32) (hM : M.toInt = (n : Int)) (h0 : ¬ i < 0) (h1 : ¬ M ≤ i) : vp_in i n := by
  rw [vp_in_iff]; rw [i_lt, Int32.toInt_zero] at h0; rw [i_le] at h1; omega
/-- a place below a number that is itself not above a constant -/
theorem ix_m {i md : Int32} {n : Nat} (hmd : md.toInt ≤ (n : Int)) (h0 : ¬ i < 0) (h1 : ¬ md ≤ i) : vp_in i n := by
  rw [vp_in_iff]; rw [i_lt, Int32.toInt_zero] at h0; rw [i_le] at h1; omega
theorem z01 {P : Prop} [Decidable P] {r : Int32} (h : r = if P then 0 else 1) : r = 0 ↔ P := by
  by_cases q : P
  · rw [if_pos q] at h; exact ⟨fun _ => q, fun _ => h⟩
  · rw [if_neg q] at h; exact ⟨fun e => absurd (h.symm.trans e) (by decide), fun e => absurd e q⟩
theorem o01 {P : Prop} [Decidable P] {r : Int32} (h : r = if P then 1 else 0) : r = 0 ↔ ¬ P := by
  by_cases q : P
  · rw [if_pos q] at h; exact ⟨fun e => absurd (h.symm.trans e) (by decide), fun e => absurd q e⟩
  · rw [if_neg q] at h; exact ⟨fun _ => q, fun _ => h⟩
theorem ix_pf {i op : Int32} (h0 : ¬ i < 0) (h1 : ¬ op ≤ i) (h2 : op.toInt ≤ 20) : vp_in (op - 1 - i) 20 := by
  rw [i_lt, Int32.toInt_zero] at h0; rw [i_le] at h1
  have e1 : (1 : Int32).toInt = 1 := by decide
  have e2 : (op - 1).toInt = op.toInt - 1 := by rw [i_sub (by omega) (by omega), e1]
  have e3 : (op - 1 - i).toInt = op.toInt - 1 - i.toInt := by rw [i_sub (by omega) (by omega), e2]
  rw [vp_in_iff, e3]; omega
theorem ix_9 {im i : Int32} (h : vp_in im 30) (h0 : 0 ≤ i.toInt) (h1 : i.toInt < 9) : vp_in (im * 9 + i) 270 := by
  rw [vp_in_iff] at h
  have e1 : (9 : Int32).toInt = 9 := by decide
  have e2 : (im * 9).toInt = im.toInt * 9 := by rw [i_mul (by rw [e1]; omega) (by rw [e1]; omega), e1]
  have e3 : (im * 9 + i).toInt = im.toInt * 9 + i.toInt := by rw [i_add (by omega) (by omega), e2]
  rw [vp_in_iff, e3]; omega
theorem ix_r {i : Int32} {n : Nat} (h0 : 0 ≤ i.toInt) (h1 : i.toInt < (n : Int)) : vp_in i n := vp_in_iff.mpr ⟨h0, h1⟩
theorem ch_or {a b : Int32} (ha : a = 0 ∨ a = 1) (hb : b = 0 ∨ b = 1) : a ||| b = 0 ∨ a ||| b = 1 := by
  rcases ha with rfl | rfl <;> rcases hb with rfl | rfl <;> decide
theorem ch_nar {a : Int32} (ha : a = 0 ∨ a = 1) : narrow .boolean (.int a) = .int a := by
  rcases ha with rfl | rfl <;> decide
def fitB (f : Nat → Int32) : Prop := ∀ j, fits .byte (.int (f j)) = true
theorem fitB_upd {f : Nat → Int32} (h : fitB f) (k : Nat) (x : Int32) : fitB (upd f k (vp_nar .byte x)) := by
  intro j
  by_cases e : j = k
  · subst e; rw [pk_us, vp_nar_byte]; exact pk_fb _
  · rw [pk_un e]; exact h j
theorem i_m1 {i : Int32} (h : 0 ≤ i.toInt) : (i + (-1)).toInt = i.toInt - 1 := by
  have e1 : (-1 : Int32).toInt = -1 := by decide
  have := i_rg i
  rw [i_add (by omega) (by omega), e1]; omega
theorem i_p1 {i : Int32} (h : i.toInt < 1000000) (h0 : -1 ≤ i.toInt) : (i + 1).toInt = i.toInt + 1 := by
  have e1 : (1 : Int32).toInt = 1 := by decide
  rw [i_add (by omega) (by omega), e1]
theorem i_s1 {i : Int32} (h : 0 ≤ i.toInt) : (i - 1).toInt = i.toInt - 1 := by
  have e1 : (1 : Int32).toInt = 1 := by decide
  have := i_rg i
  rw [i_sub (by omega) (by omega), e1]
theorem i_n0 {i : Int32} (h : ¬ i < 0) : 0 ≤ i.toInt := by rw [i_lt, Int32.toInt_zero] at h; omega
/-- r: the least place below n, counted from one, at which M holds; 0 for none -/
def ltS (M : Nat → Prop) (n : Nat) (r : Int32) : Prop := (r = 0 ∧ ∀ j, j < n → ¬ M j) ∨ ∃ j, j < n ∧ r = nI (j + 1) ∧ M j ∧ ∀ i, i < j → ¬ M i
theorem ltS_eq {M : Nat → Prop} {n : Nat} {r q : Int32} (h : ltS M n r) (g : ltS M n q) : r = q := by
  rcases h with ⟨h1, h2⟩ | ⟨j, h1, h2, h3, h4⟩
  · rcases g with ⟨g1, g2⟩ | ⟨k, g1, g2, g3, g4⟩
    · rw [h1, g1]
    · exact absurd g3 (h2 k g1)
  · rcases g with ⟨g1, g2⟩ | ⟨k, g1, g2, g3, g4⟩
    · exact absurd h3 (g2 j h1)
    · rcases Nat.lt_trichotomy j k with a | a | a
      · exact absurd h3 (g4 j a)
      · rw [h2, g2, a]
      · exact absurd g3 (h4 k a)
theorem fr_st {st : Int32} (h : ¬ st < 1) (h2 : ¬ 0 < st) : False := by
  rw [i_lt] at h h2
  have e1 : (1 : Int32).toInt = 1 := by decide
  rw [e1] at h; rw [Int32.toInt_zero] at h2; omega
theorem fr_has (im : Int32) : im < 0 ∨ 0 ≤ im := by
  rw [i_lt, i_le, Int32.toInt_zero]; omega
/-- the answers of the calls that make something, by the numbers that there are -/
def stmtA (n p ln : Int32) : Int32 := if p < 0 ∨ 19 < p ∨ ln < 1 ∨ 9999 < ln then (-4) else if n < 100 then n + 1 else (-1)
def itemA (n ug sz : Int32) : Int32 := if ug < 0 ∨ 2 < ug ∨ sz < 1 ∨ (if ug = 1 then 4 else 9) < sz then (-4) else if n < 30 then n else (-1)
def stopA (md n k o : Int32) : Int32 := if k < 0 ∨ 4 < k then (-4) else if (k = 2 ∨ k = 3) ∧ (o < 0 ∨ md ≤ o) then (-2) else if n < 20 then n + 1 else (-1)
theorem i_19 {p : Int32} : 20 ≤ p ↔ 19 < p := by
  rw [i_le, i_lt]
  have e1 : (20 : Int32).toInt = 20 := by decide
  have e2 : (19 : Int32).toInt = 19 := by decide
  omega
theorem i_c (a b : Int32) (n : Int) (hb : b.toInt = n) (h : a.toInt ≤ n) (hne : ¬ a = b) : a < b := by
  rw [i_lt]
  have : a.toInt ≠ b.toInt := fun q => hne (Int32.toInt_inj.mp q)
  omega
theorem ix_n1 {n : Int32} {N : Nat} (M : Int32) (h0 : 0 ≤ n.toInt) (h : n < M) (hM : M.toInt + 1 ≤ (N : Int)) (hM2 : M.toInt < 1000) : vp_in (n + 1) N := by
  rw [i_lt] at h
  rw [vp_in_iff, i_p1 (by omega) (by omega)]; omega
theorem sz_9 {ug sz : Int32} (h : ¬ (ug < 0 ∨ 2 < ug ∨ sz < 1 ∨ (if ug = 1 then 4 else 9) < sz)) : 1 ≤ sz.toInt ∧ sz.toInt ≤ 9 := by
  have h1 : ¬ sz < 1 := fun q => h (Or.inr (Or.inr (Or.inl q)))
  have h2 : ¬ (if ug = 1 then (4 : Int32) else 9) < sz := fun q => h (Or.inr (Or.inr (Or.inr q)))
  rw [i_lt] at h1 h2
  have e1 : (1 : Int32).toInt = 1 := by decide
  have e4 : (4 : Int32).toInt = 4 := by decide
  have e9 : (9 : Int32).toInt = 9 := by decide
  by_cases q : ug = 1
  · rw [if_pos q] at h2; omega
  · rw [if_neg q] at h2; omega
theorem up_or (f : Nat → Int32) (k : Nat) (x : Int32) (j : Nat) : upd f k x j = f j ∨ upd f k x j = x := by
  by_cases e : j = k
  · subst e; exact Or.inr pk_us
  · exact Or.inl (pk_un e)
theorem fr_is (st : Int32) : st ≤ 0 ∨ 0 < st := by
  rw [i_lt, i_le, Int32.toInt_zero]; omega
theorem ix_9m {im i : Int32} (h : vp_in im 30) (h0 : 0 ≤ i.toInt) (h1 : i.toInt < 9) : vp_in (9 * im + i) 270 := by
  rw [Int32.mul_comm]; exact ix_9 h h0 h1
