/-! the face: what each call answers, said of the numbers alone -/
abbrev inr (x a b : Int32) : Prop := a ≤ x ∧ x ≤ b
theorem u_in0 {x : Int32} {n : Nat} (h : inr x 0 (nI n)) (hn : n < 2147483648) : ∃ j : Nat, j ≤ n ∧ x = nI j := u_rng2 h.1 h.2 hn
theorem u_in1 {x : Int32} {n : Nat} (h : inr x 1 (nI n)) (hn : n < 2147483648) : ∃ j : Nat, 1 ≤ j ∧ j ≤ n ∧ x = nI j := by
  obtain ⟨j, hj, rfl⟩ := u_rng2 (Int32.le_trans (by decide) h.1) h.2 hn
  exact ⟨j, (nI_leI (a := 1) (b := j) (by decide) (by omega)).mp h.1, hj, rfl⟩
theorem u_no2 {A B : Prop} (a : A) (b : B) : ¬ (¬ A ∨ ¬ B) := fun q => q.elim (fun z => z a) (fun z => z b)
theorem u_no3 {A B C : Prop} (a : A) (b : B) (c : C) : ¬ (¬ A ∨ ¬ B ∨ ¬ C) := fun q => q.elim (fun z => z a) (u_no2 b c)
def spThing (w : Nat → Nat → Nat) (x o a v g : Int32) : Int32 × (Nat → Nat → Nat) :=
  if ¬ inr x 0 11 ∨ ¬ inr o 0 7 then (-1, w) else if ¬ inr a 0 9 ∨ ¬ inr v 0 99 ∨ ¬ inr g 1 9 then (-2, w)
  else (nI (w 1 x.toNatClampNeg), wu (wu (wu (wu w 1 x.toNatClampNeg o.toNatClampNeg) 2 x.toNatClampNeg a.toNatClampNeg) 3 x.toNatClampNeg v.toNatClampNeg) 4 x.toNatClampNeg g.toNatClampNeg)
def spOne (w : Nat → Nat → Nat) (x c d : Int32) : Int32 × (Nat → Nat → Nat) :=
  if ¬ inr x 0 7 then (-1, w) else if ¬ inr c 0 9999 ∨ ¬ inr d 0 1 then (-2, w)
  else (nI (w 5 x.toNatClampNeg), wu (wu w 5 x.toNatClampNeg c.toNatClampNeg) 0 7 (if d = 1 then w 0 7 ||| 2 ^ x.toNatClampNeg else uClr (w 0 7) x.toNatClampNeg))
def bnd (w : Nat → Nat → Nat) (k q : Nat) (z : Int32) : Nat → Nat → Nat := wu w 6 k (if z = 1 then w 6 k ||| 2 ^ q else uClr (w 6 k) q)
def spBro (w : Nat → Nat → Nat) (x y z : Int32) : Int32 × (Nat → Nat → Nat) :=
  if ¬ inr x 0 7 ∨ ¬ inr y 0 7 ∨ ¬ ¬ x = y then (-1, w)
  else (nI (wPop (bnd (bnd w x.toNatClampNeg y.toNatClampNeg z) y.toNatClampNeg x.toNatClampNeg z) 8 / 2), bnd (bnd w x.toNatClampNeg y.toNatClampNeg z) y.toNatClampNeg x.toNatClampNeg z)
def spSay (n : Nat) (x : Int32) : Int32 := if ¬ inr x 33 126 then -2 else if 60 ≤ n then -4 else nI (n + 1)
def spAhead (w : Nat → Nat → Nat) (x y : Int32) : Int32 × (Nat → Nat → Nat) :=
  if ¬ inr x 0 4 ∨ ¬ inr y 0 4 ∨ ¬ ¬ x = y then (-2, w) else if 8 ≤ w 7 2 then (-4, w)
  else (nI (w 7 2 + 1), wu (wu (wu w 8 (w 7 2) x.toNatClampNeg) 9 (w 7 2) y.toNatClampNeg) 7 2 (w 7 2 + 1))
def spOf (w : Nat → Nat → Nat) (t j : Nat) : Int32 := if j = 0 then nI (w 1 t) else if j = 1 then nI (w 2 t) else if j = 2 then nI (w 3 t) else if j = 3 then nI (w 4 t) else -2
def spTold (w : Nat → Nat → Nat) (n : Nat) (x : Int32) : Int32 :=
  if 100 ≤ x then (if x.toNatClampNeg < 220 then spOf w ((x.toNatClampNeg - 100) / 10) ((x.toNatClampNeg - 100) % 10) else -2)
  else if inr x 20 27 then nI (w 6 (x.toNatClampNeg - 20)) else if inr x 10 17 then nI (w 5 (x.toNatClampNeg - 10))
  else if x = 0 then nI n else if x = 1 then nI (w 0 7) else if x = 2 then nI (w 0 8) else if x = 3 then nI (w 7 2) else -2
def lackT (w : Nat → Nat → Nat) (st t : Nat) : Nat := if st / 2 ^ t % 2 = 1 then 2 - w 2 t else 0
def crN (w : Nat → Nat → Nat) (st : Nat) : Nat → Nat
  | 0 => 0
  | t + 1 => crN w st t + lackT w st t
def crM (w : Nat → Nat → Nat) (st : Nat) : Nat → Nat
  | 0 => 0
  | t + 1 => max (crM w st t) (lackT w st t)
theorem lackT_le (w : Nat → Nat → Nat) (st t : Nat) : lackT w st t ≤ 2 := by
  unfold lackT
  split <;> omega
theorem crN_le (w : Nat → Nat → Nat) (st : Nat) : ∀ t, crN w st t ≤ 2 * t ∧ crM w st t ≤ 2 := by
  intro t
  induction t with
  | zero => exact ⟨Nat.le_refl _, Nat.zero_le _⟩
  | succ t ih =>
    have := lackT_le w st t
    unfold crN crM
    omega
def spCareers (w : Nat → Nat → Nat) (n st : Int32) : Int32 :=
  if ¬ inr n 1 8 ∨ ¬ inr st 0 4095 then -2 else nI (max (crM w st.toNatClampNeg 12) ((crN w st.toNatClampNeg 12 + n.toNatClampNeg - 1) / n.toNatClampNeg))
def spSack (w : Nat → Nat → Nat) (x c h : Int32) : Int32 :=
  if ¬ inr x 0 7 then -1 else if ¬ inr c 0 99 ∨ ¬ inr h 0 1 then -2
  else if h = 0 then nI ((dpS w x.toNatClampNeg c.toNatClampNeg (fun _ => 0) (fun _ => 0) 12).1 c.toNatClampNeg) else nI ((dpS w x.toNatClampNeg c.toNatClampNeg (fun _ => 0) (fun _ => 0) 12).2 c.toNatClampNeg)
theorem dpS_congr {w : Nat → Nat → Nat} (k c : Nat) {f g f' g' : Nat → Nat} (hf : ∀ i, i ≤ c → f i = f' i) (hg : ∀ i, i ≤ c → g i = g' i) : ∀ t i, i ≤ c → (dpS w k c f g t).1 i = (dpS w k c f' g' t).1 i ∧ (dpS w k c f g t).2 i = (dpS w k c f' g' t).2 i := by
  intro t
  induction t with
  | zero => exact fun i hi => ⟨hf i hi, hg i hi⟩
  | succ t ih =>
    intro i hi
    rw [dpS, dpS]
    split
    · exact ih i hi
    · obtain ⟨h1, h2⟩ := ih i hi
      obtain ⟨h3, h4⟩ := ih (i - w 4 t) (by omega)
      refine ⟨?_, ?_⟩
      · show ofF _ _ _ _ _ i = ofF _ _ _ _ _ i
        unfold ofF
        rw [h1, h3]
      · show ofG _ _ _ _ _ _ _ i = ofG _ _ _ _ _ _ _ i
        unfold ofG
        rw [h1, h3, h2, h4]
def rowOk (row : Int32) : Prop := ∃ v, row = nI v ∧ v < 2147483648 ∧ rOk v
/-- what ring answers -/
def SpRing (row x m h r : Int32) : Prop := (¬ inr x 0 7 ∧ r = -1) ∨ (inr x 0 7 ∧ (¬ inr m 0 999999999 ∨ ¬ inr h 0 2 ∨ ¬ rowOk row) ∧ r = -2) ∨
  (inr x 0 7 ∧ inr m 0 999999999 ∧ inr h 0 2 ∧ ∃ v N K, row = nI v ∧ v < 2147483648 ∧ rOk v ∧ rEnd (dg v 8) x.toNatClampNeg N K ∧ r = if h = 0 then nI (it (dg v 8) x.toNatClampNeg (if m.toNatClampNeg < N then m.toNatClampNeg else K + (m.toNatClampNeg - K) % (N - K))) else if h = 1 then nI N else nI (N - K))
def cOk (row n : Int32) : Prop := ∃ v d, row = nI v ∧ v < 2147483648 ∧ n = nI d ∧ 1 ≤ d ∧ d ≤ 9 ∧ v / 10 ^ d = 0
def SpSells (row n t r : Int32) : Prop := ((¬ inr t 0 10 ∨ ¬ cOk row n) ∧ r = -2) ∨ (inr t 0 10 ∧ ∃ v d, row = nI v ∧ v < 2147483648 ∧ n = nI d ∧ 1 ≤ d ∧ d ≤ 9 ∧ v / 10 ^ d = 0 ∧ r = nI (jS (dg v d) t.toNatClampNeg d).1)
def SpStop (row n t p : Int32) (r : Int64) : Prop := ((¬ inr p 0 1 ∨ ¬ inr t 0 10 ∨ ¬ cOk row n) ∧ r = -1000000000000000002) ∨ (inr p 0 1 ∧ inr t 0 10 ∧ ∃ v d, row = nI v ∧ v < 2147483648 ∧ n = nI d ∧ 1 ≤ d ∧ d ≤ 9 ∧ v / 10 ^ d = 0 ∧ r = lN ((if p.toNatClampNeg = 0 then (jS (dg v d) t.toNatClampNeg d).2.1 else (jS (dg v d) t.toNatClampNeg d).2.2) / Nat.gcd (jS (dg v d) t.toNatClampNeg d).2.1 (jS (dg v d) t.toNatClampNeg d).2.2))
def SpFits (w : Nat → Nat → Nat) (x r : Int32) : Prop := (∃ k, k < 120 ∧ hOk w (lPl k) ∧ x = nI (hCnt w k) ∧ r = nI (lRow k)) ∨ ((∀ k, k < 120 → hOk w (lPl k) → ¬ x = nI (hCnt w k)) ∧ r = if x = -1 then nI (hCnt w 120) else -6)
def spAsk (w : Nat → Nat → Nat) (x : Int32) : Int32 := if ¬ inr x 0 1 then -2 else if hCnt w 120 = 0 then -6 else if x = 0 then nI (qE (qA w 5)).1 else nI (qE (qA w 5)).2
def spDoors (n d h p : Int32) : Int64 := if ¬ inr n 0 12 ∨ ¬ inr d 1 10 ∨ ¬ inr h 0 1 ∨ ¬ inr p 0 1 then -1000000000000000002
  else lN ((if p.toNatClampNeg = 0 then cw d.toNatClampNeg n.toNatClampNeg (if h = 0 then n.toNatClampNeg else d.toNatClampNeg) else d.toNatClampNeg ^ n.toNatClampNeg) / Nat.gcd (cw d.toNatClampNeg n.toNatClampNeg (if h = 0 then n.toNatClampNeg else d.toNatClampNeg)) (d.toNatClampNeg ^ n.toNatClampNeg))
def spShelf (h w x : Int32) : Int32 := if ¬ inr h 1 5 ∨ ¬ inr w 1 5 ∨ ¬ inr x 0 1 then -2
  else if x = 1 then nI (lw (lrn 251).1 (fun i => if i < h.toNatClampNeg then w.toNatClampNeg else 0)) else if nI (lw (lrn 251).1 (fun i => if i < h.toNatClampNeg then w.toNatClampNeg else 0)) = -6 then 0 else 1
/-- what the shelf has learnt -/
def shAt (M : uM) : Prop := (M.1 46 2 = 0 ∧ ∃ L : Nat → Nat, (∀ i, M.1 47 i = nI (L i)) ∧ ∀ i, 243 ≤ i → L i = 0) ∨ (M.1 46 2 = 1 ∧ ∀ i, M.1 47 i = nI ((lrn 251).1 i))
def shLn (M : uM) : Prop := ∃ ln : Nat → Nat, (∀ i, M.1 48 i = nI (ln i)) ∧ ∀ i, 5 ≤ i → ln i = 0
theorem qX11_thing_10 : Cond.fieldLink RX11 10 (TX11 0).1 (TX11 0).2.1 (TX11 0).2.2.1 ∈ wsX11_thing := List.mem_of_getElem? (i := 1) rfl
theorem iX11_thing_X11 : ∀ w ∈ wsX110, w ∈ wsX11_thing := fun _ h => List.mem_cons_of_mem _ (List.mem_append_left _ (List.mem_append_right _ h))
theorem qX11_thing_98 : Cond.fieldLink RX11 98 (TX10 0).1 (TX10 0).2.1 (TX10 0).2.2.1 ∈ wsX11_thing := List.mem_of_getElem? (i := 2) rfl
theorem iX11_thing_X10 : ∀ w ∈ wsX100, w ∈ wsX11_thing := fun _ h => List.mem_cons_of_mem _ (List.mem_append_right _ h)
theorem qX11_thing_110 : Cond.fieldLink RX11 110 (TX10 1).1 (TX10 1).2.1 (TX10 1).2.2.1 ∈ wsX11_thing := List.mem_of_getElem? (i := 3) rfl
theorem qX11_thing_113 : Cond.fieldLink RX11 113 (TX10 2).1 (TX10 2).2.1 (TX10 2).2.2.1 ∈ wsX11_thing := List.mem_of_getElem? (i := 4) rfl
theorem qX11_thing_116 : Cond.fieldLink RX11 116 (TX10 3).1 (TX10 3).2.1 (TX10 3).2.2.1 ∈ wsX11_thing := List.mem_of_getElem? (i := 5) rfl
theorem qX11_one_10 : Cond.fieldLink RX11 10 (TX11 0).1 (TX11 0).2.1 (TX11 0).2.2.1 ∈ wsX11_one := List.mem_of_getElem? (i := 1) rfl
theorem iX11_one_X11 : ∀ w ∈ wsX110, w ∈ wsX11_one := fun _ h => List.mem_cons_of_mem _ (List.mem_append_left _ (List.mem_append_right _ h))
theorem qX11_one_119 : Cond.fieldLink RX11 119 (TX10 4).1 (TX10 4).2.1 (TX10 4).2.2.1 ∈ wsX11_one := List.mem_of_getElem? (i := 2) rfl
theorem iX11_one_X10 : ∀ w ∈ wsX100, w ∈ wsX11_one := fun _ h => List.mem_cons_of_mem _ (List.mem_append_right _ h)
theorem qX11_one_122 : Cond.fieldLink RX11 122 (TX10 7).1 (TX10 7).2.1 (TX10 7).2.2.1 ∈ wsX11_one := List.mem_of_getElem? (i := 3) rfl
theorem qX11_brothers_10 : Cond.fieldLink RX11 10 (TX11 0).1 (TX11 0).2.1 (TX11 0).2.2.1 ∈ wsX11_brothers := List.mem_of_getElem? (i := 1) rfl
theorem iX11_brothers_X11 : ∀ w ∈ wsX110, w ∈ wsX11_brothers := fun _ h => List.mem_cons_of_mem _ (List.mem_append_left _ (List.mem_append_right _ h))
theorem qX3_add_15 : Cond.fieldLink RX3 15 (TX3 1).1 (TX3 1).2.1 (TX3 1).2.2.1 ∈ wsX3_add := List.mem_of_getElem? (i := 1) rfl
theorem iX3_add_X3 : ∀ w ∈ wsX30, w ∈ wsX3_add := fun _ h => List.mem_cons_of_mem _ (List.mem_append_right _ h)
theorem qX3_add_11 : Cond.fieldLink RX3 11 (TX3 0).1 (TX3 0).2.1 (TX3 0).2.2.1 ∈ wsX3_add := List.mem_of_getElem? (i := 2) rfl
theorem qX11_say_22 : Cond.fieldLink RX11 22 (TX11 2).1 (TX11 2).2.1 (TX11 2).2.2.1 ∈ wsX11_say := List.mem_of_getElem? (i := 1) rfl
theorem iX11_say_X11 : ∀ w ∈ wsX110, w ∈ wsX11_say := fun _ h => List.mem_cons_of_mem _ (List.mem_append_left _ (List.mem_append_right _ h))
theorem qX11_say_133 : Cond.fieldLink RX11 133 (TX3 1).1 (TX3 1).2.1 (TX3 1).2.2.1 ∈ wsX11_say := List.mem_of_getElem? (i := 2) rfl
theorem iX11_say_X3 : ∀ w ∈ wsX30, w ∈ wsX11_say := fun _ h => List.mem_cons_of_mem _ (List.mem_append_right _ h)
theorem qX11_wipe_22 : Cond.fieldLink RX11 22 (TX11 2).1 (TX11 2).2.1 (TX11 2).2.2.1 ∈ wsX11_wipe := List.mem_of_getElem? (i := 1) rfl
theorem iX11_wipe_X11 : ∀ w ∈ wsX110, w ∈ wsX11_wipe := fun _ h => List.mem_cons_of_mem _ (List.mem_append_left _ (List.mem_append_right _ h))
theorem qX11_wipe_133 : Cond.fieldLink RX11 133 (TX3 1).1 (TX3 1).2.1 (TX3 1).2.2.1 ∈ wsX11_wipe := List.mem_of_getElem? (i := 2) rfl
theorem iX11_wipe_X3 : ∀ w ∈ wsX30, w ∈ wsX11_wipe := fun _ h => List.mem_cons_of_mem _ (List.mem_append_right _ h)
theorem qX11_fault_22 : Cond.fieldLink RX11 22 (TX11 2).1 (TX11 2).2.1 (TX11 2).2.2.1 ∈ wsX11_fault := List.mem_of_getElem? (i := 1) rfl
theorem iX11_fault_X11 : ∀ w ∈ wsX110, w ∈ wsX11_fault := fun _ h => List.mem_cons_of_mem _ (List.mem_append_left _ (List.mem_append_right _ h))
theorem qX8_add_16 : Cond.fieldLink RX8 16 (TX8 2).1 (TX8 2).2.1 (TX8 2).2.2.1 ∈ wsX8_add := List.mem_of_getElem? (i := 1) rfl
theorem iX8_add_X8 : ∀ w ∈ wsX80, w ∈ wsX8_add := fun _ h => List.mem_cons_of_mem _ (List.mem_append_right _ h)
theorem qX8_add_9 : Cond.fieldLink RX8 9 (TX8 0).1 (TX8 0).2.1 (TX8 0).2.2.1 ∈ wsX8_add := List.mem_of_getElem? (i := 2) rfl
theorem qX8_add_13 : Cond.fieldLink RX8 13 (TX8 1).1 (TX8 1).2.1 (TX8 1).2.2.1 ∈ wsX8_add := List.mem_of_getElem? (i := 3) rfl
theorem qX11_ahead_10 : Cond.fieldLink RX11 10 (TX11 0).1 (TX11 0).2.1 (TX11 0).2.2.1 ∈ wsX11_ahead := List.mem_of_getElem? (i := 1) rfl
theorem iX11_ahead_X11 : ∀ w ∈ wsX110, w ∈ wsX11_ahead := fun _ h => List.mem_cons_of_mem _ (List.mem_append_left _ (List.mem_append_left _ (List.mem_append_right _ h)))
theorem qX11_ahead_238 : Cond.fieldLink RX11 238 (TX10 6).1 (TX10 6).2.1 (TX10 6).2.2.1 ∈ wsX11_ahead := List.mem_of_getElem? (i := 2) rfl
theorem iX11_ahead_X10 : ∀ w ∈ wsX100, w ∈ wsX11_ahead := fun _ h => List.mem_cons_of_mem _ (List.mem_append_left _ (List.mem_append_right _ h))
theorem qX11_ahead_242 : Cond.fieldLink RX11 242 (TX8 2).1 (TX8 2).2.1 (TX8 2).2.2.1 ∈ wsX11_ahead := List.mem_of_getElem? (i := 3) rfl
theorem iX11_ahead_X8 : ∀ w ∈ wsX80, w ∈ wsX11_ahead := fun _ h => List.mem_cons_of_mem _ (List.mem_append_right _ h)
theorem qX11_forget_10 : Cond.fieldLink RX11 10 (TX11 0).1 (TX11 0).2.1 (TX11 0).2.2.1 ∈ wsX11_forget := List.mem_of_getElem? (i := 1) rfl
theorem iX11_forget_X11 : ∀ w ∈ wsX110, w ∈ wsX11_forget := fun _ h => List.mem_cons_of_mem _ (List.mem_append_left _ (List.mem_append_left _ (List.mem_append_right _ h)))
theorem qX11_forget_238 : Cond.fieldLink RX11 238 (TX10 6).1 (TX10 6).2.1 (TX10 6).2.2.1 ∈ wsX11_forget := List.mem_of_getElem? (i := 2) rfl
theorem iX11_forget_X10 : ∀ w ∈ wsX100, w ∈ wsX11_forget := fun _ h => List.mem_cons_of_mem _ (List.mem_append_left _ (List.mem_append_right _ h))
theorem qX11_forget_242 : Cond.fieldLink RX11 242 (TX8 2).1 (TX8 2).2.1 (TX8 2).2.2.1 ∈ wsX11_forget := List.mem_of_getElem? (i := 3) rfl
theorem iX11_forget_X8 : ∀ w ∈ wsX80, w ∈ wsX11_forget := fun _ h => List.mem_cons_of_mem _ (List.mem_append_right _ h)
theorem qX11_toldOfThing_10 : Cond.fieldLink RX11 10 (TX11 0).1 (TX11 0).2.1 (TX11 0).2.2.1 ∈ wsX11_toldOfThing := List.mem_of_getElem? (i := 1) rfl
theorem iX11_toldOfThing_X11 : ∀ w ∈ wsX110, w ∈ wsX11_toldOfThing := fun _ h => List.mem_cons_of_mem _ (List.mem_append_left _ (List.mem_append_right _ h))
theorem qX11_toldOfThing_98 : Cond.fieldLink RX11 98 (TX10 0).1 (TX10 0).2.1 (TX10 0).2.2.1 ∈ wsX11_toldOfThing := List.mem_of_getElem? (i := 2) rfl
theorem iX11_toldOfThing_X10 : ∀ w ∈ wsX100, w ∈ wsX11_toldOfThing := fun _ h => List.mem_cons_of_mem _ (List.mem_append_right _ h)
theorem qX11_toldOfThing_110 : Cond.fieldLink RX11 110 (TX10 1).1 (TX10 1).2.1 (TX10 1).2.2.1 ∈ wsX11_toldOfThing := List.mem_of_getElem? (i := 3) rfl
theorem qX11_toldOfThing_113 : Cond.fieldLink RX11 113 (TX10 2).1 (TX10 2).2.1 (TX10 2).2.2.1 ∈ wsX11_toldOfThing := List.mem_of_getElem? (i := 4) rfl
theorem qX11_toldOfThing_116 : Cond.fieldLink RX11 116 (TX10 3).1 (TX10 3).2.1 (TX10 3).2.2.1 ∈ wsX11_toldOfThing := List.mem_of_getElem? (i := 5) rfl
theorem qX11_told_10 : Cond.fieldLink RX11 10 (TX11 0).1 (TX11 0).2.1 (TX11 0).2.2.1 ∈ wsX11_told := List.mem_of_getElem? (i := 1) rfl
theorem iX11_told_X11 : ∀ w ∈ wsX110, w ∈ wsX11_told := fun _ h => List.mem_cons_of_mem _ (List.mem_append_left _ (List.mem_append_left _ (List.mem_append_left _ (List.mem_append_right _ h))))
theorem qX11_told_290 : Cond.fieldLink RX11 290 (TX10 5).1 (TX10 5).2.1 (TX10 5).2.2.1 ∈ wsX11_told := List.mem_of_getElem? (i := 2) rfl
theorem iX11_told_X10 : ∀ w ∈ wsX100, w ∈ wsX11_told := fun _ h => List.mem_cons_of_mem _ (List.mem_append_left _ (List.mem_append_left _ (List.mem_append_right _ h)))
theorem qX11_told_119 : Cond.fieldLink RX11 119 (TX10 4).1 (TX10 4).2.1 (TX10 4).2.2.1 ∈ wsX11_told := List.mem_of_getElem? (i := 3) rfl
theorem qX11_told_22 : Cond.fieldLink RX11 22 (TX11 2).1 (TX11 2).2.1 (TX11 2).2.2.1 ∈ wsX11_told := List.mem_of_getElem? (i := 4) rfl
theorem qX11_told_133 : Cond.fieldLink RX11 133 (TX3 1).1 (TX3 1).2.1 (TX3 1).2.2.1 ∈ wsX11_told := List.mem_of_getElem? (i := 5) rfl
theorem iX11_told_X3 : ∀ w ∈ wsX30, w ∈ wsX11_told := fun _ h => List.mem_cons_of_mem _ (List.mem_append_left _ (List.mem_append_right _ h))
theorem qX11_told_122 : Cond.fieldLink RX11 122 (TX10 7).1 (TX10 7).2.1 (TX10 7).2.2.1 ∈ wsX11_told := List.mem_of_getElem? (i := 6) rfl
theorem qX11_told_293 : Cond.fieldLink RX11 293 (TX10 8).1 (TX10 8).2.1 (TX10 8).2.2.1 ∈ wsX11_told := List.mem_of_getElem? (i := 7) rfl
theorem qX11_told_238 : Cond.fieldLink RX11 238 (TX10 6).1 (TX10 6).2.1 (TX10 6).2.2.1 ∈ wsX11_told := List.mem_of_getElem? (i := 8) rfl
theorem qX11_told_242 : Cond.fieldLink RX11 242 (TX8 2).1 (TX8 2).2.1 (TX8 2).2.2.1 ∈ wsX11_told := List.mem_of_getElem? (i := 9) rfl
theorem iX11_told_X8 : ∀ w ∈ wsX80, w ∈ wsX11_told := fun _ h => List.mem_cons_of_mem _ (List.mem_append_right _ h)
set_option maxHeartbeats 4000000 in
set_option maxRecDepth 100000 in
theorem c_X11_isThing (l : Launch) (G : uG) (x : Int32) (M : uM) : CTi l G yX11_isThing wsX11_isThing 1 22 [.int x] M (fun r M2 => ((r = 1 ∧ inr x 0 11) ∨ (r = 0 ∧ ¬ inr x 0 11)) ∧ M2 = M) := by
  refine ustart_i (cc := cX11_isThing) (maxL := 1) (ret := (some .boolean)) (own := RX11) rfl (by decide) rfl (Nat.le_of_ble_eq_true rfl) ?_
  intro xp xe xs xm xa xb xt xc xA ls S hK hA Z hre hlk hl
  have hl : lv_has ls 1 [(0, .int x)] := hl
  refine lv_iload_n S.1 S.2.1 dX11_isThing_0 rfl (lv_at hl 0 rfl) ?_
  refine lv_iconst (v := 0) S.1 S.2.1 dX11_isThing_1 (by decide) ?_
  refine lv_bipush (v := 11) S.1 S.2.1 dX11_isThing_2 (by decide) ?_
  refine uc_Si (As := [.int x, .int 0, .int 11]) (rest := []) S hK hA Z (c_X5_within l G x 0 11 M) (va_cwS 3 S.2.2.2.2 gX11_isThing_X5_within rfl rfl rfl (by decide +kernel) ⟨Nat.le_of_ble_eq_true rfl, Nat.le_of_ble_eq_true rfl⟩) rfl hl.1 rfl (Nat.le_of_ble_eq_true rfl) dX11_isThing_4 ⟨Nat.zero_le _, Nat.zero_le _⟩ (fun r_1 M_1 H locs hp Z => ?_)
  obtain ⟨⟨rfl, w_1⟩ | ⟨rfl, w_1⟩, hM_1⟩ := hp
  · skip
    rw [hM_1] at Z
    refine uret_z S hK Z hre hlk (by decide) dX11_isThing_7 ?_
    exact ⟨Or.inl ⟨rfl, by assumption⟩, rfl⟩
  · skip
    rw [hM_1] at Z
    refine uret_z S hK Z hre hlk (by decide) dX11_isThing_7 ?_
    exact ⟨Or.inr ⟨rfl, by assumption⟩, rfl⟩
set_option maxHeartbeats 4000000 in
set_option maxRecDepth 100000 in
theorem c_X11_isOne (l : Launch) (G : uG) (x : Int32) (M : uM) : CTi l G yX11_isOne wsX11_isOne 1 22 [.int x] M (fun r M2 => ((r = 1 ∧ inr x 0 7) ∨ (r = 0 ∧ ¬ inr x 0 7)) ∧ M2 = M) := by
  refine ustart_i (cc := cX11_isOne) (maxL := 1) (ret := (some .boolean)) (own := RX11) rfl (by decide) rfl (Nat.le_of_ble_eq_true rfl) ?_
  intro xp xe xs xm xa xb xt xc xA ls S hK hA Z hre hlk hl
  have hl : lv_has ls 1 [(0, .int x)] := hl
  refine lv_iload_n S.1 S.2.1 dX11_isOne_0 rfl (lv_at hl 0 rfl) ?_
  refine lv_iconst (v := 0) S.1 S.2.1 dX11_isOne_1 (by decide) ?_
  refine lv_bipush (v := 7) S.1 S.2.1 dX11_isOne_2 (by decide) ?_
  refine uc_Si (As := [.int x, .int 0, .int 7]) (rest := []) S hK hA Z (c_X5_within l G x 0 7 M) (va_cwS 3 S.2.2.2.2 gX11_isOne_X5_within rfl rfl rfl (by decide +kernel) ⟨Nat.le_of_ble_eq_true rfl, Nat.le_of_ble_eq_true rfl⟩) rfl hl.1 rfl (Nat.le_of_ble_eq_true rfl) dX11_isOne_4 ⟨Nat.zero_le _, Nat.zero_le _⟩ (fun r_1 M_1 H locs hp Z => ?_)
  obtain ⟨⟨rfl, w_1⟩ | ⟨rfl, w_1⟩, hM_1⟩ := hp
  · skip
    rw [hM_1] at Z
    refine uret_z S hK Z hre hlk (by decide) dX11_isOne_7 ?_
    exact ⟨Or.inl ⟨rfl, by assumption⟩, rfl⟩
  · skip
    rw [hM_1] at Z
    refine uret_z S hK Z hre hlk (by decide) dX11_isOne_7 ?_
    exact ⟨Or.inr ⟨rfl, by assumption⟩, rfl⟩
set_option maxHeartbeats 4000000 in
set_option maxRecDepth 100000 in
theorem c_X11_thing (l : Launch) (G : uG) (x o a v g : Int32) (M : uM) (w : Nat → Nat → Nat) : CTi l G yX11_thing wsX11_thing 2 42 [.ref (G.2.2 0), .int x, .int o, .int a, .int v, .int g] (uPW M 1 w) (fun r M2 => r = (spThing w x o a v g).1 ∧ M2 = uPW M 1 (spThing w x o a v g).2) := by
  refine ustart_i (cc := cX11_thing) (maxL := 7) (ret := (some .int)) (own := RX11) rfl (by decide) rfl (Nat.le_of_ble_eq_true rfl) ?_
  intro xp xe xs xm xa xb xt xc xA ls S hK hA Z hre hlk hl
  have hl : lv_has ls 7 [(0, .ref (G.2.2 0)), (1, .int x), (2, .int o), (3, .int a), (4, .int v), (5, .int g)] := hl
  refine lv_iload_n S.1 S.2.1 dX11_thing_0 rfl (lv_at hl 1 rfl) ?_
  refine uc_Si (As := [.int x]) (rest := []) S hK hA Z (c_X11_isThing l G x (uPW M 1 w)) (va_cwS 1 S.2.2.2.2 gX11_thing_X11_isThing rfl rfl rfl (by decide +kernel) ⟨Nat.le_of_ble_eq_true rfl, Nat.le_of_ble_eq_true rfl⟩) rfl hl.1 rfl (Nat.le_of_ble_eq_true rfl) dX11_thing_1 ⟨Nat.zero_le _, Nat.zero_le _⟩ (fun r_1 M_1 H locs hp Z => ?_)
  obtain ⟨⟨rfl, w_1⟩ | ⟨rfl, w_1⟩, hM_1⟩ := hp
  · skip
    rw [hM_1] at Z
    refine lv_if_eq (tgt := 14) S.1 S.2.1 dX11_thing_4 (by decide) (fun c => absurd c (by decide)) (fun _ => ?_)
    refine lv_iload_n S.1 S.2.1 dX11_thing_7 rfl (lv_at hl 2 rfl) ?_
    refine uc_Si (As := [.int o]) (rest := []) S hK hA Z (c_X11_isOne l G o (uPW M 1 w)) (va_cwS 1 S.2.2.2.2 gX11_thing_X11_isOne rfl rfl rfl (by decide +kernel) ⟨Nat.le_of_ble_eq_true rfl, Nat.le_of_ble_eq_true rfl⟩) rfl hl.1 rfl (Nat.le_of_ble_eq_true rfl) dX11_thing_8 ⟨Nat.zero_le _, Nat.zero_le _⟩ (fun r_3 M_3 H locs hp Z => ?_)
    obtain ⟨⟨rfl, w_3⟩ | ⟨rfl, w_3⟩, hM_3⟩ := hp
    · skip
      rw [hM_3] at Z
      refine lv_if_ne (tgt := 16) S.1 S.2.1 dX11_thing_11 (by decide) (fun _ => ?_) (fun c => absurd c (by decide))
      refine lv_iload_n S.1 S.2.1 dX11_thing_16 rfl (lv_at hl 3 rfl) ?_
      refine lv_iconst (v := 0) S.1 S.2.1 dX11_thing_17 (by decide) ?_
      refine lv_bipush (v := 9) S.1 S.2.1 dX11_thing_18 (by decide) ?_
      refine uc_Si (As := [.int a, .int 0, .int 9]) (rest := []) S hK hA Z (c_X5_within l G a 0 9 (uPW M 1 w)) (va_cwS 3 S.2.2.2.2 gX11_thing_X5_within rfl rfl rfl (by decide +kernel) ⟨Nat.le_of_ble_eq_true rfl, Nat.le_of_ble_eq_true rfl⟩) rfl hl.1 rfl (Nat.le_of_ble_eq_true rfl) dX11_thing_20 ⟨Nat.zero_le _, Nat.zero_le _⟩ (fun r_5 M_5 H locs hp Z => ?_)
      obtain ⟨⟨rfl, w_5⟩ | ⟨rfl, w_5⟩, hM_5⟩ := hp
      · skip
        rw [hM_5] at Z
        refine lv_if_eq (tgt := 48) S.1 S.2.1 dX11_thing_23 (by decide) (fun c => absurd c (by decide)) (fun _ => ?_)
        refine lv_iload S.1 S.2.1 dX11_thing_26 (lv_at hl 4 rfl) ?_
        refine lv_iconst (v := 0) S.1 S.2.1 dX11_thing_28 (by decide) ?_
        refine lv_bipush (v := 99) S.1 S.2.1 dX11_thing_29 (by decide) ?_
        refine uc_Si (As := [.int v, .int 0, .int 99]) (rest := []) S hK hA Z (c_X5_within l G v 0 99 (uPW M 1 w)) (va_cwS 3 S.2.2.2.2 gX11_thing_X5_within rfl rfl rfl (by decide +kernel) ⟨Nat.le_of_ble_eq_true rfl, Nat.le_of_ble_eq_true rfl⟩) rfl hl.1 rfl (Nat.le_of_ble_eq_true rfl) dX11_thing_31 ⟨Nat.zero_le _, Nat.zero_le _⟩ (fun r_7 M_7 H locs hp Z => ?_)
        obtain ⟨⟨rfl, w_7⟩ | ⟨rfl, w_7⟩, hM_7⟩ := hp
        · skip
          rw [hM_7] at Z
          refine lv_if_eq (tgt := 48) S.1 S.2.1 dX11_thing_34 (by decide) (fun c => absurd c (by decide)) (fun _ => ?_)
          refine lv_iload S.1 S.2.1 dX11_thing_37 (lv_at hl 5 rfl) ?_
          refine lv_iconst (v := 1) S.1 S.2.1 dX11_thing_39 (by decide) ?_
          refine lv_bipush (v := 9) S.1 S.2.1 dX11_thing_40 (by decide) ?_
          refine uc_Si (As := [.int g, .int 1, .int 9]) (rest := []) S hK hA Z (c_X5_within l G g 1 9 (uPW M 1 w)) (va_cwS 3 S.2.2.2.2 gX11_thing_X5_within rfl rfl rfl (by decide +kernel) ⟨Nat.le_of_ble_eq_true rfl, Nat.le_of_ble_eq_true rfl⟩) rfl hl.1 rfl (Nat.le_of_ble_eq_true rfl) dX11_thing_42 ⟨Nat.zero_le _, Nat.zero_le _⟩ (fun r_9 M_9 H locs hp Z => ?_)
          obtain ⟨⟨rfl, w_9⟩ | ⟨rfl, w_9⟩, hM_9⟩ := hp
          · skip
            rw [hM_9] at Z
            refine lv_if_ne (tgt := 51) S.1 S.2.1 dX11_thing_45 (by decide) (fun _ => ?_) (fun c => absurd c (by decide))
            obtain ⟨t, ht, rfl⟩ := u_in0 (n := 11) (show inr x 0 11 by assumption) (by decide)
            obtain ⟨k, hk, rfl⟩ := u_in0 (n := 7) (show inr o 0 7 by assumption) (by decide)
            obtain ⟨n1, hn1, rfl⟩ := u_in0 (n := 9) (show inr a 0 9 by assumption) (by decide)
            obtain ⟨n2, hn2, rfl⟩ := u_in0 (n := 99) (show inr v 0 99 by assumption) (by decide)
            obtain ⟨n3, hn31, hn3, rfl⟩ := u_in1 (n := 9) (show inr g 1 9 by assumption) (by decide)
            refine lv_aload_n S.1 S.2.1 dX11_thing_51 rfl (lv_at hl 0 rfl) ?_
            refine ug_r S hK Z (j := 0) 1 (by decide) rfl rfl rfl (by decide) iX11_thing_X11 qX11_thing_10 dX11_thing_52 ?_
            refine ug_r S hK Z (j := 0) 2 (by decide) rfl rfl rfl (by decide) iX11_thing_X10 qX11_thing_98 dX11_thing_55 ?_
            refine lv_iload_n S.1 S.2.1 dX11_thing_58 rfl (lv_at hl 1 rfl) ?_
            refine ud_Si (As := [.ref (G.2.2 2), .int (nI t)]) (rest := []) S hK hA Z (c_X5_at l G 2 12 t (by decide) rfl (by omega) (uPW M 1 w)) (va_cwS 2 S.2.2.2.2 gX11_thing_X5_at rfl rfl rfl (by decide +kernel) ⟨Nat.le_of_ble_eq_true rfl, Nat.le_of_ble_eq_true rfl⟩) rfl hl.1 rfl (Nat.le_of_ble_eq_true rfl) dX11_thing_59 ⟨Nat.zero_le _, Nat.zero_le _⟩ (fun H locs Z => ?_)
            refine utop (y := (nI (w 1 t))) (uPW_g M 1 w t (j := 1) (by decide)) ?_
            refine lv_istore (lv' := [(6, .int (nI (w 1 t))), (0, .ref (G.2.2 0)), (1, .int (nI t)), (2, .int (nI k)), (3, .int (nI n1)), (4, .int (nI n2)), (5, .int (nI n3))]) S.1 S.2.1 dX11_thing_62 hl (by decide) rfl (fun ls hl => ?_)
            refine lv_aload_n S.1 S.2.1 dX11_thing_64 rfl (lv_at hl 1 rfl) ?_
            refine ug_r S hK Z (j := 0) 1 (by decide) rfl rfl rfl (by decide) iX11_thing_X11 qX11_thing_10 dX11_thing_65 ?_
            refine ug_r S hK Z (j := 0) 2 (by decide) rfl rfl rfl (by decide) iX11_thing_X10 qX11_thing_98 dX11_thing_68 ?_
            refine lv_iload_n S.1 S.2.1 dX11_thing_71 rfl (lv_at hl 2 rfl) ?_
            refine lv_iload_n S.1 S.2.1 dX11_thing_72 rfl (lv_at hl 3 rfl) ?_
            refine ud_Sv (As := [.ref (G.2.2 2), .int (nI t), .int (nI k)]) (rest := []) S hK hA Z (c_X5_put l G 2 12 t (by decide) rfl (by omega) (nI k) (uPW M 1 w)) (va_cwS 3 S.2.2.2.2 gX11_thing_X5_put rfl rfl rfl (by decide +kernel) ⟨Nat.le_of_ble_eq_true rfl, Nat.le_of_ble_eq_true rfl⟩) rfl hl.1 rfl (Nat.le_of_ble_eq_true rfl) dX11_thing_73 ⟨Nat.zero_le _, Nat.zero_le _⟩ (fun H locs Z => ?_)
            have Z := uZ_eq (uPW_s M 1 w t k (j := 1) (by decide)) Z
            refine lv_aload_n S.1 S.2.1 dX11_thing_76 rfl (lv_at hl 1 rfl) ?_
            refine ug_r S hK Z (j := 0) 1 (by decide) rfl rfl rfl (by decide) iX11_thing_X11 qX11_thing_10 dX11_thing_77 ?_
            refine ug_r S hK Z (j := 1) 3 (by decide) rfl rfl rfl (by decide) iX11_thing_X10 qX11_thing_110 dX11_thing_80 ?_
            refine lv_iload_n S.1 S.2.1 dX11_thing_83 rfl (lv_at hl 2 rfl) ?_
            refine lv_iload_n S.1 S.2.1 dX11_thing_84 rfl (lv_at hl 4 rfl) ?_
            refine ud_Sv (As := [.ref (G.2.2 3), .int (nI t), .int (nI n1)]) (rest := []) S hK hA Z (c_X5_put l G 3 12 t (by decide) rfl (by omega) (nI n1) (uPW M 1 (wu w 1 t k))) (va_cwS 3 S.2.2.2.2 gX11_thing_X5_put rfl rfl rfl (by decide +kernel) ⟨Nat.le_of_ble_eq_true rfl, Nat.le_of_ble_eq_true rfl⟩) rfl hl.1 rfl (Nat.le_of_ble_eq_true rfl) dX11_thing_85 ⟨Nat.zero_le _, Nat.zero_le _⟩ (fun H locs Z => ?_)
            have Z := uZ_eq (uPW_s M 1 (wu w 1 t k) t n1 (j := 2) (by decide)) Z
            refine lv_aload_n S.1 S.2.1 dX11_thing_88 rfl (lv_at hl 1 rfl) ?_
            refine ug_r S hK Z (j := 0) 1 (by decide) rfl rfl rfl (by decide) iX11_thing_X11 qX11_thing_10 dX11_thing_89 ?_
            refine ug_r S hK Z (j := 2) 4 (by decide) rfl rfl rfl (by decide) iX11_thing_X10 qX11_thing_113 dX11_thing_92 ?_
            refine lv_iload_n S.1 S.2.1 dX11_thing_95 rfl (lv_at hl 2 rfl) ?_
            refine lv_iload S.1 S.2.1 dX11_thing_96 (lv_at hl 5 rfl) ?_
            refine ud_Sv (As := [.ref (G.2.2 4), .int (nI t), .int (nI n2)]) (rest := []) S hK hA Z (c_X5_put l G 4 12 t (by decide) rfl (by omega) (nI n2) (uPW M 1 (wu (wu w 1 t k) 2 t n1))) (va_cwS 3 S.2.2.2.2 gX11_thing_X5_put rfl rfl rfl (by decide +kernel) ⟨Nat.le_of_ble_eq_true rfl, Nat.le_of_ble_eq_true rfl⟩) rfl hl.1 rfl (Nat.le_of_ble_eq_true rfl) dX11_thing_98 ⟨Nat.zero_le _, Nat.zero_le _⟩ (fun H locs Z => ?_)
            have Z := uZ_eq (uPW_s M 1 (wu (wu w 1 t k) 2 t n1) t n2 (j := 3) (by decide)) Z
            refine lv_aload_n S.1 S.2.1 dX11_thing_101 rfl (lv_at hl 1 rfl) ?_
            refine ug_r S hK Z (j := 0) 1 (by decide) rfl rfl rfl (by decide) iX11_thing_X11 qX11_thing_10 dX11_thing_102 ?_
            refine ug_r S hK Z (j := 3) 5 (by decide) rfl rfl rfl (by decide) iX11_thing_X10 qX11_thing_116 dX11_thing_105 ?_
            refine lv_iload_n S.1 S.2.1 dX11_thing_108 rfl (lv_at hl 2 rfl) ?_
            refine lv_iload S.1 S.2.1 dX11_thing_109 (lv_at hl 6 rfl) ?_
            refine ud_Sv (As := [.ref (G.2.2 5), .int (nI t), .int (nI n3)]) (rest := []) S hK hA Z (c_X5_put l G 5 12 t (by decide) rfl (by omega) (nI n3) (uPW M 1 (wu (wu (wu w 1 t k) 2 t n1) 3 t n2))) (va_cwS 3 S.2.2.2.2 gX11_thing_X5_put rfl rfl rfl (by decide +kernel) ⟨Nat.le_of_ble_eq_true rfl, Nat.le_of_ble_eq_true rfl⟩) rfl hl.1 rfl (Nat.le_of_ble_eq_true rfl) dX11_thing_111 ⟨Nat.zero_le _, Nat.zero_le _⟩ (fun H locs Z => ?_)
            have Z := uZ_eq (uPW_s M 1 (wu (wu (wu w 1 t k) 2 t n1) 3 t n2) t n3 (j := 4) (by decide)) Z
            refine lv_iload S.1 S.2.1 dX11_thing_114 (lv_at hl 0 rfl) ?_
            refine uret_i S hK Z hre hlk dX11_thing_116 ?_
            rw [spThing, if_neg (u_no2 (by assumption) (by assumption)), if_neg (u_no3 (by assumption) (by assumption) (by assumption)), nI_clamp (show t < 2 ^ 31 by omega), nI_clamp (show k < 2 ^ 31 by omega), nI_clamp (show n1 < 2 ^ 31 by omega), nI_clamp (show n2 < 2 ^ 31 by omega), nI_clamp (show n3 < 2 ^ 31 by omega)]
            exact ⟨rfl, rfl⟩
          · skip
            rw [hM_9] at Z
            refine lv_if_ne (tgt := 51) S.1 S.2.1 dX11_thing_45 (by decide) (fun c => absurd c (by decide)) (fun _ => ?_)
            refine lv_bipush (v := (-2)) S.1 S.2.1 dX11_thing_48 (by decide) ?_
            refine uret_i S hK Z hre hlk dX11_thing_50 ?_
            rw [spThing, if_neg (u_no2 (by assumption) (by assumption)), if_pos (by first | exact Or.inl (by assumption) | exact Or.inr (Or.inl (by assumption)) | exact Or.inr (Or.inr (by assumption)))]
            exact ⟨rfl, rfl⟩
        · skip
          rw [hM_7] at Z
          refine lv_if_eq (tgt := 48) S.1 S.2.1 dX11_thing_34 (by decide) (fun _ => ?_) (fun c => absurd c (by decide))
          refine lv_bipush (v := (-2)) S.1 S.2.1 dX11_thing_48 (by decide) ?_
          refine uret_i S hK Z hre hlk dX11_thing_50 ?_
          rw [spThing, if_neg (u_no2 (by assumption) (by assumption)), if_pos (by first | exact Or.inl (by assumption) | exact Or.inr (Or.inl (by assumption)) | exact Or.inr (Or.inr (by assumption)))]
          exact ⟨rfl, rfl⟩
      · skip
        rw [hM_5] at Z
        refine lv_if_eq (tgt := 48) S.1 S.2.1 dX11_thing_23 (by decide) (fun _ => ?_) (fun c => absurd c (by decide))
        refine lv_bipush (v := (-2)) S.1 S.2.1 dX11_thing_48 (by decide) ?_
        refine uret_i S hK Z hre hlk dX11_thing_50 ?_
        rw [spThing, if_neg (u_no2 (by assumption) (by assumption)), if_pos (by first | exact Or.inl (by assumption) | exact Or.inr (Or.inl (by assumption)) | exact Or.inr (Or.inr (by assumption)))]
        exact ⟨rfl, rfl⟩
    · skip
      rw [hM_3] at Z
      refine lv_if_ne (tgt := 16) S.1 S.2.1 dX11_thing_11 (by decide) (fun c => absurd c (by decide)) (fun _ => ?_)
      refine lv_iconst (v := (-1)) S.1 S.2.1 dX11_thing_14 (by decide) ?_
      refine uret_i S hK Z hre hlk dX11_thing_15 ?_
      rw [spThing, if_pos (by first | exact Or.inl (by assumption) | exact Or.inr (by assumption))]
      exact ⟨rfl, rfl⟩
  · skip
    rw [hM_1] at Z
    refine lv_if_eq (tgt := 14) S.1 S.2.1 dX11_thing_4 (by decide) (fun _ => ?_) (fun c => absurd c (by decide))
    refine lv_iconst (v := (-1)) S.1 S.2.1 dX11_thing_14 (by decide) ?_
    refine uret_i S hK Z hre hlk dX11_thing_15 ?_
    rw [spThing, if_pos (by first | exact Or.inl (by assumption) | exact Or.inr (by assumption))]
    exact ⟨rfl, rfl⟩
set_option maxHeartbeats 4000000 in
set_option maxRecDepth 100000 in
theorem c_X11_one (l : Launch) (G : uG) (x c0 d : Int32) (M : uM) (w : Nat → Nat → Nat) (h7 : w 0 7 < 256) : CTi l G yX11_one wsX11_one 2 42 [.ref (G.2.2 0), .int x, .int c0, .int d] (uPW M 1 w) (fun r M2 => r = (spOne w x c0 d).1 ∧ M2 = uPW M 1 (spOne w x c0 d).2) := by
  refine ustart_i (cc := cX11_one) (maxL := 5) (ret := (some .int)) (own := RX11) rfl (by decide) rfl (Nat.le_of_ble_eq_true rfl) ?_
  intro xp xe xs xm xa xb xt xc xA ls S hK hA Z hre hlk hl
  have hl : lv_has ls 5 [(0, .ref (G.2.2 0)), (1, .int x), (2, .int c0), (3, .int d)] := hl
  refine lv_iload_n S.1 S.2.1 dX11_one_0 rfl (lv_at hl 1 rfl) ?_
  refine uc_Si (As := [.int x]) (rest := []) S hK hA Z (c_X11_isOne l G x (uPW M 1 w)) (va_cwS 1 S.2.2.2.2 gX11_one_X11_isOne rfl rfl rfl (by decide +kernel) ⟨Nat.le_of_ble_eq_true rfl, Nat.le_of_ble_eq_true rfl⟩) rfl hl.1 rfl (Nat.le_of_ble_eq_true rfl) dX11_one_1 ⟨Nat.zero_le _, Nat.zero_le _⟩ (fun r_1 M_1 H locs hp Z => ?_)
  obtain ⟨⟨rfl, w_1⟩ | ⟨rfl, w_1⟩, hM_1⟩ := hp
  · skip
    rw [hM_1] at Z
    refine lv_if_ne (tgt := 9) S.1 S.2.1 dX11_one_4 (by decide) (fun _ => ?_) (fun c => absurd c (by decide))
    refine lv_iload_n S.1 S.2.1 dX11_one_9 rfl (lv_at hl 2 rfl) ?_
    refine lv_iconst (v := 0) S.1 S.2.1 dX11_one_10 (by decide) ?_
    refine lv_sipush (v := 9999) S.1 S.2.1 dX11_one_11 (by decide) ?_
    refine uc_Si (As := [.int c0, .int 0, .int 9999]) (rest := []) S hK hA Z (c_X5_within l G c0 0 9999 (uPW M 1 w)) (va_cwS 3 S.2.2.2.2 gX11_one_X5_within rfl rfl rfl (by decide +kernel) ⟨Nat.le_of_ble_eq_true rfl, Nat.le_of_ble_eq_true rfl⟩) rfl hl.1 rfl (Nat.le_of_ble_eq_true rfl) dX11_one_14 ⟨Nat.zero_le _, Nat.zero_le _⟩ (fun r_3 M_3 H locs hp Z => ?_)
    obtain ⟨⟨rfl, w_3⟩ | ⟨rfl, w_3⟩, hM_3⟩ := hp
    · skip
      rw [hM_3] at Z
      refine lv_if_eq (tgt := 29) S.1 S.2.1 dX11_one_17 (by decide) (fun c => absurd c (by decide)) (fun _ => ?_)
      refine lv_iload_n S.1 S.2.1 dX11_one_20 rfl (lv_at hl 3 rfl) ?_
      refine lv_iconst (v := 0) S.1 S.2.1 dX11_one_21 (by decide) ?_
      refine lv_iconst (v := 1) S.1 S.2.1 dX11_one_22 (by decide) ?_
      refine uc_Si (As := [.int d, .int 0, .int 1]) (rest := []) S hK hA Z (c_X5_within l G d 0 1 (uPW M 1 w)) (va_cwS 3 S.2.2.2.2 gX11_one_X5_within rfl rfl rfl (by decide +kernel) ⟨Nat.le_of_ble_eq_true rfl, Nat.le_of_ble_eq_true rfl⟩) rfl hl.1 rfl (Nat.le_of_ble_eq_true rfl) dX11_one_23 ⟨Nat.zero_le _, Nat.zero_le _⟩ (fun r_5 M_5 H locs hp Z => ?_)
      obtain ⟨⟨rfl, w_5⟩ | ⟨rfl, w_5⟩, hM_5⟩ := hp
      · skip
        rw [hM_5] at Z
        refine lv_if_ne (tgt := 32) S.1 S.2.1 dX11_one_26 (by decide) (fun _ => ?_) (fun c => absurd c (by decide))
        obtain ⟨k, hk, rfl⟩ := u_in0 (n := 7) (show inr x 0 7 by assumption) (by decide)
        obtain ⟨n1, hn1, rfl⟩ := u_in0 (n := 9999) (show inr c0 0 9999 by assumption) (by decide)
        refine lv_aload_n S.1 S.2.1 dX11_one_32 rfl (lv_at hl 0 rfl) ?_
        refine ug_r S hK Z (j := 0) 1 (by decide) rfl rfl rfl (by decide) iX11_one_X11 qX11_one_10 dX11_one_33 ?_
        refine ug_r S hK Z (j := 4) 6 (by decide) rfl rfl rfl (by decide) iX11_one_X10 qX11_one_119 dX11_one_36 ?_
        refine lv_iload_n S.1 S.2.1 dX11_one_39 rfl (lv_at hl 1 rfl) ?_
        refine ud_Si (As := [.ref (G.2.2 6), .int (nI k)]) (rest := []) S hK hA Z (c_X5_at l G 6 8 k (by decide) rfl (by omega) (uPW M 1 w)) (va_cwS 2 S.2.2.2.2 gX11_one_X5_at rfl rfl rfl (by decide +kernel) ⟨Nat.le_of_ble_eq_true rfl, Nat.le_of_ble_eq_true rfl⟩) rfl hl.1 rfl (Nat.le_of_ble_eq_true rfl) dX11_one_40 ⟨Nat.zero_le _, Nat.zero_le _⟩ (fun H locs Z => ?_)
        refine utop (y := (nI (w 5 k))) (uPW_g M 1 w k (j := 5) (by decide)) ?_
        refine lv_istore (lv' := [(4, .int (nI (w 5 k))), (0, .ref (G.2.2 0)), (1, .int (nI k)), (2, .int (nI n1)), (3, .int d)]) S.1 S.2.1 dX11_one_43 hl (by decide) rfl (fun ls hl => ?_)
        refine lv_aload_n S.1 S.2.1 dX11_one_45 rfl (lv_at hl 1 rfl) ?_
        refine ug_r S hK Z (j := 0) 1 (by decide) rfl rfl rfl (by decide) iX11_one_X11 qX11_one_10 dX11_one_46 ?_
        refine ug_r S hK Z (j := 4) 6 (by decide) rfl rfl rfl (by decide) iX11_one_X10 qX11_one_119 dX11_one_49 ?_
        refine lv_iload_n S.1 S.2.1 dX11_one_52 rfl (lv_at hl 2 rfl) ?_
        refine lv_iload_n S.1 S.2.1 dX11_one_53 rfl (lv_at hl 3 rfl) ?_
        refine ud_Sv (As := [.ref (G.2.2 6), .int (nI k), .int (nI n1)]) (rest := []) S hK hA Z (c_X5_put l G 6 8 k (by decide) rfl (by omega) (nI n1) (uPW M 1 w)) (va_cwS 3 S.2.2.2.2 gX11_one_X5_put rfl rfl rfl (by decide +kernel) ⟨Nat.le_of_ble_eq_true rfl, Nat.le_of_ble_eq_true rfl⟩) rfl hl.1 rfl (Nat.le_of_ble_eq_true rfl) dX11_one_54 ⟨Nat.zero_le _, Nat.zero_le _⟩ (fun H locs Z => ?_)
        have Z := uZ_eq (uPW_s M 1 w k n1 (j := 5) (by decide)) Z
        refine lv_aload_n S.1 S.2.1 dX11_one_57 rfl (lv_at hl 1 rfl) ?_
        refine ug_r S hK Z (j := 0) 1 (by decide) rfl rfl rfl (by decide) iX11_one_X11 qX11_one_10 dX11_one_58 ?_
        refine lv_iload_n S.1 S.2.1 dX11_one_61 rfl (lv_at hl 4 rfl) ?_
        refine lv_iconst (v := 1) S.1 S.2.1 dX11_one_62 (by decide) ?_
        refine lv_icmp_ne (tgt := 80) S.1 S.2.1 dX11_one_63 (by decide) (fun c_9 => ?_) (fun c_9 => ?_)
        · skip
          refine lv_aload_n S.1 S.2.1 dX11_one_80 rfl (lv_at hl 1 rfl) ?_
          refine ug_r S hK Z (j := 0) 1 (by decide) rfl rfl rfl (by decide) iX11_one_X11 qX11_one_10 dX11_one_81 ?_
          refine ug_i S hK Z (j := 7) (by decide) rfl rfl rfl (by decide) iX11_one_X10 qX11_one_122 dX11_one_84 ?_
          refine utop (y := (nI ((wu w 5 k n1) 0 7))) (uPW_g M 1 (wu w 5 k n1) 7 (j := 0) (by decide)) ?_
          refine utop (y := nI (w 0 7)) (congrArg nI (wu_row (by decide) _)) ?_
          refine lv_iconst (v := 1) S.1 S.2.1 dX11_one_87 (by decide) ?_
          refine lv_iload_n S.1 S.2.1 dX11_one_88 rfl (lv_at hl 2 rfl) ?_
          refine lv_ishl S.1 S.2.1 dX11_one_89 ?_
          refine utop (u_shl1 (k := k) (by omega)) ?_
          refine lv_iconst (v := (-1)) S.1 S.2.1 dX11_one_90 (by decide) ?_
          refine lv_ixor S.1 S.2.1 dX11_one_91 ?_
          refine lv_iand S.1 S.2.1 dX11_one_92 ?_
          refine utop (u_clr (a := (w 0 7)) (k := k) (by omega) (by omega)) ?_
          refine up_i S hK Z (j := 7) (by decide) rfl rfl rfl (by decide) iX11_one_X10 tyX10_ok nmX10 qX11_one_122 rfl rfl rfl dX11_one_93 (fun H locs Z => ?_)
          have Z := uZ_eq (uPW_s M 1 (wu w 5 k n1) 7 (uClr (w 0 7) k) (j := 0) (by decide)) Z
          refine lv_iload S.1 S.2.1 dX11_one_96 (lv_at hl 0 rfl) ?_
          refine uret_i S hK Z hre hlk dX11_one_98 ?_
          rw [spOne, if_neg (not_not_intro (by assumption)), if_neg (u_no2 (by assumption) (by assumption)), nI_clamp (show k < 2 ^ 31 by omega), nI_clamp (show n1 < 2 ^ 31 by omega), if_neg (by assumption)]
          exact ⟨rfl, rfl⟩
        · skip
          refine lv_aload_n S.1 S.2.1 dX11_one_66 rfl (lv_at hl 1 rfl) ?_
          refine ug_r S hK Z (j := 0) 1 (by decide) rfl rfl rfl (by decide) iX11_one_X11 qX11_one_10 dX11_one_67 ?_
          refine ug_i S hK Z (j := 7) (by decide) rfl rfl rfl (by decide) iX11_one_X10 qX11_one_122 dX11_one_70 ?_
          refine utop (y := (nI ((wu w 5 k n1) 0 7))) (uPW_g M 1 (wu w 5 k n1) 7 (j := 0) (by decide)) ?_
          refine utop (y := nI (w 0 7)) (congrArg nI (wu_row (by decide) _)) ?_
          refine lv_iconst (v := 1) S.1 S.2.1 dX11_one_73 (by decide) ?_
          refine lv_iload_n S.1 S.2.1 dX11_one_74 rfl (lv_at hl 2 rfl) ?_
          refine lv_ishl S.1 S.2.1 dX11_one_75 ?_
          refine utop (u_shl1 (k := k) (by omega)) ?_
          refine lv_ior S.1 S.2.1 dX11_one_76 ?_
          refine utop (nx_or (w 0 7) (2 ^ k)) ?_
          refine lv_goto (tgt := 93) S.1 S.2.1 dX11_one_77 (by decide) ?_
          refine up_i S hK Z (j := 7) (by decide) rfl rfl rfl (by decide) iX11_one_X10 tyX10_ok nmX10 qX11_one_122 rfl rfl rfl dX11_one_93 (fun H locs Z => ?_)
          have Z := uZ_eq (uPW_s M 1 (wu w 5 k n1) 7 ((w 0 7) ||| (2 ^ k)) (j := 0) (by decide)) Z
          refine lv_iload S.1 S.2.1 dX11_one_96 (lv_at hl 0 rfl) ?_
          refine uret_i S hK Z hre hlk dX11_one_98 ?_
          rw [spOne, if_neg (not_not_intro (by assumption)), if_neg (u_no2 (by assumption) (by assumption)), nI_clamp (show k < 2 ^ 31 by omega), nI_clamp (show n1 < 2 ^ 31 by omega), if_pos (by assumption)]
          exact ⟨rfl, rfl⟩
      · skip
        rw [hM_5] at Z
        refine lv_if_ne (tgt := 32) S.1 S.2.1 dX11_one_26 (by decide) (fun c => absurd c (by decide)) (fun _ => ?_)
        refine lv_bipush (v := (-2)) S.1 S.2.1 dX11_one_29 (by decide) ?_
        refine uret_i S hK Z hre hlk dX11_one_31 ?_
        rw [spOne, if_neg (not_not_intro (by assumption)), if_pos (by first | exact Or.inl (by assumption) | exact Or.inr (by assumption))]
        exact ⟨rfl, rfl⟩
    · skip
      rw [hM_3] at Z
      refine lv_if_eq (tgt := 29) S.1 S.2.1 dX11_one_17 (by decide) (fun _ => ?_) (fun c => absurd c (by decide))
      refine lv_bipush (v := (-2)) S.1 S.2.1 dX11_one_29 (by decide) ?_
      refine uret_i S hK Z hre hlk dX11_one_31 ?_
      rw [spOne, if_neg (not_not_intro (by assumption)), if_pos (by first | exact Or.inl (by assumption) | exact Or.inr (by assumption))]
      exact ⟨rfl, rfl⟩
  · skip
    rw [hM_1] at Z
    refine lv_if_ne (tgt := 9) S.1 S.2.1 dX11_one_4 (by decide) (fun c => absurd c (by decide)) (fun _ => ?_)
    refine lv_iconst (v := (-1)) S.1 S.2.1 dX11_one_7 (by decide) ?_
    refine uret_i S hK Z hre hlk dX11_one_8 ?_
    rw [spOne, if_pos (by assumption)]
    exact ⟨rfl, rfl⟩
theorem bd_ok1 {w : Nat → Nat → Nat} (h : ∀ k, k < 8 → w 6 k < 256) {k q : Nat} (hq : q < 8) : ∀ j, j < 8 → wu w 6 k (w 6 k ||| 2 ^ q) 6 j < 256 := fun j hj => by
  unfold wu
  split
  · rename_i z
    have h1 := h j hj
    rw [z.2] at h1
    exact Nat.or_lt_two_pow (n := 8) h1 (Nat.pow_lt_pow_right (by decide) hq)
  · exact h j hj
set_option maxHeartbeats 4000000 in
set_option maxRecDepth 100000 in
theorem c_X11_brothers1 (l : Launch) (G : uG) (x y : Int32) (M : uM) (w : Nat → Nat → Nat) (hkin : ∀ k, k < 8 → w 6 k < 256) : CTi l G yX11_brothers wsX11_brothers 2 46 [.ref (G.2.2 0), .int x, .int y, .int 1] (uPW M 1 w) (fun r M2 => r = (spBro w x y 1).1 ∧ M2 = uPW M 1 (spBro w x y 1).2) := by
  refine ustart_i (cc := cX11_brothers) (maxL := 4) (ret := (some .int)) (own := RX11) rfl (by decide) rfl (Nat.le_of_ble_eq_true rfl) ?_
  intro xp xe xs xm xa xb xt xc xA ls S hK hA Z hre hlk hl
  have hl : lv_has ls 4 [(0, .ref (G.2.2 0)), (1, .int x), (2, .int y), (3, .int 1)] := hl
  refine lv_iload_n S.1 S.2.1 dX11_brothers_0 rfl (lv_at hl 1 rfl) ?_
  refine uc_Si (As := [.int x]) (rest := []) S hK hA Z (c_X11_isOne l G x (uPW M 1 w)) (va_cwS 1 S.2.2.2.2 gX11_brothers_X11_isOne rfl rfl rfl (by decide +kernel) ⟨Nat.le_of_ble_eq_true rfl, Nat.le_of_ble_eq_true rfl⟩) rfl hl.1 rfl (Nat.le_of_ble_eq_true rfl) dX11_brothers_1 ⟨Nat.zero_le _, Nat.zero_le _⟩ (fun r_1 M_1 H locs hp Z => ?_)
  obtain ⟨⟨rfl, w_1⟩ | ⟨rfl, w_1⟩, hM_1⟩ := hp
  · skip
    rw [hM_1] at Z
    refine lv_if_eq (tgt := 19) S.1 S.2.1 dX11_brothers_4 (by decide) (fun c => absurd c (by decide)) (fun _ => ?_)
    refine lv_iload_n S.1 S.2.1 dX11_brothers_7 rfl (lv_at hl 2 rfl) ?_
    refine uc_Si (As := [.int y]) (rest := []) S hK hA Z (c_X11_isOne l G y (uPW M 1 w)) (va_cwS 1 S.2.2.2.2 gX11_brothers_X11_isOne rfl rfl rfl (by decide +kernel) ⟨Nat.le_of_ble_eq_true rfl, Nat.le_of_ble_eq_true rfl⟩) rfl hl.1 rfl (Nat.le_of_ble_eq_true rfl) dX11_brothers_8 ⟨Nat.zero_le _, Nat.zero_le _⟩ (fun r_3 M_3 H locs hp Z => ?_)
    obtain ⟨⟨rfl, w_3⟩ | ⟨rfl, w_3⟩, hM_3⟩ := hp
    · skip
      rw [hM_3] at Z
      refine lv_if_eq (tgt := 19) S.1 S.2.1 dX11_brothers_11 (by decide) (fun c => absurd c (by decide)) (fun _ => ?_)
      refine lv_iload_n S.1 S.2.1 dX11_brothers_14 rfl (lv_at hl 1 rfl) ?_
      refine lv_iload_n S.1 S.2.1 dX11_brothers_15 rfl (lv_at hl 2 rfl) ?_
      refine lv_icmp_ne (tgt := 21) S.1 S.2.1 dX11_brothers_16 (by decide) (fun c_5 => ?_) (fun c_5 => ?_)
      · skip
        obtain ⟨k, hk, rfl⟩ := u_in0 (n := 7) (show inr x 0 7 by assumption) (by decide)
        obtain ⟨q, hq, rfl⟩ := u_in0 (n := 7) (show inr y 0 7 by assumption) (by decide)
        have h6k := hkin k (by omega)
        have h6a := bd_ok1 hkin (show q < 8 by omega) (k := k)
        have h6q : (wu w 6 k (w 6 k ||| 2 ^ q)) 6 q < 256 := h6a q (by omega)
        have h6b := bd_ok1 h6a (show k < 8 by omega) (k := q)
        refine lv_aload_n S.1 S.2.1 dX11_brothers_21 rfl (lv_at hl 0 rfl) ?_
        refine ug_r S hK Z (j := 0) 1 (by decide) rfl rfl rfl (by decide) iX11_brothers_X11 qX11_brothers_10 dX11_brothers_22 ?_
        refine lv_iload_n S.1 S.2.1 dX11_brothers_25 rfl (lv_at hl 1 rfl) ?_
        refine lv_iload_n S.1 S.2.1 dX11_brothers_26 rfl (lv_at hl 2 rfl) ?_
        refine lv_iload_n S.1 S.2.1 dX11_brothers_27 rfl (lv_at hl 3 rfl) ?_
        refine ud_Vv (As := [.int (nI k), .int (nI q), .int 1]) (rest := []) S hK hA Z (c_X10_bind1 l G 1 (by unfold uIsW; omega) M w k q (by omega) (by omega) h6k) (cwV 3 S.2.2.2.2 gX11_brothers_X10_bind rfl rfl rfl (by decide +kernel) ⟨Nat.le_of_ble_eq_true rfl, Nat.le_of_ble_eq_true rfl⟩) (by decide) rfl rfl rfl hl.1 rfl (Nat.le_of_ble_eq_true rfl) dX11_brothers_28 ⟨Nat.zero_le _, Nat.zero_le _⟩ (fun H locs Z => ?_)
        refine lv_aload_n S.1 S.2.1 dX11_brothers_31 rfl (lv_at hl 0 rfl) ?_
        refine ug_r S hK Z (j := 0) 1 (by decide) rfl rfl rfl (by decide) iX11_brothers_X11 qX11_brothers_10 dX11_brothers_32 ?_
        refine lv_iload_n S.1 S.2.1 dX11_brothers_35 rfl (lv_at hl 2 rfl) ?_
        refine lv_iload_n S.1 S.2.1 dX11_brothers_36 rfl (lv_at hl 1 rfl) ?_
        refine lv_iload_n S.1 S.2.1 dX11_brothers_37 rfl (lv_at hl 3 rfl) ?_
        refine ud_Vv (As := [.int (nI q), .int (nI k), .int 1]) (rest := []) S hK hA Z (c_X10_bind1 l G 1 (by unfold uIsW; omega) M (wu w 6 k (w 6 k ||| 2 ^ q)) q k (by omega) (by omega) h6q) (cwV 3 S.2.2.2.2 gX11_brothers_X10_bind rfl rfl rfl (by decide +kernel) ⟨Nat.le_of_ble_eq_true rfl, Nat.le_of_ble_eq_true rfl⟩) (by decide) rfl rfl rfl hl.1 rfl (Nat.le_of_ble_eq_true rfl) dX11_brothers_38 ⟨Nat.zero_le _, Nat.zero_le _⟩ (fun H locs Z => ?_)
        refine lv_aload_n S.1 S.2.1 dX11_brothers_41 rfl (lv_at hl 0 rfl) ?_
        refine ug_r S hK Z (j := 0) 1 (by decide) rfl rfl rfl (by decide) iX11_brothers_X11 qX11_brothers_10 dX11_brothers_42 ?_
        refine ud_Vi (As := []) (rest := []) S hK hA Z (c_X10_pairsOfBrothers l G 1 (by unfold uIsW; omega) M (wu (wu w 6 k (w 6 k ||| 2 ^ q)) 6 q ((wu w 6 k (w 6 k ||| 2 ^ q)) 6 q ||| 2 ^ k)) h6b) (cwV 0 S.2.2.2.2 gX11_brothers_X10_pairsOfBrothers rfl rfl rfl (by decide +kernel) ⟨Nat.le_of_ble_eq_true rfl, Nat.le_of_ble_eq_true rfl⟩) (by decide) rfl rfl rfl hl.1 rfl (Nat.le_of_ble_eq_true rfl) dX11_brothers_45 ⟨Nat.zero_le _, Nat.zero_le _⟩ (fun H locs Z => ?_)
        refine uret_i S hK Z hre hlk dX11_brothers_48 ?_
        rw [spBro, if_neg (u_no3 (by assumption) (by assumption) (by assumption)), nI_clamp (show k < 2 ^ 31 by omega), nI_clamp (show q < 2 ^ 31 by omega)]
        exact ⟨rfl, rfl⟩
      · skip
        refine lv_iconst (v := (-1)) S.1 S.2.1 dX11_brothers_19 (by decide) ?_
        refine uret_i S hK Z hre hlk dX11_brothers_20 ?_
        rw [spBro, if_pos (by first | exact Or.inl (by assumption) | exact Or.inr (Or.inl (by assumption)) | exact Or.inr (Or.inr (not_not_intro (by assumption))))]
        exact ⟨rfl, rfl⟩
    · skip
      rw [hM_3] at Z
      refine lv_if_eq (tgt := 19) S.1 S.2.1 dX11_brothers_11 (by decide) (fun _ => ?_) (fun c => absurd c (by decide))
      refine lv_iconst (v := (-1)) S.1 S.2.1 dX11_brothers_19 (by decide) ?_
      refine uret_i S hK Z hre hlk dX11_brothers_20 ?_
      rw [spBro, if_pos (by first | exact Or.inl (by assumption) | exact Or.inr (Or.inl (by assumption)) | exact Or.inr (Or.inr (not_not_intro (by assumption))))]
      exact ⟨rfl, rfl⟩
  · skip
    rw [hM_1] at Z
    refine lv_if_eq (tgt := 19) S.1 S.2.1 dX11_brothers_4 (by decide) (fun _ => ?_) (fun c => absurd c (by decide))
    refine lv_iconst (v := (-1)) S.1 S.2.1 dX11_brothers_19 (by decide) ?_
    refine uret_i S hK Z hre hlk dX11_brothers_20 ?_
    rw [spBro, if_pos (by first | exact Or.inl (by assumption) | exact Or.inr (Or.inl (by assumption)) | exact Or.inr (Or.inr (not_not_intro (by assumption))))]
    exact ⟨rfl, rfl⟩
theorem bd_ok0 {w : Nat → Nat → Nat} (h : ∀ k, k < 8 → w 6 k < 256) {k q : Nat} (hq : q < 8) : ∀ j, j < 8 → wu w 6 k (uClr (w 6 k) q) 6 j < 256 := fun j hj => by
  unfold wu
  split
  · rename_i z
    have h1 := h j hj
    rw [z.2] at h1
    unfold uClr
    split
    · exact Nat.lt_of_le_of_lt (Nat.sub_le _ _) h1
    · exact h1
  · exact h j hj
set_option maxHeartbeats 4000000 in
set_option maxRecDepth 100000 in
theorem c_X11_brothers0 (l : Launch) (G : uG) (x y : Int32) (M : uM) (w : Nat → Nat → Nat) (hkin : ∀ k, k < 8 → w 6 k < 256) : CTi l G yX11_brothers wsX11_brothers 2 46 [.ref (G.2.2 0), .int x, .int y, .int 0] (uPW M 1 w) (fun r M2 => r = (spBro w x y 0).1 ∧ M2 = uPW M 1 (spBro w x y 0).2) := by
  refine ustart_i (cc := cX11_brothers) (maxL := 4) (ret := (some .int)) (own := RX11) rfl (by decide) rfl (Nat.le_of_ble_eq_true rfl) ?_
  intro xp xe xs xm xa xb xt xc xA ls S hK hA Z hre hlk hl
  have hl : lv_has ls 4 [(0, .ref (G.2.2 0)), (1, .int x), (2, .int y), (3, .int 0)] := hl
  refine lv_iload_n S.1 S.2.1 dX11_brothers_0 rfl (lv_at hl 1 rfl) ?_
  refine uc_Si (As := [.int x]) (rest := []) S hK hA Z (c_X11_isOne l G x (uPW M 1 w)) (va_cwS 1 S.2.2.2.2 gX11_brothers_X11_isOne rfl rfl rfl (by decide +kernel) ⟨Nat.le_of_ble_eq_true rfl, Nat.le_of_ble_eq_true rfl⟩) rfl hl.1 rfl (Nat.le_of_ble_eq_true rfl) dX11_brothers_1 ⟨Nat.zero_le _, Nat.zero_le _⟩ (fun r_1 M_1 H locs hp Z => ?_)
  obtain ⟨⟨rfl, w_1⟩ | ⟨rfl, w_1⟩, hM_1⟩ := hp
  · skip
    rw [hM_1] at Z
    refine lv_if_eq (tgt := 19) S.1 S.2.1 dX11_brothers_4 (by decide) (fun c => absurd c (by decide)) (fun _ => ?_)
    refine lv_iload_n S.1 S.2.1 dX11_brothers_7 rfl (lv_at hl 2 rfl) ?_
    refine uc_Si (As := [.int y]) (rest := []) S hK hA Z (c_X11_isOne l G y (uPW M 1 w)) (va_cwS 1 S.2.2.2.2 gX11_brothers_X11_isOne rfl rfl rfl (by decide +kernel) ⟨Nat.le_of_ble_eq_true rfl, Nat.le_of_ble_eq_true rfl⟩) rfl hl.1 rfl (Nat.le_of_ble_eq_true rfl) dX11_brothers_8 ⟨Nat.zero_le _, Nat.zero_le _⟩ (fun r_3 M_3 H locs hp Z => ?_)
    obtain ⟨⟨rfl, w_3⟩ | ⟨rfl, w_3⟩, hM_3⟩ := hp
    · skip
      rw [hM_3] at Z
      refine lv_if_eq (tgt := 19) S.1 S.2.1 dX11_brothers_11 (by decide) (fun c => absurd c (by decide)) (fun _ => ?_)
      refine lv_iload_n S.1 S.2.1 dX11_brothers_14 rfl (lv_at hl 1 rfl) ?_
      refine lv_iload_n S.1 S.2.1 dX11_brothers_15 rfl (lv_at hl 2 rfl) ?_
      refine lv_icmp_ne (tgt := 21) S.1 S.2.1 dX11_brothers_16 (by decide) (fun c_5 => ?_) (fun c_5 => ?_)
      · skip
        obtain ⟨k, hk, rfl⟩ := u_in0 (n := 7) (show inr x 0 7 by assumption) (by decide)
        obtain ⟨q, hq, rfl⟩ := u_in0 (n := 7) (show inr y 0 7 by assumption) (by decide)
        have h6k := hkin k (by omega)
        have h6a := bd_ok0 hkin (show q < 8 by omega) (k := k)
        have h6q : (wu w 6 k (uClr (w 6 k) q)) 6 q < 256 := h6a q (by omega)
        have h6b := bd_ok0 h6a (show k < 8 by omega) (k := q)
        refine lv_aload_n S.1 S.2.1 dX11_brothers_21 rfl (lv_at hl 0 rfl) ?_
        refine ug_r S hK Z (j := 0) 1 (by decide) rfl rfl rfl (by decide) iX11_brothers_X11 qX11_brothers_10 dX11_brothers_22 ?_
        refine lv_iload_n S.1 S.2.1 dX11_brothers_25 rfl (lv_at hl 1 rfl) ?_
        refine lv_iload_n S.1 S.2.1 dX11_brothers_26 rfl (lv_at hl 2 rfl) ?_
        refine lv_iload_n S.1 S.2.1 dX11_brothers_27 rfl (lv_at hl 3 rfl) ?_
        refine ud_Vv (As := [.int (nI k), .int (nI q), .int 0]) (rest := []) S hK hA Z (c_X10_bind0 l G 1 (by unfold uIsW; omega) M w k q (by omega) (by omega) h6k) (cwV 3 S.2.2.2.2 gX11_brothers_X10_bind rfl rfl rfl (by decide +kernel) ⟨Nat.le_of_ble_eq_true rfl, Nat.le_of_ble_eq_true rfl⟩) (by decide) rfl rfl rfl hl.1 rfl (Nat.le_of_ble_eq_true rfl) dX11_brothers_28 ⟨Nat.zero_le _, Nat.zero_le _⟩ (fun H locs Z => ?_)
        refine lv_aload_n S.1 S.2.1 dX11_brothers_31 rfl (lv_at hl 0 rfl) ?_
        refine ug_r S hK Z (j := 0) 1 (by decide) rfl rfl rfl (by decide) iX11_brothers_X11 qX11_brothers_10 dX11_brothers_32 ?_
        refine lv_iload_n S.1 S.2.1 dX11_brothers_35 rfl (lv_at hl 2 rfl) ?_
        refine lv_iload_n S.1 S.2.1 dX11_brothers_36 rfl (lv_at hl 1 rfl) ?_
        refine lv_iload_n S.1 S.2.1 dX11_brothers_37 rfl (lv_at hl 3 rfl) ?_
        refine ud_Vv (As := [.int (nI q), .int (nI k), .int 0]) (rest := []) S hK hA Z (c_X10_bind0 l G 1 (by unfold uIsW; omega) M (wu w 6 k (uClr (w 6 k) q)) q k (by omega) (by omega) h6q) (cwV 3 S.2.2.2.2 gX11_brothers_X10_bind rfl rfl rfl (by decide +kernel) ⟨Nat.le_of_ble_eq_true rfl, Nat.le_of_ble_eq_true rfl⟩) (by decide) rfl rfl rfl hl.1 rfl (Nat.le_of_ble_eq_true rfl) dX11_brothers_38 ⟨Nat.zero_le _, Nat.zero_le _⟩ (fun H locs Z => ?_)
        refine lv_aload_n S.1 S.2.1 dX11_brothers_41 rfl (lv_at hl 0 rfl) ?_
        refine ug_r S hK Z (j := 0) 1 (by decide) rfl rfl rfl (by decide) iX11_brothers_X11 qX11_brothers_10 dX11_brothers_42 ?_
        refine ud_Vi (As := []) (rest := []) S hK hA Z (c_X10_pairsOfBrothers l G 1 (by unfold uIsW; omega) M (wu (wu w 6 k (uClr (w 6 k) q)) 6 q (uClr ((wu w 6 k (uClr (w 6 k) q)) 6 q) k)) h6b) (cwV 0 S.2.2.2.2 gX11_brothers_X10_pairsOfBrothers rfl rfl rfl (by decide +kernel) ⟨Nat.le_of_ble_eq_true rfl, Nat.le_of_ble_eq_true rfl⟩) (by decide) rfl rfl rfl hl.1 rfl (Nat.le_of_ble_eq_true rfl) dX11_brothers_45 ⟨Nat.zero_le _, Nat.zero_le _⟩ (fun H locs Z => ?_)
        refine uret_i S hK Z hre hlk dX11_brothers_48 ?_
        rw [spBro, if_neg (u_no3 (by assumption) (by assumption) (by assumption)), nI_clamp (show k < 2 ^ 31 by omega), nI_clamp (show q < 2 ^ 31 by omega)]
        exact ⟨rfl, rfl⟩
      · skip
        refine lv_iconst (v := (-1)) S.1 S.2.1 dX11_brothers_19 (by decide) ?_
        refine uret_i S hK Z hre hlk dX11_brothers_20 ?_
        rw [spBro, if_pos (by first | exact Or.inl (by assumption) | exact Or.inr (Or.inl (by assumption)) | exact Or.inr (Or.inr (not_not_intro (by assumption))))]
        exact ⟨rfl, rfl⟩
    · skip
      rw [hM_3] at Z
      refine lv_if_eq (tgt := 19) S.1 S.2.1 dX11_brothers_11 (by decide) (fun _ => ?_) (fun c => absurd c (by decide))
      refine lv_iconst (v := (-1)) S.1 S.2.1 dX11_brothers_19 (by decide) ?_
      refine uret_i S hK Z hre hlk dX11_brothers_20 ?_
      rw [spBro, if_pos (by first | exact Or.inl (by assumption) | exact Or.inr (Or.inl (by assumption)) | exact Or.inr (Or.inr (not_not_intro (by assumption))))]
      exact ⟨rfl, rfl⟩
  · skip
    rw [hM_1] at Z
    refine lv_if_eq (tgt := 19) S.1 S.2.1 dX11_brothers_4 (by decide) (fun _ => ?_) (fun c => absurd c (by decide))
    refine lv_iconst (v := (-1)) S.1 S.2.1 dX11_brothers_19 (by decide) ?_
    refine uret_i S hK Z hre hlk dX11_brothers_20 ?_
    rw [spBro, if_pos (by first | exact Or.inl (by assumption) | exact Or.inr (Or.inl (by assumption)) | exact Or.inr (Or.inr (not_not_intro (by assumption))))]
    exact ⟨rfl, rfl⟩
set_option maxHeartbeats 4000000 in
set_option maxRecDepth 100000 in
theorem c_X3_add (l : Launch) (G : uG) (x : Int32) (M : uM) (n : Nat) (hn : M.1 21 1 = nI n) (h60 : n < 60) : CTv l G yX3_add wsX3_add 1 22 [.ref (G.2.2 21), .int x] M (fun M2 => M2 = u1 (u1 M 22 n x) 21 1 (nI (n + 1))) := by
  refine ustart_v (cc := cX3_add) (maxL := 2) (ret := none) (own := RX3) rfl (by decide) rfl (Nat.le_of_ble_eq_true rfl) ?_
  intro xp xe xs xm xa xb xt xc xA ls S hK hA Z hre hlk hl
  have hl : lv_has ls 2 [(0, .ref (G.2.2 21)), (1, .int x)] := hl
  refine lv_aload_n S.1 S.2.1 dX3_add_0 rfl (lv_at hl 0 rfl) ?_
  refine ug_i S hK Z (j := 1) (by decide) rfl rfl rfl (by decide) iX3_add_X3 qX3_add_15 dX3_add_1 ?_
  refine utop (y := (nI n)) hn ?_
  refine lv_bipush (v := 60) S.1 S.2.1 dX3_add_4 (by decide) ?_
  refine lv_icmp_ge (tgt := 31) S.1 S.2.1 dX3_add_6 (by decide) (fun c_1 => ?_) (fun c_1 => ?_)
  · skip
    have c_1 : 60 ≤ n := (nI_leI (a := 60) (b := n) (by omega) (by omega)).mp c_1
    omega
  · skip
    have c_1 : ¬ 60 ≤ n := fun z9 => c_1 ((nI_leI (a := 60) (b := n) (by omega) (by omega)).mpr z9)
    refine lv_aload_n S.1 S.2.1 dX3_add_9 rfl (lv_at hl 0 rfl) ?_
    refine ug_r S hK Z (j := 0) 22 (by decide) rfl rfl rfl (by decide) iX3_add_X3 qX3_add_11 dX3_add_10 ?_
    refine lv_aload_n S.1 S.2.1 dX3_add_13 rfl (lv_at hl 0 rfl) ?_
    refine ug_i S hK Z (j := 1) (by decide) rfl rfl rfl (by decide) iX3_add_X3 qX3_add_15 dX3_add_14 ?_
    refine utop (y := (nI n)) hn ?_
    refine lv_iload_n S.1 S.2.1 dX3_add_17 rfl (lv_at hl 1 rfl) ?_
    refine ud_Sv (As := [.ref (G.2.2 22), .int (nI n), .int x]) (rest := []) S hK hA Z (c_X5_put l G 22 60 n (by decide) rfl (by omega) x M) (va_cwS 3 S.2.2.2.2 gX3_add_X5_put rfl rfl rfl (by decide +kernel) ⟨Nat.le_of_ble_eq_true rfl, Nat.le_of_ble_eq_true rfl⟩) rfl hl.1 rfl (Nat.le_of_ble_eq_true rfl) dX3_add_18 ⟨Nat.zero_le _, Nat.zero_le _⟩ (fun H locs Z => ?_)
    refine lv_aload_n S.1 S.2.1 dX3_add_21 rfl (lv_at hl 0 rfl) ?_
    refine lv_dup S.1 S.2.1 dX3_add_22 rfl ?_
    refine ug_i S hK Z (j := 1) (by decide) rfl rfl rfl (by decide) iX3_add_X3 qX3_add_15 dX3_add_23 ?_
    refine utop (y := nI n) hn ?_
    refine lv_iconst (v := 1) S.1 S.2.1 dX3_add_26 (by decide) ?_
    refine lv_iadd S.1 S.2.1 dX3_add_27 ?_
    refine utop (nI_add n 1) ?_
    refine up_i S hK Z (j := 1) (by decide) rfl rfl rfl (by decide) iX3_add_X3 tyX3_ok nmX3 qX3_add_15 rfl rfl rfl dX3_add_28 (fun H locs Z => ?_)
    refine uret_v S hK Z hre hlk dX3_add_31 ?_
    exact rfl
set_option maxHeartbeats 4000000 in
set_option maxRecDepth 100000 in
theorem c_X11_say (l : Launch) (G : uG) (x : Int32) (M : uM) (n : Nat) (hn : M.1 21 1 = nI n) (h60 : n ≤ 60) : CTi l G yX11_say wsX11_say 2 43 [.ref (G.2.2 0), .int x] M (fun r M2 => r = spSay n x ∧ M2 = if spSay n x = -2 ∨ spSay n x = -4 then M else u1 (u1 M 22 n x) 21 1 (nI (n + 1))) := by
  refine ustart_i (cc := cX11_say) (maxL := 2) (ret := (some .int)) (own := RX11) rfl (by decide) rfl (Nat.le_of_ble_eq_true rfl) ?_
  intro xp xe xs xm xa xb xt xc xA ls S hK hA Z hre hlk hl
  have hl : lv_has ls 2 [(0, .ref (G.2.2 0)), (1, .int x)] := hl
  refine lv_iload_n S.1 S.2.1 dX11_say_0 rfl (lv_at hl 1 rfl) ?_
  refine lv_bipush (v := 33) S.1 S.2.1 dX11_say_1 (by decide) ?_
  refine lv_bipush (v := 126) S.1 S.2.1 dX11_say_3 (by decide) ?_
  refine uc_Si (As := [.int x, .int 33, .int 126]) (rest := []) S hK hA Z (c_X5_within l G x 33 126 M) (va_cwS 3 S.2.2.2.2 gX11_say_X5_within rfl rfl rfl (by decide +kernel) ⟨Nat.le_of_ble_eq_true rfl, Nat.le_of_ble_eq_true rfl⟩) rfl hl.1 rfl (Nat.le_of_ble_eq_true rfl) dX11_say_5 ⟨Nat.zero_le _, Nat.zero_le _⟩ (fun r_1 M_1 H locs hp Z => ?_)
  obtain ⟨⟨rfl, w_1⟩ | ⟨rfl, w_1⟩, hM_1⟩ := hp
  · skip
    rw [hM_1] at Z
    refine lv_if_ne (tgt := 14) S.1 S.2.1 dX11_say_8 (by decide) (fun _ => ?_) (fun c => absurd c (by decide))
    refine lv_aload_n S.1 S.2.1 dX11_say_14 rfl (lv_at hl 0 rfl) ?_
    refine ug_r S hK Z (j := 2) 21 (by decide) rfl rfl rfl (by decide) iX11_say_X11 qX11_say_22 dX11_say_15 ?_
    refine ug_i S hK Z (j := 1) (by decide) rfl rfl rfl (by decide) iX11_say_X3 qX11_say_133 dX11_say_18 ?_
    refine utop (y := (nI n)) hn ?_
    refine lv_bipush (v := 60) S.1 S.2.1 dX11_say_21 (by decide) ?_
    refine lv_icmp_lt (tgt := 29) S.1 S.2.1 dX11_say_23 (by decide) (fun c_3 => ?_) (fun c_3 => ?_)
    · skip
      have c_3 : n < 60 := (nI_ltI (a := n) (b := 60) (by omega) (by omega)).mp c_3
      refine lv_aload_n S.1 S.2.1 dX11_say_29 rfl (lv_at hl 0 rfl) ?_
      refine ug_r S hK Z (j := 2) 21 (by decide) rfl rfl rfl (by decide) iX11_say_X11 qX11_say_22 dX11_say_30 ?_
      refine lv_iload_n S.1 S.2.1 dX11_say_33 rfl (lv_at hl 1 rfl) ?_
      refine ud_Vv (As := [.int x]) (rest := []) S hK hA Z (c_X3_add l G x M n hn (by omega)) (cwV 1 S.2.2.2.2 gX11_say_X3_add rfl rfl rfl (by decide +kernel) ⟨Nat.le_of_ble_eq_true rfl, Nat.le_of_ble_eq_true rfl⟩) (by decide) rfl rfl rfl hl.1 rfl (Nat.le_of_ble_eq_true rfl) dX11_say_34 ⟨Nat.zero_le _, Nat.zero_le _⟩ (fun H locs Z => ?_)
      refine lv_aload_n S.1 S.2.1 dX11_say_37 rfl (lv_at hl 0 rfl) ?_
      refine ug_r S hK Z (j := 2) 21 (by decide) rfl rfl rfl (by decide) iX11_say_X11 qX11_say_22 dX11_say_38 ?_
      refine ug_i S hK Z (j := 1) (by decide) rfl rfl rfl (by decide) iX11_say_X3 qX11_say_133 dX11_say_41 ?_
      refine utop (y := nI (n + 1)) rfl ?_
      refine uret_i S hK Z hre hlk dX11_say_44 ?_
      have e : spSay n x = nI (n + 1) := by rw [spSay, if_neg (not_not_intro (by assumption)), if_neg (by omega)]
      rw [e]
      refine ⟨rfl, (if_neg (fun q => ?_)).symm⟩
      rcases q with q | q
      · have h1 := nI_toInt (n := n + 1) (by omega)
        rw [q] at h1
        have h2 : (-2 : Int32).toInt = -2 := by decide
        omega
      · have h1 := nI_toInt (n := n + 1) (by omega)
        rw [q] at h1
        have h2 : (-4 : Int32).toInt = -4 := by decide
        omega
    · skip
      have c_3 : ¬ n < 60 := fun z9 => c_3 ((nI_ltI (a := n) (b := 60) (by omega) (by omega)).mpr z9)
      refine lv_bipush (v := (-4)) S.1 S.2.1 dX11_say_26 (by decide) ?_
      refine uret_i S hK Z hre hlk dX11_say_28 ?_
      have e : spSay n x = -4 := by rw [spSay, if_neg (not_not_intro (by assumption)), if_pos (by omega)]
      rw [e]
      exact ⟨rfl, (if_pos (Or.inr rfl)).symm⟩
  · skip
    rw [hM_1] at Z
    refine lv_if_ne (tgt := 14) S.1 S.2.1 dX11_say_8 (by decide) (fun c => absurd c (by decide)) (fun _ => ?_)
    refine lv_bipush (v := (-2)) S.1 S.2.1 dX11_say_11 (by decide) ?_
    refine uret_i S hK Z hre hlk dX11_say_13 ?_
    have e : spSay n x = -2 := by rw [spSay, if_pos (by assumption)]
    rw [e]
    exact ⟨rfl, (if_pos (Or.inl rfl)).symm⟩
set_option maxHeartbeats 4000000 in
set_option maxRecDepth 100000 in
theorem c_X11_wipe (l : Launch) (G : uG) (M : uM) (n : Nat) (hn : M.1 21 1 = nI n) : CTi l G yX11_wipe wsX11_wipe 0 0 [.ref (G.2.2 0)] M (fun r M2 => r = nI n ∧ M2 = u1 M 21 1 0) := by
  refine ustart_i (cc := cX11_wipe) (maxL := 2) (ret := (some .int)) (own := RX11) rfl (by decide) rfl (Nat.le_of_ble_eq_true rfl) ?_
  intro xp xe xs xm xa xb xt xc xA ls S hK hA Z hre hlk hl
  have hl : lv_has ls 2 [(0, .ref (G.2.2 0))] := hl
  refine lv_aload_n S.1 S.2.1 dX11_wipe_0 rfl (lv_at hl 0 rfl) ?_
  refine ug_r S hK Z (j := 2) 21 (by decide) rfl rfl rfl (by decide) iX11_wipe_X11 qX11_wipe_22 dX11_wipe_1 ?_
  refine ug_i S hK Z (j := 1) (by decide) rfl rfl rfl (by decide) iX11_wipe_X3 qX11_wipe_133 dX11_wipe_4 ?_
  refine utop (y := (nI n)) hn ?_
  refine lv_istore_n (lv' := [(1, .int (nI n)), (0, .ref (G.2.2 0))]) S.1 S.2.1 dX11_wipe_7 rfl hl (by decide) rfl (fun ls hl => ?_)
  refine lv_aload_n S.1 S.2.1 dX11_wipe_8 rfl (lv_at hl 1 rfl) ?_
  refine ug_r S hK Z (j := 2) 21 (by decide) rfl rfl rfl (by decide) iX11_wipe_X11 qX11_wipe_22 dX11_wipe_9 ?_
  refine lv_iconst (v := 0) S.1 S.2.1 dX11_wipe_12 (by decide) ?_
  refine up_i S hK Z (j := 1) (by decide) rfl rfl rfl (by decide) iX11_wipe_X3 tyX3_ok nmX3 qX11_wipe_133 rfl rfl rfl dX11_wipe_13 (fun H locs Z => ?_)
  refine lv_iload_n S.1 S.2.1 dX11_wipe_16 rfl (lv_at hl 0 rfl) ?_
  refine uret_i S hK Z hre hlk dX11_wipe_17 ?_
  exact ⟨rfl, rfl⟩
set_option maxHeartbeats 4000000 in
set_option maxRecDepth 100000 in
theorem c_X11_fault (l : Launch) (G : uG) (M : uM) (s : Nat → Nat) (n : Nat) (hp : pdAt M s n) (ho : pdOk s n) : CTi l G yX11_fault wsX11_fault 3 67 [.ref (G.2.2 0)] M (fun r M2 => r = cFault s n ∧ M2 = M) := by
  refine ustart_i (cc := cX11_fault) (maxL := 1) (ret := (some .int)) (own := RX11) rfl (by decide) rfl (Nat.le_of_ble_eq_true rfl) ?_
  intro xp xe xs xm xa xb xt xc xA ls S hK hA Z hre hlk hl
  have hl : lv_has ls 1 [(0, .ref (G.2.2 0))] := hl
  refine lv_aload_n S.1 S.2.1 dX11_fault_0 rfl (lv_at hl 0 rfl) ?_
  refine ug_r S hK Z (j := 2) 21 (by decide) rfl rfl rfl (by decide) iX11_fault_X11 qX11_fault_22 dX11_fault_1 ?_
  refine ud_Vi (As := []) (rest := []) S hK hA Z (c_X3_faultPlace l G M s n hp ho) (cwV 0 S.2.2.2.2 gX11_fault_X3_faultPlace rfl rfl rfl (by decide +kernel) ⟨Nat.le_of_ble_eq_true rfl, Nat.le_of_ble_eq_true rfl⟩) (by decide) rfl rfl rfl hl.1 rfl (Nat.le_of_ble_eq_true rfl) dX11_fault_4 ⟨Nat.zero_le _, Nat.zero_le _⟩ (fun H locs Z => ?_)
  refine uret_i S hK Z hre hlk dX11_fault_7 ?_
  exact ⟨rfl, rfl⟩
set_option maxHeartbeats 4000000 in
set_option maxRecDepth 100000 in
theorem c_X8_add (l : Launch) (G : uG) (k q : Nat) (M : uM) (w : Nat → Nat → Nat) (h8 : w 7 2 < 8) : CTv l G yX8_add wsX8_add 1 22 [.ref (G.2.2 8), .int (nI k), .int (nI q)] (uPW M 1 w) (fun M2 => M2 = uPW M 1 (wu (wu (wu w 8 (w 7 2) k) 9 (w 7 2) q) 7 2 (w 7 2 + 1))) := by
  refine ustart_v (cc := cX8_add) (maxL := 3) (ret := none) (own := RX8) rfl (by decide) rfl (Nat.le_of_ble_eq_true rfl) ?_
  intro xp xe xs xm xa xb xt xc xA ls S hK hA Z hre hlk hl
  have hl : lv_has ls 3 [(0, .ref (G.2.2 8)), (1, .int (nI k)), (2, .int (nI q))] := hl
  refine lv_aload_n S.1 S.2.1 dX8_add_0 rfl (lv_at hl 0 rfl) ?_
  refine ug_i S hK Z (j := 2) (by decide) rfl rfl rfl (by decide) iX8_add_X8 qX8_add_16 dX8_add_1 ?_
  refine utop (y := (nI (w 7 2))) (uPW_g M 1 w 2 (j := 7) (by decide)) ?_
  refine lv_bipush (v := 8) S.1 S.2.1 dX8_add_4 (by decide) ?_
  refine lv_icmp_ge (tgt := 43) S.1 S.2.1 dX8_add_6 (by decide) (fun c_1 => ?_) (fun c_1 => ?_)
  · skip
    have c_1 : 8 ≤ (w 7 2) := (nI_leI (a := 8) (b := (w 7 2)) (by omega) (by omega)).mp c_1
    omega
  · skip
    have c_1 : ¬ 8 ≤ (w 7 2) := fun z9 => c_1 ((nI_leI (a := 8) (b := (w 7 2)) (by omega) (by omega)).mpr z9)
    refine lv_aload_n S.1 S.2.1 dX8_add_9 rfl (lv_at hl 0 rfl) ?_
    refine ug_r S hK Z (j := 0) 9 (by decide) rfl rfl rfl (by decide) iX8_add_X8 qX8_add_9 dX8_add_10 ?_
    refine lv_aload_n S.1 S.2.1 dX8_add_13 rfl (lv_at hl 0 rfl) ?_
    refine ug_i S hK Z (j := 2) (by decide) rfl rfl rfl (by decide) iX8_add_X8 qX8_add_16 dX8_add_14 ?_
    refine utop (y := (nI (w 7 2))) (uPW_g M 1 w 2 (j := 7) (by decide)) ?_
    refine lv_iload_n S.1 S.2.1 dX8_add_17 rfl (lv_at hl 1 rfl) ?_
    refine ud_Sv (As := [.ref (G.2.2 9), .int (nI (w 7 2)), .int (nI k)]) (rest := []) S hK hA Z (c_X5_put l G 9 8 (w 7 2) (by decide) rfl (by omega) (nI k) (uPW M 1 w)) (va_cwS 3 S.2.2.2.2 gX8_add_X5_put rfl rfl rfl (by decide +kernel) ⟨Nat.le_of_ble_eq_true rfl, Nat.le_of_ble_eq_true rfl⟩) rfl hl.1 rfl (Nat.le_of_ble_eq_true rfl) dX8_add_18 ⟨Nat.zero_le _, Nat.zero_le _⟩ (fun H locs Z => ?_)
    have Z := uZ_eq (uPW_s M 1 w (w 7 2) k (j := 8) (by decide)) Z
    refine lv_aload_n S.1 S.2.1 dX8_add_21 rfl (lv_at hl 0 rfl) ?_
    refine ug_r S hK Z (j := 1) 10 (by decide) rfl rfl rfl (by decide) iX8_add_X8 qX8_add_13 dX8_add_22 ?_
    refine lv_aload_n S.1 S.2.1 dX8_add_25 rfl (lv_at hl 0 rfl) ?_
    refine ug_i S hK Z (j := 2) (by decide) rfl rfl rfl (by decide) iX8_add_X8 qX8_add_16 dX8_add_26 ?_
    refine utop (y := (nI ((wu w 8 (w 7 2) k) 7 2))) (uPW_g M 1 (wu w 8 (w 7 2) k) 2 (j := 7) (by decide)) ?_
    refine utop (y := nI (w 7 2)) (congrArg nI (wu_row (by decide) _)) ?_
    refine lv_iload_n S.1 S.2.1 dX8_add_29 rfl (lv_at hl 2 rfl) ?_
    refine ud_Sv (As := [.ref (G.2.2 10), .int (nI (w 7 2)), .int (nI q)]) (rest := []) S hK hA Z (c_X5_put l G 10 8 (w 7 2) (by decide) rfl (by omega) (nI q) (uPW M 1 (wu w 8 (w 7 2) k))) (va_cwS 3 S.2.2.2.2 gX8_add_X5_put rfl rfl rfl (by decide +kernel) ⟨Nat.le_of_ble_eq_true rfl, Nat.le_of_ble_eq_true rfl⟩) rfl hl.1 rfl (Nat.le_of_ble_eq_true rfl) dX8_add_30 ⟨Nat.zero_le _, Nat.zero_le _⟩ (fun H locs Z => ?_)
    have Z := uZ_eq (uPW_s M 1 (wu w 8 (w 7 2) k) (w 7 2) q (j := 9) (by decide)) Z
    refine lv_aload_n S.1 S.2.1 dX8_add_33 rfl (lv_at hl 0 rfl) ?_
    refine lv_dup S.1 S.2.1 dX8_add_34 rfl ?_
    refine ug_i S hK Z (j := 2) (by decide) rfl rfl rfl (by decide) iX8_add_X8 qX8_add_16 dX8_add_35 ?_
    refine utop (y := (nI ((wu (wu w 8 (w 7 2) k) 9 (w 7 2) q) 7 2))) (uPW_g M 1 (wu (wu w 8 (w 7 2) k) 9 (w 7 2) q) 2 (j := 7) (by decide)) ?_
    refine utop (y := nI (w 7 2)) (congrArg nI ((wu_row (by decide) _).trans (wu_row (by decide) _))) ?_
    refine lv_iconst (v := 1) S.1 S.2.1 dX8_add_38 (by decide) ?_
    refine lv_iadd S.1 S.2.1 dX8_add_39 ?_
    refine utop (nI_add (w 7 2) 1) ?_
    refine up_i S hK Z (j := 2) (by decide) rfl rfl rfl (by decide) iX8_add_X8 tyX8_ok nmX8 qX8_add_16 rfl rfl rfl dX8_add_40 (fun H locs Z => ?_)
    have Z := uZ_eq (uPW_s M 1 (wu (wu w 8 (w 7 2) k) 9 (w 7 2) q) 2 ((w 7 2) + 1) (j := 7) (by decide)) Z
    refine uret_v S hK Z hre hlk dX8_add_43 ?_
    exact rfl
set_option maxHeartbeats 4000000 in
set_option maxRecDepth 100000 in
theorem c_X11_ahead (l : Launch) (G : uG) (x y : Int32) (M : uM) (w : Nat → Nat → Nat) (h72 : w 7 2 ≤ 8) : CTi l G yX11_ahead wsX11_ahead 2 44 [.ref (G.2.2 0), .int x, .int y] (uPW M 1 w) (fun r M2 => r = (spAhead w x y).1 ∧ M2 = uPW M 1 (spAhead w x y).2) := by
  refine ustart_i (cc := cX11_ahead) (maxL := 3) (ret := (some .int)) (own := RX11) rfl (by decide) rfl (Nat.le_of_ble_eq_true rfl) ?_
  intro xp xe xs xm xa xb xt xc xA ls S hK hA Z hre hlk hl
  have hl : lv_has ls 3 [(0, .ref (G.2.2 0)), (1, .int x), (2, .int y)] := hl
  refine lv_iload_n S.1 S.2.1 dX11_ahead_0 rfl (lv_at hl 1 rfl) ?_
  refine lv_iconst (v := 0) S.1 S.2.1 dX11_ahead_1 (by decide) ?_
  refine lv_iconst (v := 4) S.1 S.2.1 dX11_ahead_2 (by decide) ?_
  refine uc_Si (As := [.int x, .int 0, .int 4]) (rest := []) S hK hA Z (c_X5_within l G x 0 4 (uPW M 1 w)) (va_cwS 3 S.2.2.2.2 gX11_ahead_X5_within rfl rfl rfl (by decide +kernel) ⟨Nat.le_of_ble_eq_true rfl, Nat.le_of_ble_eq_true rfl⟩) rfl hl.1 rfl (Nat.le_of_ble_eq_true rfl) dX11_ahead_3 ⟨Nat.zero_le _, Nat.zero_le _⟩ (fun r_1 M_1 H locs hp Z => ?_)
  obtain ⟨⟨rfl, w_1⟩ | ⟨rfl, w_1⟩, hM_1⟩ := hp
  · skip
    rw [hM_1] at Z
    refine lv_if_eq (tgt := 23) S.1 S.2.1 dX11_ahead_6 (by decide) (fun c => absurd c (by decide)) (fun _ => ?_)
    refine lv_iload_n S.1 S.2.1 dX11_ahead_9 rfl (lv_at hl 2 rfl) ?_
    refine lv_iconst (v := 0) S.1 S.2.1 dX11_ahead_10 (by decide) ?_
    refine lv_iconst (v := 4) S.1 S.2.1 dX11_ahead_11 (by decide) ?_
    refine uc_Si (As := [.int y, .int 0, .int 4]) (rest := []) S hK hA Z (c_X5_within l G y 0 4 (uPW M 1 w)) (va_cwS 3 S.2.2.2.2 gX11_ahead_X5_within rfl rfl rfl (by decide +kernel) ⟨Nat.le_of_ble_eq_true rfl, Nat.le_of_ble_eq_true rfl⟩) rfl hl.1 rfl (Nat.le_of_ble_eq_true rfl) dX11_ahead_12 ⟨Nat.zero_le _, Nat.zero_le _⟩ (fun r_3 M_3 H locs hp Z => ?_)
    obtain ⟨⟨rfl, w_3⟩ | ⟨rfl, w_3⟩, hM_3⟩ := hp
    · skip
      rw [hM_3] at Z
      refine lv_if_eq (tgt := 23) S.1 S.2.1 dX11_ahead_15 (by decide) (fun c => absurd c (by decide)) (fun _ => ?_)
      refine lv_iload_n S.1 S.2.1 dX11_ahead_18 rfl (lv_at hl 1 rfl) ?_
      refine lv_iload_n S.1 S.2.1 dX11_ahead_19 rfl (lv_at hl 2 rfl) ?_
      refine lv_icmp_ne (tgt := 26) S.1 S.2.1 dX11_ahead_20 (by decide) (fun c_5 => ?_) (fun c_5 => ?_)
      · skip
        refine lv_aload_n S.1 S.2.1 dX11_ahead_26 rfl (lv_at hl 0 rfl) ?_
        refine ug_r S hK Z (j := 0) 1 (by decide) rfl rfl rfl (by decide) iX11_ahead_X11 qX11_ahead_10 dX11_ahead_27 ?_
        refine ug_r S hK Z (j := 6) 8 (by decide) rfl rfl rfl (by decide) iX11_ahead_X10 qX11_ahead_238 dX11_ahead_30 ?_
        refine ug_i S hK Z (j := 2) (by decide) rfl rfl rfl (by decide) iX11_ahead_X8 qX11_ahead_242 dX11_ahead_33 ?_
        refine utop (y := (nI (w 7 2))) (uPW_g M 1 w 2 (j := 7) (by decide)) ?_
        refine lv_bipush (v := 8) S.1 S.2.1 dX11_ahead_36 (by decide) ?_
        refine lv_icmp_lt (tgt := 44) S.1 S.2.1 dX11_ahead_38 (by decide) (fun c_6 => ?_) (fun c_6 => ?_)
        · skip
          have c_6 : (w 7 2) < 8 := (nI_ltI (a := (w 7 2)) (b := 8) (by omega) (by omega)).mp c_6
          obtain ⟨k, hk, rfl⟩ := u_in0 (n := 4) (show inr x 0 4 by assumption) (by decide)
          obtain ⟨q, hq, rfl⟩ := u_in0 (n := 4) (show inr y 0 4 by assumption) (by decide)
          refine lv_aload_n S.1 S.2.1 dX11_ahead_44 rfl (lv_at hl 0 rfl) ?_
          refine ug_r S hK Z (j := 0) 1 (by decide) rfl rfl rfl (by decide) iX11_ahead_X11 qX11_ahead_10 dX11_ahead_45 ?_
          refine ug_r S hK Z (j := 6) 8 (by decide) rfl rfl rfl (by decide) iX11_ahead_X10 qX11_ahead_238 dX11_ahead_48 ?_
          refine lv_iload_n S.1 S.2.1 dX11_ahead_51 rfl (lv_at hl 1 rfl) ?_
          refine lv_iload_n S.1 S.2.1 dX11_ahead_52 rfl (lv_at hl 2 rfl) ?_
          refine ud_Vv (As := [.int (nI k), .int (nI q)]) (rest := []) S hK hA Z (c_X8_add l G k q M w (by omega)) (cwV 2 S.2.2.2.2 gX11_ahead_X8_add rfl rfl rfl (by decide +kernel) ⟨Nat.le_of_ble_eq_true rfl, Nat.le_of_ble_eq_true rfl⟩) (by decide) rfl rfl rfl hl.1 rfl (Nat.le_of_ble_eq_true rfl) dX11_ahead_53 ⟨Nat.zero_le _, Nat.zero_le _⟩ (fun H locs Z => ?_)
          refine lv_aload_n S.1 S.2.1 dX11_ahead_56 rfl (lv_at hl 0 rfl) ?_
          refine ug_r S hK Z (j := 0) 1 (by decide) rfl rfl rfl (by decide) iX11_ahead_X11 qX11_ahead_10 dX11_ahead_57 ?_
          refine ug_r S hK Z (j := 6) 8 (by decide) rfl rfl rfl (by decide) iX11_ahead_X10 qX11_ahead_238 dX11_ahead_60 ?_
          refine ug_i S hK Z (j := 2) (by decide) rfl rfl rfl (by decide) iX11_ahead_X8 qX11_ahead_242 dX11_ahead_63 ?_
          refine utop (y := (nI ((wu (wu (wu w 8 (w 7 2) k) 9 (w 7 2) q) 7 2 (w 7 2 + 1)) 7 2))) (uPW_g M 1 (wu (wu (wu w 8 (w 7 2) k) 9 (w 7 2) q) 7 2 (w 7 2 + 1)) 2 (j := 7) (by decide)) ?_
          refine utop (y := nI (w 7 2 + 1)) (congrArg nI (wu_eq _ _ _ _)) ?_
          refine uret_i S hK Z hre hlk dX11_ahead_66 ?_
          rw [spAhead, if_neg (u_no3 (by assumption) (by assumption) (by assumption)), if_neg (by omega), nI_clamp (show k < 2 ^ 31 by omega), nI_clamp (show q < 2 ^ 31 by omega)]
          exact ⟨rfl, rfl⟩
        · skip
          have c_6 : ¬ (w 7 2) < 8 := fun z9 => c_6 ((nI_ltI (a := (w 7 2)) (b := 8) (by omega) (by omega)).mpr z9)
          refine lv_bipush (v := (-4)) S.1 S.2.1 dX11_ahead_41 (by decide) ?_
          refine uret_i S hK Z hre hlk dX11_ahead_43 ?_
          rw [spAhead, if_neg (u_no3 (by assumption) (by assumption) (by assumption)), if_pos (by omega)]
          exact ⟨rfl, rfl⟩
      · skip
        refine lv_bipush (v := (-2)) S.1 S.2.1 dX11_ahead_23 (by decide) ?_
        refine uret_i S hK Z hre hlk dX11_ahead_25 ?_
        rw [spAhead, if_pos (by first | exact Or.inl (by assumption) | exact Or.inr (Or.inl (by assumption)) | exact Or.inr (Or.inr (not_not_intro (by assumption))))]
        exact ⟨rfl, rfl⟩
    · skip
      rw [hM_3] at Z
      refine lv_if_eq (tgt := 23) S.1 S.2.1 dX11_ahead_15 (by decide) (fun _ => ?_) (fun c => absurd c (by decide))
      refine lv_bipush (v := (-2)) S.1 S.2.1 dX11_ahead_23 (by decide) ?_
      refine uret_i S hK Z hre hlk dX11_ahead_25 ?_
      rw [spAhead, if_pos (by first | exact Or.inl (by assumption) | exact Or.inr (Or.inl (by assumption)) | exact Or.inr (Or.inr (not_not_intro (by assumption))))]
      exact ⟨rfl, rfl⟩
  · skip
    rw [hM_1] at Z
    refine lv_if_eq (tgt := 23) S.1 S.2.1 dX11_ahead_6 (by decide) (fun _ => ?_) (fun c => absurd c (by decide))
    refine lv_bipush (v := (-2)) S.1 S.2.1 dX11_ahead_23 (by decide) ?_
    refine uret_i S hK Z hre hlk dX11_ahead_25 ?_
    rw [spAhead, if_pos (by first | exact Or.inl (by assumption) | exact Or.inr (Or.inl (by assumption)) | exact Or.inr (Or.inr (not_not_intro (by assumption))))]
    exact ⟨rfl, rfl⟩
set_option maxHeartbeats 4000000 in
set_option maxRecDepth 100000 in
theorem c_X11_forget (l : Launch) (G : uG) (M : uM) (w : Nat → Nat → Nat) : CTi l G yX11_forget wsX11_forget 0 0 [.ref (G.2.2 0)] (uPW M 1 w) (fun r M2 => r = nI (w 7 2) ∧ M2 = uPW M 1 (wu w 7 2 0)) := by
  refine ustart_i (cc := cX11_forget) (maxL := 2) (ret := (some .int)) (own := RX11) rfl (by decide) rfl (Nat.le_of_ble_eq_true rfl) ?_
  intro xp xe xs xm xa xb xt xc xA ls S hK hA Z hre hlk hl
  have hl : lv_has ls 2 [(0, .ref (G.2.2 0))] := hl
  refine lv_aload_n S.1 S.2.1 dX11_forget_0 rfl (lv_at hl 0 rfl) ?_
  refine ug_r S hK Z (j := 0) 1 (by decide) rfl rfl rfl (by decide) iX11_forget_X11 qX11_forget_10 dX11_forget_1 ?_
  refine ug_r S hK Z (j := 6) 8 (by decide) rfl rfl rfl (by decide) iX11_forget_X10 qX11_forget_238 dX11_forget_4 ?_
  refine ug_i S hK Z (j := 2) (by decide) rfl rfl rfl (by decide) iX11_forget_X8 qX11_forget_242 dX11_forget_7 ?_
  refine utop (y := (nI (w 7 2))) (uPW_g M 1 w 2 (j := 7) (by decide)) ?_
  refine lv_istore_n (lv' := [(1, .int (nI (w 7 2))), (0, .ref (G.2.2 0))]) S.1 S.2.1 dX11_forget_10 rfl hl (by decide) rfl (fun ls hl => ?_)
  refine lv_aload_n S.1 S.2.1 dX11_forget_11 rfl (lv_at hl 1 rfl) ?_
  refine ug_r S hK Z (j := 0) 1 (by decide) rfl rfl rfl (by decide) iX11_forget_X11 qX11_forget_10 dX11_forget_12 ?_
  refine ug_r S hK Z (j := 6) 8 (by decide) rfl rfl rfl (by decide) iX11_forget_X10 qX11_forget_238 dX11_forget_15 ?_
  refine lv_iconst (v := 0) S.1 S.2.1 dX11_forget_18 (by decide) ?_
  refine up_i S hK Z (j := 2) (by decide) rfl rfl rfl (by decide) iX11_forget_X8 tyX8_ok nmX8 qX11_forget_242 rfl rfl rfl dX11_forget_19 (fun H locs Z => ?_)
  have Z := uZ_eq (uPW_s M 1 w 2 0 (j := 7) (by decide)) Z
  refine lv_iload_n S.1 S.2.1 dX11_forget_22 rfl (lv_at hl 0 rfl) ?_
  refine uret_i S hK Z hre hlk dX11_forget_23 ?_
  exact ⟨rfl, rfl⟩
set_option maxHeartbeats 4000000 in
set_option maxRecDepth 100000 in
theorem c_X11_toldOfThing (l : Launch) (G : uG) (t j : Nat) (ht : t < 214748365) (hj : j < 10) (M : uM) (w : Nat → Nat → Nat) (n : Nat) (hr : uRd M 1 w) (hn : M.1 21 1 = nI n) : CTi l G yX11_toldOfThing wsX11_toldOfThing 2 42 [.ref (G.2.2 0), .int (nI t), .int (nI j)] M (fun r M2 => r = (if t < 12 then spOf w t j else -2) ∧ M2 = M) := by
  refine ustart_i (cc := cX11_toldOfThing) (maxL := 3) (ret := (some .int)) (own := RX11) rfl (by decide) rfl (Nat.le_of_ble_eq_true rfl) ?_
  intro xp xe xs xm xa xb xt xc xA ls S hK hA Z hre hlk hl
  have hl : lv_has ls 3 [(0, .ref (G.2.2 0)), (1, .int (nI t)), (2, .int (nI j))] := hl
  refine lv_iload_n S.1 S.2.1 dX11_toldOfThing_0 rfl (lv_at hl 1 rfl) ?_
  refine uc_Si (As := [.int (nI t)]) (rest := []) S hK hA Z (c_X11_isThing l G (nI t) M) (va_cwS 1 S.2.2.2.2 gX11_toldOfThing_X11_isThing rfl rfl rfl (by decide +kernel) ⟨Nat.le_of_ble_eq_true rfl, Nat.le_of_ble_eq_true rfl⟩) rfl hl.1 rfl (Nat.le_of_ble_eq_true rfl) dX11_toldOfThing_1 ⟨Nat.zero_le _, Nat.zero_le _⟩ (fun r_1 M_1 H locs hp Z => ?_)
  obtain ⟨⟨rfl, w_1⟩ | ⟨rfl, w_1⟩, hM_1⟩ := hp
  · skip
    rw [hM_1] at Z
    refine lv_if_ne (tgt := 10) S.1 S.2.1 dX11_toldOfThing_4 (by decide) (fun _ => ?_) (fun c => absurd c (by decide))
    have ht12 : t < 12 := by
      have h9 := (by assumption : inr (nI t) 0 11).2
      have := (nI_leI (a := t) (b := 11) (by omega) (by decide)).mp h9
      omega
    refine lv_iload_n S.1 S.2.1 dX11_toldOfThing_10 rfl (lv_at hl 2 rfl) ?_
    by_cases k_3 : (nI j) = 0
    · skip
      refine utop k_3 ?_
      have k_3 : j = 0 := (nI_eq (a := j) (b := 0) (by omega) (by omega)).mp k_3
      refine lv_tableIn (tgt := 40) S.1 S.2.1 dX11_toldOfThing_11 (by decide) (by decide) rfl (by decide) ?_
      refine lv_aload_n S.1 S.2.1 dX11_toldOfThing_40 rfl (lv_at hl 0 rfl) ?_
      refine ug_r S hK Z (j := 0) 1 (by decide) rfl rfl rfl (by decide) iX11_toldOfThing_X11 qX11_toldOfThing_10 dX11_toldOfThing_41 ?_
      refine ug_r S hK Z (j := 0) 2 (by decide) rfl rfl rfl (by decide) iX11_toldOfThing_X10 qX11_toldOfThing_98 dX11_toldOfThing_44 ?_
      refine lv_iload_n S.1 S.2.1 dX11_toldOfThing_47 rfl (lv_at hl 1 rfl) ?_
      refine ud_Si (As := [.ref (G.2.2 2), .int (nI t)]) (rest := []) S hK hA Z (c_X5_at l G 2 12 t (by decide) rfl (by omega) M) (va_cwS 2 S.2.2.2.2 gX11_toldOfThing_X5_at rfl rfl rfl (by decide +kernel) ⟨Nat.le_of_ble_eq_true rfl, Nat.le_of_ble_eq_true rfl⟩) rfl hl.1 rfl (Nat.le_of_ble_eq_true rfl) dX11_toldOfThing_48 ⟨Nat.zero_le _, Nat.zero_le _⟩ (fun H locs Z => ?_)
      refine utop (y := (nI (w 1 t))) (hr 1 (by decide) t) ?_
      refine uret_i S hK Z hre hlk dX11_toldOfThing_51 ?_
      rw [if_pos ht12, spOf, if_pos (by omega)]
      exact ⟨rfl, rfl⟩
    · skip
      have jk_3 : ¬ j = 0 := fun z9 => k_3 ((nI_eq (a := j) (b := 0) (by omega) (by omega)).mpr z9)
      by_cases k_5 : (nI j) = 1
      · skip
        refine utop k_5 ?_
        have k_5 : j = 1 := (nI_eq (a := j) (b := 1) (by omega) (by omega)).mp k_5
        refine lv_tableIn (tgt := 52) S.1 S.2.1 dX11_toldOfThing_11 (by decide) (by decide) rfl (by decide) ?_
        refine lv_aload_n S.1 S.2.1 dX11_toldOfThing_52 rfl (lv_at hl 0 rfl) ?_
        refine ug_r S hK Z (j := 0) 1 (by decide) rfl rfl rfl (by decide) iX11_toldOfThing_X11 qX11_toldOfThing_10 dX11_toldOfThing_53 ?_
        refine ug_r S hK Z (j := 1) 3 (by decide) rfl rfl rfl (by decide) iX11_toldOfThing_X10 qX11_toldOfThing_110 dX11_toldOfThing_56 ?_
        refine lv_iload_n S.1 S.2.1 dX11_toldOfThing_59 rfl (lv_at hl 1 rfl) ?_
        refine ud_Si (As := [.ref (G.2.2 3), .int (nI t)]) (rest := []) S hK hA Z (c_X5_at l G 3 12 t (by decide) rfl (by omega) M) (va_cwS 2 S.2.2.2.2 gX11_toldOfThing_X5_at rfl rfl rfl (by decide +kernel) ⟨Nat.le_of_ble_eq_true rfl, Nat.le_of_ble_eq_true rfl⟩) rfl hl.1 rfl (Nat.le_of_ble_eq_true rfl) dX11_toldOfThing_60 ⟨Nat.zero_le _, Nat.zero_le _⟩ (fun H locs Z => ?_)
        refine utop (y := (nI (w 2 t))) (hr 2 (by decide) t) ?_
        refine uret_i S hK Z hre hlk dX11_toldOfThing_63 ?_
        rw [if_pos ht12, spOf, if_neg (by omega), if_pos (by omega)]
        exact ⟨rfl, rfl⟩
      · skip
        have jk_5 : ¬ j = 1 := fun z9 => k_5 ((nI_eq (a := j) (b := 1) (by omega) (by omega)).mpr z9)
        by_cases k_7 : (nI j) = 2
        · skip
          refine utop k_7 ?_
          have k_7 : j = 2 := (nI_eq (a := j) (b := 2) (by omega) (by omega)).mp k_7
          refine lv_tableIn (tgt := 64) S.1 S.2.1 dX11_toldOfThing_11 (by decide) (by decide) rfl (by decide) ?_
          refine lv_aload_n S.1 S.2.1 dX11_toldOfThing_64 rfl (lv_at hl 0 rfl) ?_
          refine ug_r S hK Z (j := 0) 1 (by decide) rfl rfl rfl (by decide) iX11_toldOfThing_X11 qX11_toldOfThing_10 dX11_toldOfThing_65 ?_
          refine ug_r S hK Z (j := 2) 4 (by decide) rfl rfl rfl (by decide) iX11_toldOfThing_X10 qX11_toldOfThing_113 dX11_toldOfThing_68 ?_
          refine lv_iload_n S.1 S.2.1 dX11_toldOfThing_71 rfl (lv_at hl 1 rfl) ?_
          refine ud_Si (As := [.ref (G.2.2 4), .int (nI t)]) (rest := []) S hK hA Z (c_X5_at l G 4 12 t (by decide) rfl (by omega) M) (va_cwS 2 S.2.2.2.2 gX11_toldOfThing_X5_at rfl rfl rfl (by decide +kernel) ⟨Nat.le_of_ble_eq_true rfl, Nat.le_of_ble_eq_true rfl⟩) rfl hl.1 rfl (Nat.le_of_ble_eq_true rfl) dX11_toldOfThing_72 ⟨Nat.zero_le _, Nat.zero_le _⟩ (fun H locs Z => ?_)
          refine utop (y := (nI (w 3 t))) (hr 3 (by decide) t) ?_
          refine uret_i S hK Z hre hlk dX11_toldOfThing_75 ?_
          rw [if_pos ht12, spOf, if_neg (by omega), if_neg (by omega), if_pos (by omega)]
          exact ⟨rfl, rfl⟩
        · skip
          have jk_7 : ¬ j = 2 := fun z9 => k_7 ((nI_eq (a := j) (b := 2) (by omega) (by omega)).mpr z9)
          by_cases k_9 : (nI j) = 3
          · skip
            refine utop k_9 ?_
            have k_9 : j = 3 := (nI_eq (a := j) (b := 3) (by omega) (by omega)).mp k_9
            refine lv_tableIn (tgt := 76) S.1 S.2.1 dX11_toldOfThing_11 (by decide) (by decide) rfl (by decide) ?_
            refine lv_aload_n S.1 S.2.1 dX11_toldOfThing_76 rfl (lv_at hl 0 rfl) ?_
            refine ug_r S hK Z (j := 0) 1 (by decide) rfl rfl rfl (by decide) iX11_toldOfThing_X11 qX11_toldOfThing_10 dX11_toldOfThing_77 ?_
            refine ug_r S hK Z (j := 3) 5 (by decide) rfl rfl rfl (by decide) iX11_toldOfThing_X10 qX11_toldOfThing_116 dX11_toldOfThing_80 ?_
            refine lv_iload_n S.1 S.2.1 dX11_toldOfThing_83 rfl (lv_at hl 1 rfl) ?_
            refine ud_Si (As := [.ref (G.2.2 5), .int (nI t)]) (rest := []) S hK hA Z (c_X5_at l G 5 12 t (by decide) rfl (by omega) M) (va_cwS 2 S.2.2.2.2 gX11_toldOfThing_X5_at rfl rfl rfl (by decide +kernel) ⟨Nat.le_of_ble_eq_true rfl, Nat.le_of_ble_eq_true rfl⟩) rfl hl.1 rfl (Nat.le_of_ble_eq_true rfl) dX11_toldOfThing_84 ⟨Nat.zero_le _, Nat.zero_le _⟩ (fun H locs Z => ?_)
            refine utop (y := (nI (w 4 t))) (hr 4 (by decide) t) ?_
            refine uret_i S hK Z hre hlk dX11_toldOfThing_87 ?_
            rw [if_pos ht12, spOf, if_neg (by omega), if_neg (by omega), if_neg (by omega), if_pos (by omega)]
            exact ⟨rfl, rfl⟩
          · skip
            have jk_9 : ¬ j = 3 := fun z9 => k_9 ((nI_eq (a := j) (b := 3) (by omega) (by omega)).mpr z9)
            have tk_3 := lv_neT k_3 (show (0 : Int32).toInt = 0 from by decide)
            have tk_5 := lv_neT k_5 (show (1 : Int32).toInt = 1 from by decide)
            have tk_7 := lv_neT k_7 (show (2 : Int32).toInt = 2 from by decide)
            have tk_9 := lv_neT k_9 (show (3 : Int32).toInt = 3 from by decide)
            refine lv_tableOut (tgt := 88) S.1 S.2.1 dX11_toldOfThing_11 (by omega) (by decide) ?_
            refine lv_bipush (v := (-2)) S.1 S.2.1 dX11_toldOfThing_88 (by decide) ?_
            refine uret_i S hK Z hre hlk dX11_toldOfThing_90 ?_
            rw [if_pos ht12, spOf, if_neg (by omega), if_neg (by omega), if_neg (by omega), if_neg (by omega)]
            exact ⟨rfl, rfl⟩
  · skip
    rw [hM_1] at Z
    refine lv_if_ne (tgt := 10) S.1 S.2.1 dX11_toldOfThing_4 (by decide) (fun c => absurd c (by decide)) (fun _ => ?_)
    refine lv_bipush (v := (-2)) S.1 S.2.1 dX11_toldOfThing_7 (by decide) ?_
    refine uret_i S hK Z hre hlk dX11_toldOfThing_9 ?_
    rw [if_neg (fun q => (by assumption : ¬ inr (nI t) 0 11) ⟨nI_pos' (by omega), nI_le (a := t) (b := 11) (by omega) (by decide)⟩)]
    exact ⟨rfl, rfl⟩
set_option maxHeartbeats 4000000 in
set_option maxRecDepth 100000 in
theorem c_X11_told (l : Launch) (G : uG) (x : Int32) (M : uM) (w : Nat → Nat → Nat) (n : Nat) (hr : uRd M 1 w) (hn : M.1 21 1 = nI n) : CTi l G yX11_told wsX11_told 3 64 [.ref (G.2.2 0), .int x] M (fun r M2 => r = spTold w n x ∧ M2 = M) := by
  refine ustart_i (cc := cX11_told) (maxL := 2) (ret := (some .int)) (own := RX11) rfl (by decide) rfl (Nat.le_of_ble_eq_true rfl) ?_
  intro xp xe xs xm xa xb xt xc xA ls S hK hA Z hre hlk hl
  have hl : lv_has ls 2 [(0, .ref (G.2.2 0)), (1, .int x)] := hl
  refine lv_iload_n S.1 S.2.1 dX11_told_0 rfl (lv_at hl 1 rfl) ?_
  refine lv_bipush (v := 100) S.1 S.2.1 dX11_told_1 (by decide) ?_
  refine lv_icmp_lt (tgt := 25) S.1 S.2.1 dX11_told_3 (by decide) (fun c_1 => ?_) (fun c_1 => ?_)
  · skip
    have h100 := c_1
    refine lv_iload_n S.1 S.2.1 dX11_told_25 rfl (lv_at hl 1 rfl) ?_
    refine lv_bipush (v := 20) S.1 S.2.1 dX11_told_26 (by decide) ?_
    refine lv_bipush (v := 27) S.1 S.2.1 dX11_told_28 (by decide) ?_
    refine uc_Si (As := [.int x, .int 20, .int 27]) (rest := []) S hK hA Z (c_X5_within l G x 20 27 M) (va_cwS 3 S.2.2.2.2 gX11_told_X5_within rfl rfl rfl (by decide +kernel) ⟨Nat.le_of_ble_eq_true rfl, Nat.le_of_ble_eq_true rfl⟩) rfl hl.1 rfl (Nat.le_of_ble_eq_true rfl) dX11_told_30 ⟨Nat.zero_le _, Nat.zero_le _⟩ (fun r_2 M_2 H locs hp Z => ?_)
    obtain ⟨⟨rfl, w_2⟩ | ⟨rfl, w_2⟩, hM_2⟩ := hp
    · skip
      rw [hM_2] at Z
      refine lv_if_eq (tgt := 51) S.1 S.2.1 dX11_told_33 (by decide) (fun c => absurd c (by decide)) (fun _ => ?_)
      have h20 := (by assumption : inr x 20 27)
      obtain ⟨v, hv2, rfl⟩ := u_rng2 (n := 27) (Int32.le_trans (by decide) h20.1) h20.2 (by decide)
      have hv1 : 20 ≤ v := (nI_leI (a := 20) (b := v) (by decide) (by omega)).mp h20.1
      refine lv_aload_n S.1 S.2.1 dX11_told_36 rfl (lv_at hl 0 rfl) ?_
      refine ug_r S hK Z (j := 0) 1 (by decide) rfl rfl rfl (by decide) iX11_told_X11 qX11_told_10 dX11_told_37 ?_
      refine ug_r S hK Z (j := 5) 7 (by decide) rfl rfl rfl (by decide) iX11_told_X10 qX11_told_290 dX11_told_40 ?_
      refine lv_iload_n S.1 S.2.1 dX11_told_43 rfl (lv_at hl 1 rfl) ?_
      refine lv_bipush (v := 20) S.1 S.2.1 dX11_told_44 (by decide) ?_
      refine lv_isub S.1 S.2.1 dX11_told_46 ?_
      refine utop (pk_sub (a := v) (b := 20) (by omega)) ?_
      refine ud_Si (As := [.ref (G.2.2 7), .int (nI (v - 20))]) (rest := []) S hK hA Z (c_X5_at l G 7 8 (v - 20) (by decide) rfl (by omega) M) (va_cwS 2 S.2.2.2.2 gX11_told_X5_at rfl rfl rfl (by decide +kernel) ⟨Nat.le_of_ble_eq_true rfl, Nat.le_of_ble_eq_true rfl⟩) rfl hl.1 rfl (Nat.le_of_ble_eq_true rfl) dX11_told_47 ⟨Nat.zero_le _, Nat.zero_le _⟩ (fun H locs Z => ?_)
      refine utop (y := (nI (w 6 (v - 20)))) (hr 6 (by decide) (v - 20)) ?_
      refine uret_i S hK Z hre hlk dX11_told_50 ?_
      rw [spTold, if_neg (Int32.not_le.mpr h100), if_pos h20, nI_clamp (show v < 2 ^ 31 by omega)]
      exact ⟨rfl, rfl⟩
    · skip
      rw [hM_2] at Z
      refine lv_if_eq (tgt := 51) S.1 S.2.1 dX11_told_33 (by decide) (fun _ => ?_) (fun c => absurd c (by decide))
      refine lv_iload_n S.1 S.2.1 dX11_told_51 rfl (lv_at hl 1 rfl) ?_
      refine lv_bipush (v := 10) S.1 S.2.1 dX11_told_52 (by decide) ?_
      refine lv_bipush (v := 17) S.1 S.2.1 dX11_told_54 (by decide) ?_
      refine uc_Si (As := [.int x, .int 10, .int 17]) (rest := []) S hK hA Z (c_X5_within l G x 10 17 M) (va_cwS 3 S.2.2.2.2 gX11_told_X5_within rfl rfl rfl (by decide +kernel) ⟨Nat.le_of_ble_eq_true rfl, Nat.le_of_ble_eq_true rfl⟩) rfl hl.1 rfl (Nat.le_of_ble_eq_true rfl) dX11_told_56 ⟨Nat.zero_le _, Nat.zero_le _⟩ (fun r_6 M_6 H locs hp Z => ?_)
      obtain ⟨⟨rfl, w_6⟩ | ⟨rfl, w_6⟩, hM_6⟩ := hp
      · skip
        rw [hM_6] at Z
        refine lv_if_eq (tgt := 77) S.1 S.2.1 dX11_told_59 (by decide) (fun c => absurd c (by decide)) (fun _ => ?_)
        have h10 := (by assumption : inr x 10 17)
        obtain ⟨v, hv2, rfl⟩ := u_rng2 (n := 17) (Int32.le_trans (by decide) h10.1) h10.2 (by decide)
        have hv1 : 10 ≤ v := (nI_leI (a := 10) (b := v) (by decide) (by omega)).mp h10.1
        refine lv_aload_n S.1 S.2.1 dX11_told_62 rfl (lv_at hl 0 rfl) ?_
        refine ug_r S hK Z (j := 0) 1 (by decide) rfl rfl rfl (by decide) iX11_told_X11 qX11_told_10 dX11_told_63 ?_
        refine ug_r S hK Z (j := 4) 6 (by decide) rfl rfl rfl (by decide) iX11_told_X10 qX11_told_119 dX11_told_66 ?_
        refine lv_iload_n S.1 S.2.1 dX11_told_69 rfl (lv_at hl 1 rfl) ?_
        refine lv_bipush (v := 10) S.1 S.2.1 dX11_told_70 (by decide) ?_
        refine lv_isub S.1 S.2.1 dX11_told_72 ?_
        refine utop (pk_sub (a := v) (b := 10) (by omega)) ?_
        refine ud_Si (As := [.ref (G.2.2 6), .int (nI (v - 10))]) (rest := []) S hK hA Z (c_X5_at l G 6 8 (v - 10) (by decide) rfl (by omega) M) (va_cwS 2 S.2.2.2.2 gX11_told_X5_at rfl rfl rfl (by decide +kernel) ⟨Nat.le_of_ble_eq_true rfl, Nat.le_of_ble_eq_true rfl⟩) rfl hl.1 rfl (Nat.le_of_ble_eq_true rfl) dX11_told_73 ⟨Nat.zero_le _, Nat.zero_le _⟩ (fun H locs Z => ?_)
        refine utop (y := (nI (w 5 (v - 10)))) (hr 5 (by decide) (v - 10)) ?_
        refine uret_i S hK Z hre hlk dX11_told_76 ?_
        rw [spTold, if_neg (Int32.not_le.mpr h100), if_neg (by assumption), if_pos h10, nI_clamp (show v < 2 ^ 31 by omega)]
        exact ⟨rfl, rfl⟩
      · skip
        rw [hM_6] at Z
        refine lv_if_eq (tgt := 77) S.1 S.2.1 dX11_told_59 (by decide) (fun _ => ?_) (fun c => absurd c (by decide))
        refine lv_iload_n S.1 S.2.1 dX11_told_77 rfl (lv_at hl 1 rfl) ?_
        by_cases k_10 : x = 0
        · skip
          refine utop k_10 ?_
          refine lv_tableIn (tgt := 108) S.1 S.2.1 dX11_told_78 (by decide) (by decide) rfl (by decide) ?_
          refine lv_aload_n S.1 S.2.1 dX11_told_108 rfl (lv_at hl 0 rfl) ?_
          refine ug_r S hK Z (j := 2) 21 (by decide) rfl rfl rfl (by decide) iX11_told_X11 qX11_told_22 dX11_told_109 ?_
          refine ug_i S hK Z (j := 1) (by decide) rfl rfl rfl (by decide) iX11_told_X3 qX11_told_133 dX11_told_112 ?_
          refine utop (y := (nI n)) hn ?_
          refine uret_i S hK Z hre hlk dX11_told_115 ?_
          rw [spTold, if_neg (Int32.not_le.mpr h100), if_neg (show ¬ inr x 20 27 by assumption), if_neg (show ¬ inr x 10 17 by assumption), if_pos (by assumption)]
          exact ⟨rfl, rfl⟩
        · skip
          by_cases k_11 : x = 1
          · skip
            refine utop k_11 ?_
            refine lv_tableIn (tgt := 116) S.1 S.2.1 dX11_told_78 (by decide) (by decide) rfl (by decide) ?_
            refine lv_aload_n S.1 S.2.1 dX11_told_116 rfl (lv_at hl 0 rfl) ?_
            refine ug_r S hK Z (j := 0) 1 (by decide) rfl rfl rfl (by decide) iX11_told_X11 qX11_told_10 dX11_told_117 ?_
            refine ug_i S hK Z (j := 7) (by decide) rfl rfl rfl (by decide) iX11_told_X10 qX11_told_122 dX11_told_120 ?_
            refine utop (y := (nI (w 0 7))) (hr 0 (by decide) 7) ?_
            refine uret_i S hK Z hre hlk dX11_told_123 ?_
            rw [spTold, if_neg (Int32.not_le.mpr h100), if_neg (show ¬ inr x 20 27 by assumption), if_neg (show ¬ inr x 10 17 by assumption), if_neg (show ¬ x = 0 by assumption), if_pos (by assumption)]
            exact ⟨rfl, rfl⟩
          · skip
            by_cases k_12 : x = 2
            · skip
              refine utop k_12 ?_
              refine lv_tableIn (tgt := 124) S.1 S.2.1 dX11_told_78 (by decide) (by decide) rfl (by decide) ?_
              refine lv_aload_n S.1 S.2.1 dX11_told_124 rfl (lv_at hl 0 rfl) ?_
              refine ug_r S hK Z (j := 0) 1 (by decide) rfl rfl rfl (by decide) iX11_told_X11 qX11_told_10 dX11_told_125 ?_
              refine ug_i S hK Z (j := 8) (by decide) rfl rfl rfl (by decide) iX11_told_X10 qX11_told_293 dX11_told_128 ?_
              refine utop (y := (nI (w 0 8))) (hr 0 (by decide) 8) ?_
              refine uret_i S hK Z hre hlk dX11_told_131 ?_
              rw [spTold, if_neg (Int32.not_le.mpr h100), if_neg (show ¬ inr x 20 27 by assumption), if_neg (show ¬ inr x 10 17 by assumption), if_neg (show ¬ x = 0 by assumption), if_neg (show ¬ x = 1 by assumption), if_pos (by assumption)]
              exact ⟨rfl, rfl⟩
            · skip
              by_cases k_13 : x = 3
              · skip
                refine utop k_13 ?_
                refine lv_tableIn (tgt := 132) S.1 S.2.1 dX11_told_78 (by decide) (by decide) rfl (by decide) ?_
                refine lv_aload_n S.1 S.2.1 dX11_told_132 rfl (lv_at hl 0 rfl) ?_
                refine ug_r S hK Z (j := 0) 1 (by decide) rfl rfl rfl (by decide) iX11_told_X11 qX11_told_10 dX11_told_133 ?_
                refine ug_r S hK Z (j := 6) 8 (by decide) rfl rfl rfl (by decide) iX11_told_X10 qX11_told_238 dX11_told_136 ?_
                refine ug_i S hK Z (j := 2) (by decide) rfl rfl rfl (by decide) iX11_told_X8 qX11_told_242 dX11_told_139 ?_
                refine utop (y := (nI (w 7 2))) (hr 7 (by decide) 2) ?_
                refine uret_i S hK Z hre hlk dX11_told_142 ?_
                rw [spTold, if_neg (Int32.not_le.mpr h100), if_neg (show ¬ inr x 20 27 by assumption), if_neg (show ¬ inr x 10 17 by assumption), if_neg (show ¬ x = 0 by assumption), if_neg (show ¬ x = 1 by assumption), if_neg (show ¬ x = 2 by assumption), if_pos (by assumption)]
                exact ⟨rfl, rfl⟩
              · skip
                have tk_10 := lv_neT k_10 (show (0 : Int32).toInt = 0 from by decide)
                have tk_11 := lv_neT k_11 (show (1 : Int32).toInt = 1 from by decide)
                have tk_12 := lv_neT k_12 (show (2 : Int32).toInt = 2 from by decide)
                have tk_13 := lv_neT k_13 (show (3 : Int32).toInt = 3 from by decide)
                refine lv_tableOut (tgt := 143) S.1 S.2.1 dX11_told_78 (by omega) (by decide) ?_
                refine lv_bipush (v := (-2)) S.1 S.2.1 dX11_told_143 (by decide) ?_
                refine uret_i S hK Z hre hlk dX11_told_145 ?_
                rw [spTold, if_neg (Int32.not_le.mpr h100), if_neg (show ¬ inr x 20 27 by assumption), if_neg (show ¬ inr x 10 17 by assumption), if_neg (show ¬ x = 0 by assumption), if_neg (show ¬ x = 1 by assumption), if_neg (show ¬ x = 2 by assumption), if_neg (show ¬ x = 3 by assumption)]
                exact ⟨rfl, rfl⟩
  · skip
    have h100 := c_1
    obtain ⟨v, hv, rfl⟩ := nI_of (Int32.not_lt.mpr (Int32.le_trans (by decide) (Int32.not_lt.mp h100)))
    have hv1 : 100 ≤ v := by
      have := (nI_leI (a := 100) (b := v) (by decide) hv).mp (Int32.not_lt.mp h100)
      exact this
    refine lv_aload_n S.1 S.2.1 dX11_told_6 rfl (lv_at hl 0 rfl) ?_
    refine lv_iload_n S.1 S.2.1 dX11_told_7 rfl (lv_at hl 1 rfl) ?_
    refine lv_bipush (v := 100) S.1 S.2.1 dX11_told_8 (by decide) ?_
    refine lv_isub S.1 S.2.1 dX11_told_10 ?_
    refine utop (pk_sub (a := v) (b := 100) (by omega)) ?_
    refine lv_bipush (v := 10) S.1 S.2.1 dX11_told_11 (by decide) ?_
    refine lv_idiv S.1 S.2.1 dX11_told_13 (by decide) ?_
    refine utop (pk_div (a := (v - 100)) (d := 10) (by omega) (by omega) (by omega)) ?_
    refine lv_iload_n S.1 S.2.1 dX11_told_14 rfl (lv_at hl 1 rfl) ?_
    refine lv_bipush (v := 100) S.1 S.2.1 dX11_told_15 (by decide) ?_
    refine lv_isub S.1 S.2.1 dX11_told_17 ?_
    refine utop (pk_sub (a := v) (b := 100) (by omega)) ?_
    refine lv_bipush (v := 10) S.1 S.2.1 dX11_told_18 (by decide) ?_
    refine lv_irem S.1 S.2.1 dX11_told_20 (by decide) ?_
    refine utop (pk_rem (a := (v - 100)) (d := 10) (by omega) (by omega) (by omega)) ?_
    refine ud_Vi (As := [.int (nI ((v - 100) / 10)), .int (nI ((v - 100) % 10))]) (rest := []) S hK hA Z (c_X11_toldOfThing l G ((v - 100) / 10) ((v - 100) % 10) (by omega) (by omega) M w n hr hn) (cwV 2 S.2.2.2.2 gX11_told_X11_toldOfThing rfl rfl rfl (by decide +kernel) ⟨Nat.le_of_ble_eq_true rfl, Nat.le_of_ble_eq_true rfl⟩) (by decide) rfl rfl rfl hl.1 rfl (Nat.le_of_ble_eq_true rfl) dX11_told_21 ⟨Nat.zero_le _, Nat.zero_le _⟩ (fun H locs Z => ?_)
    refine uret_i S hK Z hre hlk dX11_told_24 ?_
    have h101 : (100 : Int32) ≤ nI v := Int32.not_lt.mp h100
    refine ⟨?_, rfl⟩
    rw [spTold, if_pos h101, nI_clamp hv]
    by_cases q : v < 220
    · rw [if_pos q, if_pos (by omega)]
    · rw [if_neg q, if_neg (by omega)]
