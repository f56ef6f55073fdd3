theorem tRun_ok {s : Nat → Nat} {n : Nat} (hF : cFa s n = none) (hR : cRun s n = 0) {x : tS} (hx : wOk x.1) : ∀ e, pPos s e ≤ n → cRun s (pPos s e) = 0 ∧ wOk (tRun s x e).1 := by
  intro e
  induction e with
  | zero => exact fun _ => ⟨rfl, hx⟩
  | succ e ih =>
    intro he
    have h1 := pLen_pos (pKind s (pPos s e))
    rw [pPos] at he
    obtain ⟨h2, h3⟩ := ih (by omega)
    obtain ⟨h4, h5, h6⟩ := pVal_of hF hR (show pPos s e < n by omega) h2
    refine ⟨by rw [pPos]; exact h6, ?_⟩
    rw [tRun]
    split
    · unfold tAct
      rw [tStep_w]
      exact ac_ok h3 (pVal_in h4)
    · exact h3
def t0 (w : Nat → Nat → Nat) : tS := (w, 0, -6, -6, 0, -6, -6, 0)
/-- the acts of the pad, tried on a world: what they come to, and how it ended -/
def rnOf (s : Nat → Nat) (n : Nat) (w : Nat → Nat → Nat) (q : Int32) (x : tS) : Prop := cFault s n = -6 ∧ ∃ m, pPos s m = n ∧ x = tRun s (t0 w) m ∧ ((x.2.2.1 = -6 ∧ q = 0) ∨ (¬ x.2.2.1 = -6 ∧ q = -3))
theorem rnOf_ok {s : Nat → Nat} {n : Nat} {w : Nat → Nat → Nat} {q : Int32} {x : tS} (ho : pdOk s n) (hw : wOk w) (h : rnOf s n w q x) : wOk x.1 := by
  obtain ⟨hF, m, hm, rfl, -⟩ := h
  obtain ⟨h1, h2⟩ := cFault_no ho.1 hF
  exact (tRun_ok h1 h2 (x := t0 w) hw m (by omega)).2
def zOut (w : Nat → Nat → Nat) : Prop := ∀ j i, ¬ wIn j i → w j i = 0
theorem wOk_z {w : Nat → Nat → Nat} (h : wOk w) : zOut w := h.2.2.2.2.2.2
def wAt (M : uM) (b : Nat) : Prop := ∃ v, uRd M b v ∧ zOut v
theorem nI_ex (x : Int32) : ∃ a : Nat, x = nI a := by
  obtain ⟨f, hf⟩ := uAr_ex ((fun _ _ => x, fun _ _ => 0) : uM) 0
  refine ⟨f 0, ?_⟩
  have h := uAr_g ((fun _ _ => x, fun _ _ => 0) : uM) 0 f 0
  rw [hf] at h
  exact h
theorem trOk_ex {M : uM} (h : wAt M 24) : ∃ (a : Nat) (fl wy : Int32) (sl : Nat) (fs ft : Int32) (cm : Nat) (wo : Nat → Nat → Nat), uPW (uTn M a fl wy sl fs ft cm) 24 wo = M ∧ zOut wo := by
  obtain ⟨wo, h1, h2⟩ := h
  obtain ⟨a, ha⟩ := nI_ex (M.1 23 1)
  obtain ⟨b, hb⟩ := nI_ex (M.1 23 4)
  obtain ⟨c, hc⟩ := nI_ex (M.1 23 7)
  have e : uTn M a (M.1 23 2) (M.1 23 3) b (M.1 23 5) (M.1 23 6) c = M := uM_ext (fun x i => by
    unfold uTn
    dsimp only
    by_cases hx : x = 23
    · subst hx
      rw [if_pos rfl]
      by_cases h1 : i = 1
      · subst h1; rw [if_pos rfl, ha]
      rw [if_neg h1]
      by_cases h2 : i = 2
      · subst h2; rw [if_pos rfl]
      rw [if_neg h2]
      by_cases h3 : i = 3
      · subst h3; rw [if_pos rfl]
      rw [if_neg h3]
      by_cases h4 : i = 4
      · subst h4; rw [if_pos rfl, hb]
      rw [if_neg h4]
      by_cases h5 : i = 5
      · subst h5; rw [if_pos rfl]
      rw [if_neg h5]
      by_cases h6 : i = 6
      · subst h6; rw [if_pos rfl]
      rw [if_neg h6]
      by_cases h7 : i = 7
      · subst h7; rw [if_pos rfl, hc]
      rw [if_neg h7]
    · rw [if_neg hx]) rfl
  exact ⟨a, M.1 23 2, M.1 23 3, b, M.1 23 5, M.1 23 6, c, wo, by rw [e]; exact uPW_id h1, h2⟩
theorem uSm_tM (M : uM) (x : tS) : uSm 23 34 M (tM M x) := fun a ha => by
  funext i
  unfold tM
  rw [uPW_o _ _ _ _ (by omega), uTn_o _ _ _ _ _ _ _ _ _ (by omega)]
theorem wAt_tM {M : uM} {x : tS} (h : wOk x.1) : wAt (tM M x) 24 := ⟨x.1, uPW_rd _ _ _, wOk_z h⟩
theorem uRd_tM {M : uM} {w : Nat → Nat → Nat} (h : uRd M 1 w) (x : tS) : uRd (tM M x) 1 w := fun j hj i => by
  rw [uSm_tM M x _ (by omega)]
  exact h j hj i
theorem pdAt_tM {M : uM} {s : Nat → Nat} {n : Nat} (h : pdAt M s n) (x : tS) : pdAt (tM M x) s n := ⟨fun i => by rw [uSm_tM M x _ (by omega)]; exact h.1 i, by rw [uSm_tM M x _ (by omega)]; exact h.2⟩
def SpRn (s : Nat → Nat) (n : Nat) (w : Nat → Nat → Nat) (g : Int32 → tS → Int32) (r : Int32) : Prop := (¬ cFault s n = -6 ∧ r = -5) ∨ ∃ q x, rnOf s n w q x ∧ r = g q x
def SpJudge (s : Nat → Nat) (n : Nat) (w : Nat → Nat → Nat) (h r : Int32) : Prop := (¬ inr h 0 2 ∧ r = -2) ∨ (inr h 0 2 ∧ SpRn s n w (fun q x => if h = 0 then x.2.2.1 else if h = 1 then x.2.2.2.1 else if q = -3 then -3 else nI x.2.2.2.2.1) r)
def SpBehind (s : Nat → Nat) (n : Nat) (w : Nat → Nat → Nat) (t h r : Int32) : Prop := (¬ inr t 0 11 ∧ r = -1) ∨ (inr t 0 11 ∧ ¬ inr h 0 2 ∧ r = -2) ∨
  (inr t 0 11 ∧ inr h 0 2 ∧ SpRn s n w (fun q x => if q = -3 then -3 else if h = 0 then nI (x.1 1 t.toNatClampNeg) else if h = 1 then nI (x.1 2 t.toNatClampNeg) else nI (wPrice x.1 t.toNatClampNeg)) r)
def SpPurse (s : Nat → Nat) (n : Nat) (w : Nat → Nat → Nat) (k h r : Int32) : Prop := (¬ inr k 0 7 ∧ r = -1) ∨ (inr k 0 7 ∧ ¬ inr h 0 2 ∧ r = -2) ∨
  (inr k 0 7 ∧ inr h 0 2 ∧ SpRn s n w (fun q x => if q = -3 then -3 else if h = 0 then nI (x.1 5 k.toNatClampNeg) else if h = 1 then nI (wMany x.1 k.toNatClampNeg 12) else nI (x.1 0 7 / 2 ^ k.toNatClampNeg % 2)) r)
def SpSold (s : Nat → Nat) (n : Nat) (w : Nat → Nat → Nat) (h r : Int32) : Prop := (¬ inr h 0 2 ∧ r = -2) ∨ (inr h 0 2 ∧ SpRn s n w (fun q x => if q = -3 then -3 else if h = 0 then x.2.2.2.2.2.1 else if h = 1 then x.2.2.2.2.2.2.1 else nI x.2.2.2.2.2.2.2) r)
def yk (d : Nat) : Nat := if d < 3 then 0 else if d = 3 then 1 else if d = 4 then 2 else if d = 5 then 3 else 4
def yrS (x : Nat × (Nat → Nat → Nat)) : Nat × (Nat → Nat → Nat) := ((75 * x.1 + 74) % 65537, (ac x.2 (yk ((75 * x.1 + 74) % 65537 / 8 % 8)) ((75 * x.1 + 74) % 65537 % 8) ((75 * x.1 + 74) % 65537 / 64 % 12) ((75 * x.1 + 74) % 65537 / 64 / 12 % 8)).2)
def yr : Nat → Nat × (Nat → Nat → Nat) → Nat × (Nat → Nat → Nat)
  | 0, x => x
  | n + 1, x => yrS (yr n x)
theorem yk_le (d : Nat) : yk d ≤ 4 := by
  unfold yk
  repeat' split
  all_goals omega
theorem ac_ok8 {w : Nat → Nat → Nat} {kd k t q : Nat} (hw : wOk w) (hk : k < 8) (ht : t < 12) (hq : q < 8) : wOk (ac w kd k t q).2 := ac_ok hw ⟨fun _ => ⟨hk, ht⟩, fun _ => ⟨hk, ht, hq⟩, fun _ => hk⟩
theorem yr_ok {w : Nat → Nat → Nat} (hw : wOk w) {h : Nat} : ∀ n, wOk (yr n (h, w)).2 := by
  intro n
  induction n with
  | zero => exact hw
  | succ n ih => exact ac_ok8 ih (Nat.mod_lt _ (by decide)) (Nat.mod_lt _ (by decide)) (Nat.mod_lt _ (by decide))
def spYear (w : Nat → Nat → Nat) (h n x : Int32) : Int32 := if ¬ inr h 0 9999 ∨ ¬ inr n 1 99 ∨ ¬ inr x 0 2 then -2
  else if x = 0 then nI (wFit (yr n.toNatClampNeg (h.toNatClampNeg, w)).2 12) else if x = 1 then nI ((yr n.toNatClampNeg (h.toNatClampNeg, w)).2 5 0) else nI (wMany (yr n.toNatClampNeg (h.toNatClampNeg, w)).2 0 12)
theorem qX7_firstWinning_18 : Cond.fieldLink RX7 18 (TX7 2).1 (TX7 2).2.1 (TX7 2).2.2.1 ∈ wsX7_firstWinning := List.mem_of_getElem? (i := 1) rfl
theorem iX7_firstWinning_X7 : ∀ w ∈ wsX70, w ∈ wsX7_firstWinning := fun _ h => List.mem_cons_of_mem _ (List.mem_append_right _ h)
theorem qX7_firstWinning_15 : Cond.fieldLink RX7 15 (TX7 1).1 (TX7 1).2.1 (TX7 1).2.2.1 ∈ wsX7_firstWinning := List.mem_of_getElem? (i := 2) rfl
theorem qX11_shelf_64 : Cond.fieldLink RX11 64 (TX11 8).1 (TX11 8).2.1 (TX11 8).2.2.1 ∈ wsX11_shelf := List.mem_of_getElem? (i := 1) rfl
theorem iX11_shelf_X11 : ∀ w ∈ wsX110, w ∈ wsX11_shelf := fun _ h => List.mem_cons_of_mem _ (List.mem_append_left _ (List.mem_append_right _ h))
theorem qX11_judge_29 : Cond.fieldLink RX11 29 (TX11 3).1 (TX11 3).2.1 (TX11 3).2.2.1 ∈ wsX11_judge := List.mem_of_getElem? (i := 1) rfl
theorem iX11_judge_X11 : ∀ w ∈ wsX110, w ∈ wsX11_judge := fun _ h => List.mem_cons_of_mem _ (List.mem_append_left _ (List.mem_append_left _ (List.mem_append_left _ (List.mem_append_left _ (List.mem_append_right _ h)))))
theorem qX11_judge_10 : Cond.fieldLink RX11 10 (TX11 0).1 (TX11 0).2.1 (TX11 0).2.2.1 ∈ wsX11_judge := List.mem_of_getElem? (i := 2) rfl
theorem qX11_judge_22 : Cond.fieldLink RX11 22 (TX11 2).1 (TX11 2).2.1 (TX11 2).2.2.1 ∈ wsX11_judge := List.mem_of_getElem? (i := 3) rfl
theorem qX11_judge_153 : Cond.fieldLink RX11 153 (TX9 4).1 (TX9 4).2.1 (TX9 4).2.2.1 ∈ wsX11_judge := List.mem_of_getElem? (i := 6) rfl
theorem iX11_judge_X9 : ∀ w ∈ wsX90, w ∈ wsX11_judge := fun _ h => List.mem_cons_of_mem _ (List.mem_append_left _ (List.mem_append_left _ (List.mem_append_left _ (List.mem_append_right _ h))))
theorem qX11_judge_150 : Cond.fieldLink RX11 150 (TX9 3).1 (TX9 3).2.1 (TX9 3).2.2.1 ∈ wsX11_judge := List.mem_of_getElem? (i := 5) rfl
theorem qX11_judge_147 : Cond.fieldLink RX11 147 (TX9 2).1 (TX9 2).2.1 (TX9 2).2.2.1 ∈ wsX11_judge := List.mem_of_getElem? (i := 4) rfl
theorem qX11_behind_29 : Cond.fieldLink RX11 29 (TX11 3).1 (TX11 3).2.1 (TX11 3).2.2.1 ∈ wsX11_behind := List.mem_of_getElem? (i := 1) rfl
theorem iX11_behind_X11 : ∀ w ∈ wsX110, w ∈ wsX11_behind := fun _ h => List.mem_cons_of_mem _ (List.mem_append_left _ (List.mem_append_left _ (List.mem_append_left _ (List.mem_append_left _ (List.mem_append_right _ h)))))
theorem qX11_behind_10 : Cond.fieldLink RX11 10 (TX11 0).1 (TX11 0).2.1 (TX11 0).2.2.1 ∈ wsX11_behind := List.mem_of_getElem? (i := 2) rfl
theorem qX11_behind_22 : Cond.fieldLink RX11 22 (TX11 2).1 (TX11 2).2.1 (TX11 2).2.2.1 ∈ wsX11_behind := List.mem_of_getElem? (i := 3) rfl
theorem qX11_behind_156 : Cond.fieldLink RX11 156 (TX9 0).1 (TX9 0).2.1 (TX9 0).2.2.1 ∈ wsX11_behind := List.mem_of_getElem? (i := 4) rfl
theorem iX11_behind_X9 : ∀ w ∈ wsX90, w ∈ wsX11_behind := fun _ h => List.mem_cons_of_mem _ (List.mem_append_left _ (List.mem_append_left _ (List.mem_append_left _ (List.mem_append_right _ h))))
theorem qX11_behind_110 : Cond.fieldLink RX11 110 (TX10 1).1 (TX10 1).2.1 (TX10 1).2.2.1 ∈ wsX11_behind := List.mem_of_getElem? (i := 6) rfl
theorem iX11_behind_X10 : ∀ w ∈ wsX100, w ∈ wsX11_behind := fun _ h => List.mem_cons_of_mem _ (List.mem_append_left _ (List.mem_append_left _ (List.mem_append_right _ h)))
theorem qX11_behind_98 : Cond.fieldLink RX11 98 (TX10 0).1 (TX10 0).2.1 (TX10 0).2.2.1 ∈ wsX11_behind := List.mem_of_getElem? (i := 5) rfl
theorem qX11_purse_29 : Cond.fieldLink RX11 29 (TX11 3).1 (TX11 3).2.1 (TX11 3).2.2.1 ∈ wsX11_purse := List.mem_of_getElem? (i := 1) rfl
theorem iX11_purse_X11 : ∀ w ∈ wsX110, w ∈ wsX11_purse := fun _ h => List.mem_cons_of_mem _ (List.mem_append_left _ (List.mem_append_left _ (List.mem_append_left _ (List.mem_append_left _ (List.mem_append_right _ h)))))
theorem qX11_purse_10 : Cond.fieldLink RX11 10 (TX11 0).1 (TX11 0).2.1 (TX11 0).2.2.1 ∈ wsX11_purse := List.mem_of_getElem? (i := 2) rfl
theorem qX11_purse_22 : Cond.fieldLink RX11 22 (TX11 2).1 (TX11 2).2.1 (TX11 2).2.2.1 ∈ wsX11_purse := List.mem_of_getElem? (i := 3) rfl
theorem qX11_purse_156 : Cond.fieldLink RX11 156 (TX9 0).1 (TX9 0).2.1 (TX9 0).2.2.1 ∈ wsX11_purse := List.mem_of_getElem? (i := 4) rfl
theorem iX11_purse_X9 : ∀ w ∈ wsX90, w ∈ wsX11_purse := fun _ h => List.mem_cons_of_mem _ (List.mem_append_left _ (List.mem_append_left _ (List.mem_append_left _ (List.mem_append_right _ h))))
theorem qX11_purse_119 : Cond.fieldLink RX11 119 (TX10 4).1 (TX10 4).2.1 (TX10 4).2.2.1 ∈ wsX11_purse := List.mem_of_getElem? (i := 5) rfl
theorem iX11_purse_X10 : ∀ w ∈ wsX100, w ∈ wsX11_purse := fun _ h => List.mem_cons_of_mem _ (List.mem_append_left _ (List.mem_append_left _ (List.mem_append_right _ h)))
theorem qX11_sold_29 : Cond.fieldLink RX11 29 (TX11 3).1 (TX11 3).2.1 (TX11 3).2.2.1 ∈ wsX11_sold := List.mem_of_getElem? (i := 1) rfl
theorem iX11_sold_X11 : ∀ w ∈ wsX110, w ∈ wsX11_sold := fun _ h => List.mem_cons_of_mem _ (List.mem_append_left _ (List.mem_append_left _ (List.mem_append_left _ (List.mem_append_left _ (List.mem_append_right _ h)))))
theorem qX11_sold_10 : Cond.fieldLink RX11 10 (TX11 0).1 (TX11 0).2.1 (TX11 0).2.2.1 ∈ wsX11_sold := List.mem_of_getElem? (i := 2) rfl
theorem qX11_sold_22 : Cond.fieldLink RX11 22 (TX11 2).1 (TX11 2).2.1 (TX11 2).2.2.1 ∈ wsX11_sold := List.mem_of_getElem? (i := 3) rfl
theorem qX11_sold_178 : Cond.fieldLink RX11 178 (TX9 7).1 (TX9 7).2.1 (TX9 7).2.2.1 ∈ wsX11_sold := List.mem_of_getElem? (i := 6) rfl
theorem iX11_sold_X9 : ∀ w ∈ wsX90, w ∈ wsX11_sold := fun _ h => List.mem_cons_of_mem _ (List.mem_append_left _ (List.mem_append_left _ (List.mem_append_left _ (List.mem_append_right _ h))))
theorem qX11_sold_175 : Cond.fieldLink RX11 175 (TX9 6).1 (TX9 6).2.1 (TX9 6).2.2.1 ∈ wsX11_sold := List.mem_of_getElem? (i := 5) rfl
theorem qX11_sold_172 : Cond.fieldLink RX11 172 (TX9 5).1 (TX9 5).2.1 (TX9 5).2.2.1 ∈ wsX11_sold := List.mem_of_getElem? (i := 4) rfl
theorem qX11_done_29 : Cond.fieldLink RX11 29 (TX11 3).1 (TX11 3).2.1 (TX11 3).2.2.1 ∈ wsX11_done := List.mem_of_getElem? (i := 1) rfl
theorem iX11_done_X11 : ∀ w ∈ wsX110, w ∈ wsX11_done := fun _ h => List.mem_cons_of_mem _ (List.mem_append_left _ (List.mem_append_left _ (List.mem_append_left _ (List.mem_append_left _ (List.mem_append_right _ h)))))
theorem qX11_done_10 : Cond.fieldLink RX11 10 (TX11 0).1 (TX11 0).2.1 (TX11 0).2.2.1 ∈ wsX11_done := List.mem_of_getElem? (i := 2) rfl
theorem qX11_done_22 : Cond.fieldLink RX11 22 (TX11 2).1 (TX11 2).2.1 (TX11 2).2.2.1 ∈ wsX11_done := List.mem_of_getElem? (i := 3) rfl
theorem qX11_done_156 : Cond.fieldLink RX11 156 (TX9 0).1 (TX9 0).2.1 (TX9 0).2.2.1 ∈ wsX11_done := List.mem_of_getElem? (i := 4) rfl
theorem iX11_done_X9 : ∀ w ∈ wsX90, w ∈ wsX11_done := fun _ h => List.mem_cons_of_mem _ (List.mem_append_left _ (List.mem_append_left _ (List.mem_append_left _ (List.mem_append_right _ h))))
theorem qX11_done_133 : Cond.fieldLink RX11 133 (TX3 1).1 (TX3 1).2.1 (TX3 1).2.2.1 ∈ wsX11_done := List.mem_of_getElem? (i := 5) rfl
theorem iX11_done_X3 : ∀ w ∈ wsX30, w ∈ wsX11_done := fun _ h => List.mem_cons_of_mem _ (List.mem_append_left _ (List.mem_append_left _ (List.mem_append_right _ h)))
theorem qX11_done_185 : Cond.fieldLink RX11 185 (TX9 1).1 (TX9 1).2.1 (TX9 1).2.2.1 ∈ wsX11_done := List.mem_of_getElem? (i := 6) rfl
theorem qX11_liveThrough_301 : Cond.constant RX11 301 65537 ∈ wsX11_liveThrough := List.mem_of_getElem? (i := 1) rfl
theorem qX11_year_16 : Cond.fieldLink RX11 16 (TX11 1).1 (TX11 1).2.1 (TX11 1).2.2.1 ∈ wsX11_year := List.mem_of_getElem? (i := 1) rfl
theorem iX11_year_X11 : ∀ w ∈ wsX110, w ∈ wsX11_year := fun _ h => List.mem_cons_of_mem _ (List.mem_append_left _ (List.mem_append_left _ (List.mem_append_right _ h)))
theorem qX11_year_10 : Cond.fieldLink RX11 10 (TX11 0).1 (TX11 0).2.1 (TX11 0).2.2.1 ∈ wsX11_year := List.mem_of_getElem? (i := 2) rfl
theorem qX11_year_119 : Cond.fieldLink RX11 119 (TX10 4).1 (TX10 4).2.1 (TX10 4).2.2.1 ∈ wsX11_year := List.mem_of_getElem? (i := 3) rfl
theorem iX11_year_X10 : ∀ w ∈ wsX100, w ∈ wsX11_year := fun _ h => List.mem_cons_of_mem _ (List.mem_append_left _ (List.mem_append_right _ h))
theorem qX11_imageOf_75 : Cond.fieldLink RX11 75 (TX11 10).1 (TX11 10).2.1 (TX11 10).2.2.1 ∈ wsX11_imageOf := List.mem_of_getElem? (i := 1) rfl
theorem iX11_imageOf_X11 : ∀ w ∈ wsX110, w ∈ wsX11_imageOf := fun _ h => List.mem_cons_of_mem _ (List.mem_append_right _ h)
theorem qX11_image_10 : Cond.fieldLink RX11 10 (TX11 0).1 (TX11 0).2.1 (TX11 0).2.2.1 ∈ wsX11_image := List.mem_of_getElem? (i := 1) rfl
theorem iX11_image_X11 : ∀ w ∈ wsX110, w ∈ wsX11_image := fun _ h => List.mem_cons_of_mem _ (List.mem_append_left _ (List.mem_append_left _ (List.mem_append_right _ h)))
theorem qX11_image_81 : Cond.fieldLink RX11 81 (TX11 12).1 (TX11 12).2.1 (TX11 12).2.2.1 ∈ wsX11_image := List.mem_of_getElem? (i := 2) rfl
theorem qX11_restore_81 : Cond.fieldLink RX11 81 (TX11 12).1 (TX11 12).2.1 (TX11 12).2.2.1 ∈ wsX11_restore := List.mem_of_getElem? (i := 1) rfl
theorem iX11_restore_X11 : ∀ w ∈ wsX110, w ∈ wsX11_restore := fun _ h => List.mem_cons_of_mem _ (List.mem_append_left _ (List.mem_append_left _ (List.mem_append_right _ h)))
theorem qX11_restore_10 : Cond.fieldLink RX11 10 (TX11 0).1 (TX11 0).2.1 (TX11 0).2.2.1 ∈ wsX11_restore := List.mem_of_getElem? (i := 2) rfl
theorem qX11_imageOf_78 : Cond.fieldLink RX11 78 (TX11 11).1 (TX11 11).2.1 (TX11 11).2.2.1 ∈ wsX11_imageOf := List.mem_of_getElem? (i := 2) rfl
set_option maxHeartbeats 4000000 in
set_option maxRecDepth 100000 in
theorem c_X7_firstWinningN (l : Launch) (G : uG) (h w : Nat) (hh : h ≤ 5) (hw : w ≤ 5) (M : uM) (L0 ln0 : Nat → Nat) (hkn : M.1 46 2 = 0) (hz1 : ∀ i, 243 ≤ i → L0 i = 0) (hz2 : ∀ i, 5 ≤ i → ln0 i = 0) : CTi l G yX7_firstWinning wsX7_firstWinning 4 90 [.ref (G.2.2 46), .int (nI h), .int (nI w)] (uAr (uAr M 47 L0) 48 ln0) (fun r M2 => r = nI (lw (lrn 251).1 (fun i => if i < h then w else 0)) ∧ M2 = uAr (uAr (u1 M 46 2 1) 47 (lrn 251).1) 48 (fun i => if i < h then w else 0)) := by
  refine ustart_i (cc := cX7_firstWinning) (maxL := 4) (ret := (some .int)) (own := RX7) rfl (by decide) rfl (Nat.le_of_ble_eq_true rfl) ?_
  intro xp xe xs xm xa xb xt xc xA ls S hK hA Z hre hlk hl
  have hl : lv_has ls 4 [(0, .ref (G.2.2 46)), (1, .int (nI h)), (2, .int (nI w))] := hl
  refine lv_aload_n S.1 S.2.1 dX7_firstWinning_0 rfl (lv_at hl 0 rfl) ?_
  refine ug_i S hK Z (j := 2) (by decide) rfl rfl rfl (by decide) iX7_firstWinning_X7 qX7_firstWinning_18 dX7_firstWinning_1 ?_
  refine utop (y := 0) ((uAr_o (uAr M 47 L0) 48 ln0 2 (a := 46) (by decide)).trans ((uAr_o M 47 L0 2 (a := 46) (by decide)).trans hkn)) ?_
  refine lv_if_ne (tgt := 16) S.1 S.2.1 dX7_firstWinning_4 (by decide) (fun c => absurd c (by decide)) (fun _ => ?_)
  refine lv_aload_n S.1 S.2.1 dX7_firstWinning_7 rfl (lv_at hl 0 rfl) ?_
  refine ud_Vv (As := []) (rest := []) S hK hA Z (c_X7_learn l G M L0 ln0 hz1 hz2) (cwV 0 S.2.2.2.2 gX7_firstWinning_X7_learn rfl rfl rfl (by decide +kernel) ⟨Nat.le_of_ble_eq_true rfl, Nat.le_of_ble_eq_true rfl⟩) (by decide) rfl rfl rfl hl.1 rfl (Nat.le_of_ble_eq_true rfl) dX7_firstWinning_8 ⟨Nat.zero_le _, Nat.zero_le _⟩ (fun H locs Z => ?_)
  refine lv_aload_n S.1 S.2.1 dX7_firstWinning_11 rfl (lv_at hl 0 rfl) ?_
  refine lv_iconst (v := 1) S.1 S.2.1 dX7_firstWinning_12 (by decide) ?_
  refine up_i S hK Z (j := 2) (by decide) rfl rfl rfl (by decide) iX7_firstWinning_X7 tyX7_ok nmX7 qX7_firstWinning_18 rfl rfl rfl dX7_firstWinning_13 (fun H locs Z => ?_)
  have Z := uZ_eq ((uAr_c _ _ _ _ _ (by decide)).trans (congrArg (fun X => uAr X 48 (lrn 251).2) (uAr_c _ _ _ _ _ (by decide))) : u1 (uAr (uAr M 47 (lrn 251).1) 48 (lrn 251).2) 46 2 1 = (uAr (uAr (u1 M 46 2 1) 47 ((lrn 251).1)) 48 ((lrn 251).2))) Z
  have hz9 : ∀ i, 5 ≤ i → (lrn 251).2 i = 0 := (lrn_z 251).2
  refine lv_iconst (v := 0) S.1 S.2.1 dX7_firstWinning_16 (by decide) ?_
  refine lv_istore_n (lv' := [(3, .int 0), (0, .ref (G.2.2 46)), (1, .int (nI h)), (2, .int (nI w))]) S.1 S.2.1 dX7_firstWinning_17 rfl hl (by decide) rfl (fun ls hl => ?_)
  have LP18 : ∀ (fU : Nat) (j : Nat) (ln1 : Nat → Nat), (5 < j + fU) → (j ≤ 5) → (∀ i, i < j → ln1 i = if i < h then w else 0) → (∀ i, 5 ≤ i → ln1 i = 0) → ∀ (H : Heap) (locs : List Loc) (ls : Array Slot), uZ G xA (uAr (uAr (u1 M 46 2 1) 47 ((lrn 251).1)) 48 ln1) xs.heap H locs → lv_has ls 4 [(3, .int (nI j)), (0, .ref (G.2.2 46)), (1, .int (nI h)), (2, .int (nI w))] → W xp l xe (uRm 4 90) xs xm xa xb xt xc H locs 0 0 (MQ xb (va_Qi (fun r M2 => r = nI (lw (lrn 251).1 (fun i => if i < h then w else 0)) ∧ M2 = uAr (uAr (u1 M 46 2 1) 47 (lrn 251).1) 48 (fun i => if i < h then w else 0)) (fun M' t => uB G M' t) xA) xa xs 0 0 xA) (F0 xm 18 ls []) := by
    intro fU
    induction fU with
    | zero =>
      intro j ln1 hfl i1 i2 i3 H locs ls Z hl
      exfalso
      omega
    | succ fU ih18 =>
      intro j ln1 hfl i1 i2 i3 H locs ls Z hl
      refine lv_iload_n S.1 S.2.1 dX7_firstWinning_18 rfl (lv_at hl 0 rfl) ?_
      refine lv_iconst (v := 5) S.1 S.2.1 dX7_firstWinning_19 (by decide) ?_
      refine lv_icmp_ge (tgt := 47) S.1 S.2.1 dX7_firstWinning_20 (by decide) (fun c_3 => ?_) (fun c_3 => ?_)
      · skip
        have c_3 : 5 ≤ j := (nI_leI (a := 5) (b := j) (by omega) (by omega)).mp c_3
        obtain rfl : j = 5 := by omega
        have i5 : ln1 = (fun i => if i < h then w else 0) := funext fun i => by
          rcases Nat.lt_or_ge i 5 with q | q
          · exact i2 i q
          · rw [i3 i q, if_neg (by omega)]
        have i4 : ∀ i, i < 5 → ln1 i ≤ 5 := fun i hi => by
          rw [i2 i hi]
          split <;> omega
        refine lv_aload_n S.1 S.2.1 dX7_firstWinning_47 rfl (lv_at hl 1 rfl) ?_
        refine ud_Vi (As := []) (rest := []) S hK hA Z (c_X7_leastWinning l G (uAr (uAr (u1 M 46 2 1) 47 ((lrn 251).1)) 48 ln1) ((lrn 251).1) ln1 (fun x => (uAr_o _ _ _ _ (by decide)).trans (uAr_g _ _ _ _)) (fun x => uAr_g _ _ _ _) i4) (cwV 0 S.2.2.2.2 gX7_firstWinning_X7_leastWinning rfl rfl rfl (by decide +kernel) ⟨Nat.le_of_ble_eq_true rfl, Nat.le_of_ble_eq_true rfl⟩) (by decide) rfl rfl rfl hl.1 rfl (Nat.le_of_ble_eq_true rfl) dX7_firstWinning_48 ⟨Nat.zero_le _, Nat.zero_le _⟩ (fun H locs Z => ?_)
        refine uret_i S hK Z hre hlk dX7_firstWinning_51 ?_
        exact ⟨by rw [i5], by rw [i5]⟩
      · skip
        have c_3 : ¬ 5 ≤ j := fun z9 => c_3 ((nI_leI (a := 5) (b := j) (by omega) (by omega)).mpr z9)
        refine lv_aload_n S.1 S.2.1 dX7_firstWinning_23 rfl (lv_at hl 1 rfl) ?_
        refine ug_r S hK Z (j := 1) 48 (by decide) rfl rfl rfl (by decide) iX7_firstWinning_X7 qX7_firstWinning_15 dX7_firstWinning_24 ?_
        refine lv_iload_n S.1 S.2.1 dX7_firstWinning_27 rfl (lv_at hl 0 rfl) ?_
        refine lv_iload_n S.1 S.2.1 dX7_firstWinning_28 rfl (lv_at hl 0 rfl) ?_
        refine lv_iload_n S.1 S.2.1 dX7_firstWinning_29 rfl (lv_at hl 2 rfl) ?_
        refine lv_icmp_ge (tgt := 37) S.1 S.2.1 dX7_firstWinning_30 (by decide) (fun c_5 => ?_) (fun c_5 => ?_)
        · skip
          have c_5 : h ≤ j := (nI_leI (a := h) (b := j) (by omega) (by omega)).mp c_5
          refine lv_iconst (v := 0) S.1 S.2.1 dX7_firstWinning_37 (by decide) ?_
          refine ud_Sv (As := [.ref (G.2.2 48), .int (nI j), .int 0]) (rest := []) S hK hA Z (c_X5_put l G 48 5 j (by decide) rfl (by omega) 0 (uAr (uAr (u1 M 46 2 1) 47 ((lrn 251).1)) 48 ln1)) (va_cwS 3 S.2.2.2.2 gX7_firstWinning_X5_put rfl rfl rfl (by decide +kernel) ⟨Nat.le_of_ble_eq_true rfl, Nat.le_of_ble_eq_true rfl⟩) rfl hl.1 rfl (Nat.le_of_ble_eq_true rfl) dX7_firstWinning_38 ⟨Nat.zero_le _, Nat.zero_le _⟩ (fun H locs Z => ?_)
          have Z := uZ_eq (uAr_s (uAr (u1 M 46 2 1) 47 ((lrn 251).1)) 48 ln1 j 0) Z
          refine lv_iinc (v := (nI (j + 1))) (lv' := [(3, .int (nI (j + 1))), (0, .ref (G.2.2 46)), (1, .int (nI h)), (2, .int (nI w))]) S.1 S.2.1 dX7_firstWinning_41 hl (k := 0) rfl (u_inc1 j) (by decide) rfl (fun ls hl => ?_)
          refine lv_goto (tgt := 18) S.1 S.2.1 dX7_firstWinning_44 (by decide) ?_
          exact ih18 (j + 1) (fu ln1 j 0) (by omega) (by omega) (by
              intro i hi
              unfold fu
              split
              · subst_vars
                first | rw [if_pos (by omega)] | rw [if_neg (by omega)]
              · exact i2 i (by omega)) (by
              intro i hi
              unfold fu
              split
              · omega
              · exact i3 i hi) _ _ _ Z (lv_sub hl [0, 1, 2, 3] rfl)
        · skip
          have c_5 : ¬ h ≤ j := fun z9 => c_5 ((nI_leI (a := h) (b := j) (by omega) (by omega)).mpr z9)
          refine lv_iload_n S.1 S.2.1 dX7_firstWinning_33 rfl (lv_at hl 3 rfl) ?_
          refine lv_goto (tgt := 38) S.1 S.2.1 dX7_firstWinning_34 (by decide) ?_
          refine ud_Sv (As := [.ref (G.2.2 48), .int (nI j), .int (nI w)]) (rest := []) S hK hA Z (c_X5_put l G 48 5 j (by decide) rfl (by omega) (nI w) (uAr (uAr (u1 M 46 2 1) 47 ((lrn 251).1)) 48 ln1)) (va_cwS 3 S.2.2.2.2 gX7_firstWinning_X5_put rfl rfl rfl (by decide +kernel) ⟨Nat.le_of_ble_eq_true rfl, Nat.le_of_ble_eq_true rfl⟩) rfl hl.1 rfl (Nat.le_of_ble_eq_true rfl) dX7_firstWinning_38 ⟨Nat.zero_le _, Nat.zero_le _⟩ (fun H locs Z => ?_)
          have Z := uZ_eq (uAr_s (uAr (u1 M 46 2 1) 47 ((lrn 251).1)) 48 ln1 j w) Z
          refine lv_iinc (v := (nI (j + 1))) (lv' := [(3, .int (nI (j + 1))), (0, .ref (G.2.2 46)), (1, .int (nI h)), (2, .int (nI w))]) S.1 S.2.1 dX7_firstWinning_41 hl (k := 0) rfl (u_inc1 j) (by decide) rfl (fun ls hl => ?_)
          refine lv_goto (tgt := 18) S.1 S.2.1 dX7_firstWinning_44 (by decide) ?_
          exact ih18 (j + 1) (fu ln1 j w) (by omega) (by omega) (by
              intro i hi
              unfold fu
              split
              · subst_vars
                first | rw [if_pos (by omega)] | rw [if_neg (by omega)]
              · exact i2 i (by omega)) (by
              intro i hi
              unfold fu
              split
              · omega
              · exact i3 i hi) _ _ _ Z (lv_sub hl [0, 1, 2, 3] rfl)
  exact LP18 6 0 ((lrn 251).2) (by omega) (by omega) (by
      intro i hi
      omega) (by exact hz9) _ _ _ Z (lv_sub hl [0, 1, 2, 3] rfl)
set_option maxHeartbeats 4000000 in
set_option maxRecDepth 100000 in
theorem c_X7_firstWinningK (l : Launch) (G : uG) (h w : Nat) (hh : h ≤ 5) (hw : w ≤ 5) (M : uM) (ln0 : Nat → Nat) (hkn : M.1 46 2 = 1) (hz2 : ∀ i, 5 ≤ i → ln0 i = 0) : CTi l G yX7_firstWinning wsX7_firstWinning 4 90 [.ref (G.2.2 46), .int (nI h), .int (nI w)] (uAr (uAr M 47 ((lrn 251).1)) 48 ln0) (fun r M2 => r = nI (lw (lrn 251).1 (fun i => if i < h then w else 0)) ∧ M2 = uAr (uAr M 47 (lrn 251).1) 48 (fun i => if i < h then w else 0)) := by
  refine ustart_i (cc := cX7_firstWinning) (maxL := 4) (ret := (some .int)) (own := RX7) rfl (by decide) rfl (Nat.le_of_ble_eq_true rfl) ?_
  intro xp xe xs xm xa xb xt xc xA ls S hK hA Z hre hlk hl
  have hl : lv_has ls 4 [(0, .ref (G.2.2 46)), (1, .int (nI h)), (2, .int (nI w))] := hl
  refine lv_aload_n S.1 S.2.1 dX7_firstWinning_0 rfl (lv_at hl 0 rfl) ?_
  refine ug_i S hK Z (j := 2) (by decide) rfl rfl rfl (by decide) iX7_firstWinning_X7 qX7_firstWinning_18 dX7_firstWinning_1 ?_
  refine utop (y := 1) ((uAr_o (uAr M 47 ((lrn 251).1)) 48 ln0 2 (a := 46) (by decide)).trans ((uAr_o M 47 ((lrn 251).1) 2 (a := 46) (by decide)).trans hkn)) ?_
  refine lv_if_ne (tgt := 16) S.1 S.2.1 dX7_firstWinning_4 (by decide) (fun _ => ?_) (fun c => absurd c (by decide))
  have hz9 := hz2
  refine lv_iconst (v := 0) S.1 S.2.1 dX7_firstWinning_16 (by decide) ?_
  refine lv_istore_n (lv' := [(3, .int 0), (0, .ref (G.2.2 46)), (1, .int (nI h)), (2, .int (nI w))]) S.1 S.2.1 dX7_firstWinning_17 rfl hl (by decide) rfl (fun ls hl => ?_)
  have LP18 : ∀ (fU : Nat) (j : Nat) (ln1 : Nat → Nat), (5 < j + fU) → (j ≤ 5) → (∀ i, i < j → ln1 i = if i < h then w else 0) → (∀ i, 5 ≤ i → ln1 i = 0) → ∀ (H : Heap) (locs : List Loc) (ls : Array Slot), uZ G xA (uAr (uAr M 47 ((lrn 251).1)) 48 ln1) xs.heap H locs → lv_has ls 4 [(3, .int (nI j)), (0, .ref (G.2.2 46)), (1, .int (nI h)), (2, .int (nI w))] → W xp l xe (uRm 4 90) xs xm xa xb xt xc H locs 0 0 (MQ xb (va_Qi (fun r M2 => r = nI (lw (lrn 251).1 (fun i => if i < h then w else 0)) ∧ M2 = uAr (uAr M 47 (lrn 251).1) 48 (fun i => if i < h then w else 0)) (fun M' t => uB G M' t) xA) xa xs 0 0 xA) (F0 xm 18 ls []) := by
    intro fU
    induction fU with
    | zero =>
      intro j ln1 hfl i1 i2 i3 H locs ls Z hl
      exfalso
      omega
    | succ fU ih18 =>
      intro j ln1 hfl i1 i2 i3 H locs ls Z hl
      refine lv_iload_n S.1 S.2.1 dX7_firstWinning_18 rfl (lv_at hl 0 rfl) ?_
      refine lv_iconst (v := 5) S.1 S.2.1 dX7_firstWinning_19 (by decide) ?_
      refine lv_icmp_ge (tgt := 47) S.1 S.2.1 dX7_firstWinning_20 (by decide) (fun c_2 => ?_) (fun c_2 => ?_)
      · skip
        have c_2 : 5 ≤ j := (nI_leI (a := 5) (b := j) (by omega) (by omega)).mp c_2
        obtain rfl : j = 5 := by omega
        have i5 : ln1 = (fun i => if i < h then w else 0) := funext fun i => by
          rcases Nat.lt_or_ge i 5 with q | q
          · exact i2 i q
          · rw [i3 i q, if_neg (by omega)]
        have i4 : ∀ i, i < 5 → ln1 i ≤ 5 := fun i hi => by
          rw [i2 i hi]
          split <;> omega
        refine lv_aload_n S.1 S.2.1 dX7_firstWinning_47 rfl (lv_at hl 1 rfl) ?_
        refine ud_Vi (As := []) (rest := []) S hK hA Z (c_X7_leastWinning l G (uAr (uAr M 47 ((lrn 251).1)) 48 ln1) ((lrn 251).1) ln1 (fun x => (uAr_o _ _ _ _ (by decide)).trans (uAr_g _ _ _ _)) (fun x => uAr_g _ _ _ _) i4) (cwV 0 S.2.2.2.2 gX7_firstWinning_X7_leastWinning rfl rfl rfl (by decide +kernel) ⟨Nat.le_of_ble_eq_true rfl, Nat.le_of_ble_eq_true rfl⟩) (by decide) rfl rfl rfl hl.1 rfl (Nat.le_of_ble_eq_true rfl) dX7_firstWinning_48 ⟨Nat.zero_le _, Nat.zero_le _⟩ (fun H locs Z => ?_)
        refine uret_i S hK Z hre hlk dX7_firstWinning_51 ?_
        exact ⟨by rw [i5], by rw [i5]⟩
      · skip
        have c_2 : ¬ 5 ≤ j := fun z9 => c_2 ((nI_leI (a := 5) (b := j) (by omega) (by omega)).mpr z9)
        refine lv_aload_n S.1 S.2.1 dX7_firstWinning_23 rfl (lv_at hl 1 rfl) ?_
        refine ug_r S hK Z (j := 1) 48 (by decide) rfl rfl rfl (by decide) iX7_firstWinning_X7 qX7_firstWinning_15 dX7_firstWinning_24 ?_
        refine lv_iload_n S.1 S.2.1 dX7_firstWinning_27 rfl (lv_at hl 0 rfl) ?_
        refine lv_iload_n S.1 S.2.1 dX7_firstWinning_28 rfl (lv_at hl 0 rfl) ?_
        refine lv_iload_n S.1 S.2.1 dX7_firstWinning_29 rfl (lv_at hl 2 rfl) ?_
        refine lv_icmp_ge (tgt := 37) S.1 S.2.1 dX7_firstWinning_30 (by decide) (fun c_4 => ?_) (fun c_4 => ?_)
        · skip
          have c_4 : h ≤ j := (nI_leI (a := h) (b := j) (by omega) (by omega)).mp c_4
          refine lv_iconst (v := 0) S.1 S.2.1 dX7_firstWinning_37 (by decide) ?_
          refine ud_Sv (As := [.ref (G.2.2 48), .int (nI j), .int 0]) (rest := []) S hK hA Z (c_X5_put l G 48 5 j (by decide) rfl (by omega) 0 (uAr (uAr M 47 ((lrn 251).1)) 48 ln1)) (va_cwS 3 S.2.2.2.2 gX7_firstWinning_X5_put rfl rfl rfl (by decide +kernel) ⟨Nat.le_of_ble_eq_true rfl, Nat.le_of_ble_eq_true rfl⟩) rfl hl.1 rfl (Nat.le_of_ble_eq_true rfl) dX7_firstWinning_38 ⟨Nat.zero_le _, Nat.zero_le _⟩ (fun H locs Z => ?_)
          have Z := uZ_eq (uAr_s (uAr M 47 ((lrn 251).1)) 48 ln1 j 0) Z
          refine lv_iinc (v := (nI (j + 1))) (lv' := [(3, .int (nI (j + 1))), (0, .ref (G.2.2 46)), (1, .int (nI h)), (2, .int (nI w))]) S.1 S.2.1 dX7_firstWinning_41 hl (k := 0) rfl (u_inc1 j) (by decide) rfl (fun ls hl => ?_)
          refine lv_goto (tgt := 18) S.1 S.2.1 dX7_firstWinning_44 (by decide) ?_
          exact ih18 (j + 1) (fu ln1 j 0) (by omega) (by omega) (by
              intro i hi
              unfold fu
              split
              · subst_vars
                first | rw [if_pos (by omega)] | rw [if_neg (by omega)]
              · exact i2 i (by omega)) (by
              intro i hi
              unfold fu
              split
              · omega
              · exact i3 i hi) _ _ _ Z (lv_sub hl [0, 1, 2, 3] rfl)
        · skip
          have c_4 : ¬ h ≤ j := fun z9 => c_4 ((nI_leI (a := h) (b := j) (by omega) (by omega)).mpr z9)
          refine lv_iload_n S.1 S.2.1 dX7_firstWinning_33 rfl (lv_at hl 3 rfl) ?_
          refine lv_goto (tgt := 38) S.1 S.2.1 dX7_firstWinning_34 (by decide) ?_
          refine ud_Sv (As := [.ref (G.2.2 48), .int (nI j), .int (nI w)]) (rest := []) S hK hA Z (c_X5_put l G 48 5 j (by decide) rfl (by omega) (nI w) (uAr (uAr M 47 ((lrn 251).1)) 48 ln1)) (va_cwS 3 S.2.2.2.2 gX7_firstWinning_X5_put rfl rfl rfl (by decide +kernel) ⟨Nat.le_of_ble_eq_true rfl, Nat.le_of_ble_eq_true rfl⟩) rfl hl.1 rfl (Nat.le_of_ble_eq_true rfl) dX7_firstWinning_38 ⟨Nat.zero_le _, Nat.zero_le _⟩ (fun H locs Z => ?_)
          have Z := uZ_eq (uAr_s (uAr M 47 ((lrn 251).1)) 48 ln1 j w) Z
          refine lv_iinc (v := (nI (j + 1))) (lv' := [(3, .int (nI (j + 1))), (0, .ref (G.2.2 46)), (1, .int (nI h)), (2, .int (nI w))]) S.1 S.2.1 dX7_firstWinning_41 hl (k := 0) rfl (u_inc1 j) (by decide) rfl (fun ls hl => ?_)
          refine lv_goto (tgt := 18) S.1 S.2.1 dX7_firstWinning_44 (by decide) ?_
          exact ih18 (j + 1) (fu ln1 j w) (by omega) (by omega) (by
              intro i hi
              unfold fu
              split
              · subst_vars
                first | rw [if_pos (by omega)] | rw [if_neg (by omega)]
              · exact i2 i (by omega)) (by
              intro i hi
              unfold fu
              split
              · omega
              · exact i3 i hi) _ _ _ Z (lv_sub hl [0, 1, 2, 3] rfl)
  exact LP18 6 0 ln0 (by omega) (by omega) (by
      intro i hi
      omega) (by exact hz9) _ _ _ Z (lv_sub hl [0, 1, 2, 3] rfl)
theorem c_X7_firstWinning (l : Launch) (G : uG) (h w : Nat) (hh : h ≤ 5) (hw : w ≤ 5) (M : uM) (hs : shAt M) (hl : shLn M) : CTi l G yX7_firstWinning wsX7_firstWinning 4 90 [.ref (G.2.2 46), .int (nI h), .int (nI w)] M (fun r M2 => r = nI (lw (lrn 251).1 (fun i => if i < h then w else 0)) ∧ uSm 46 49 M M2 ∧ shAt M2 ∧ shLn M2) := by
  obtain ⟨ln0, hl0, hz2⟩ := hl
  rcases hs with ⟨hkn, L0, hL0, hz1⟩ | ⟨hkn, hL0⟩
  · have h1 := c_X7_firstWinningN l G h w hh hw M L0 ln0 hkn hz1 hz2
    rw [uAr_of hL0, uAr_of hl0] at h1
    refine CTi_mono h1 (fun r M2 hp => ?_)
    obtain ⟨rfl, rfl⟩ := hp
    refine ⟨rfl, uSm_r (uSm_r (uSm_1 (uSm_rf _ _ _) (by decide) (by decide)) (by decide) (by decide)) (by decide) (by decide), Or.inr ⟨?_, fun i => ?_⟩, _, fun i => uAr_g _ _ _ _, fun i hi => if_neg (by omega)⟩
    · rw [uAr_o _ _ _ _ (by decide), uAr_o _ _ _ _ (by decide)]
      rfl
    · rw [uAr_o _ _ _ _ (by decide), uAr_g]
  · have h1 := c_X7_firstWinningK l G h w hh hw M ln0 hkn hz2
    rw [uAr_of hL0, uAr_of hl0] at h1
    refine CTi_mono h1 (fun r M2 hp => ?_)
    obtain ⟨rfl, rfl⟩ := hp
    refine ⟨rfl, uSm_r (uSm_rf _ _ _) (by decide) (by decide), Or.inr ⟨?_, fun i => ?_⟩, _, fun i => uAr_g _ _ _ _, fun i hi => if_neg (by omega)⟩
    · rw [uAr_o _ _ _ _ (by decide)]
      exact hkn
    · rw [uAr_o _ _ _ _ (by decide)]
      exact hL0 i
set_option maxHeartbeats 4000000 in
set_option maxRecDepth 100000 in
theorem c_X11_shelf (l : Launch) (G : uG) (h w x : Int32) (M : uM) (hs : shAt M) (hsl : shLn M) : CTi l G yX11_shelf wsX11_shelf 5 113 [.ref (G.2.2 0), .int h, .int w, .int x] M (fun r M2 => r = spShelf h w x ∧ uSm 46 49 M M2 ∧ shAt M2 ∧ shLn M2) := by
  refine ustart_i (cc := cX11_shelf) (maxL := 5) (ret := (some .int)) (own := RX11) rfl (by decide) rfl (Nat.le_of_ble_eq_true rfl) ?_
  intro xp xe xs xm xa xb xt xc xA ls S hK hA Z hre hlk hl
  have hl : lv_has ls 5 [(0, .ref (G.2.2 0)), (1, .int h), (2, .int w), (3, .int x)] := hl
  refine lv_iload_n S.1 S.2.1 dX11_shelf_0 rfl (lv_at hl 1 rfl) ?_
  refine lv_iconst (v := 1) S.1 S.2.1 dX11_shelf_1 (by decide) ?_
  refine lv_iconst (v := 5) S.1 S.2.1 dX11_shelf_2 (by decide) ?_
  refine uc_Si (As := [.int h, .int 1, .int 5]) (rest := []) S hK hA Z (c_X5_within l G h 1 5 M) (va_cwS 3 S.2.2.2.2 gX11_shelf_X5_within rfl rfl rfl (by decide +kernel) ⟨Nat.le_of_ble_eq_true rfl, Nat.le_of_ble_eq_true rfl⟩) rfl hl.1 rfl (Nat.le_of_ble_eq_true rfl) dX11_shelf_3 ⟨Nat.zero_le _, Nat.zero_le _⟩ (fun r_1 M_1 H locs hp Z => ?_)
  obtain ⟨⟨rfl, w_1⟩ | ⟨rfl, w_1⟩, hM_1⟩ := hp
  · skip
    rw [hM_1] at Z
    refine lv_if_eq (tgt := 27) S.1 S.2.1 dX11_shelf_6 (by decide) (fun c => absurd c (by decide)) (fun _ => ?_)
    refine lv_iload_n S.1 S.2.1 dX11_shelf_9 rfl (lv_at hl 2 rfl) ?_
    refine lv_iconst (v := 1) S.1 S.2.1 dX11_shelf_10 (by decide) ?_
    refine lv_iconst (v := 5) S.1 S.2.1 dX11_shelf_11 (by decide) ?_
    refine uc_Si (As := [.int w, .int 1, .int 5]) (rest := []) S hK hA Z (c_X5_within l G w 1 5 M) (va_cwS 3 S.2.2.2.2 gX11_shelf_X5_within rfl rfl rfl (by decide +kernel) ⟨Nat.le_of_ble_eq_true rfl, Nat.le_of_ble_eq_true rfl⟩) rfl hl.1 rfl (Nat.le_of_ble_eq_true rfl) dX11_shelf_12 ⟨Nat.zero_le _, Nat.zero_le _⟩ (fun r_3 M_3 H locs hp Z => ?_)
    obtain ⟨⟨rfl, w_3⟩ | ⟨rfl, w_3⟩, hM_3⟩ := hp
    · skip
      rw [hM_3] at Z
      refine lv_if_eq (tgt := 27) S.1 S.2.1 dX11_shelf_15 (by decide) (fun c => absurd c (by decide)) (fun _ => ?_)
      refine lv_iload_n S.1 S.2.1 dX11_shelf_18 rfl (lv_at hl 3 rfl) ?_
      refine lv_iconst (v := 0) S.1 S.2.1 dX11_shelf_19 (by decide) ?_
      refine lv_iconst (v := 1) S.1 S.2.1 dX11_shelf_20 (by decide) ?_
      refine uc_Si (As := [.int x, .int 0, .int 1]) (rest := []) S hK hA Z (c_X5_within l G x 0 1 M) (va_cwS 3 S.2.2.2.2 gX11_shelf_X5_within rfl rfl rfl (by decide +kernel) ⟨Nat.le_of_ble_eq_true rfl, Nat.le_of_ble_eq_true rfl⟩) rfl hl.1 rfl (Nat.le_of_ble_eq_true rfl) dX11_shelf_21 ⟨Nat.zero_le _, Nat.zero_le _⟩ (fun r_5 M_5 H locs hp Z => ?_)
      obtain ⟨⟨rfl, w_5⟩ | ⟨rfl, w_5⟩, hM_5⟩ := hp
      · skip
        rw [hM_5] at Z
        refine lv_if_ne (tgt := 30) S.1 S.2.1 dX11_shelf_24 (by decide) (fun _ => ?_) (fun c => absurd c (by decide))
        obtain ⟨j, hj1, hj, rfl⟩ := u_in1 (n := 5) (show inr h 1 5 by assumption) (by decide)
        obtain ⟨q, hq1, hq, rfl⟩ := u_in1 (n := 5) (show inr w 1 5 by assumption) (by decide)
        refine lv_aload_n S.1 S.2.1 dX11_shelf_30 rfl (lv_at hl 0 rfl) ?_
        refine ug_r S hK Z (j := 8) 46 (by decide) rfl rfl rfl (by decide) iX11_shelf_X11 qX11_shelf_64 dX11_shelf_31 ?_
        refine lv_iload_n S.1 S.2.1 dX11_shelf_34 rfl (lv_at hl 1 rfl) ?_
        refine lv_iload_n S.1 S.2.1 dX11_shelf_35 rfl (lv_at hl 2 rfl) ?_
        refine uc_Vi (As := [.int (nI j), .int (nI q)]) (rest := []) S hK hA Z (c_X7_firstWinning l G j q (by omega) (by omega) M hs hsl) (cwV 2 S.2.2.2.2 gX11_shelf_X7_firstWinning rfl rfl rfl (by decide +kernel) ⟨Nat.le_of_ble_eq_true rfl, Nat.le_of_ble_eq_true rfl⟩) (by decide) rfl rfl rfl hl.1 rfl (Nat.le_of_ble_eq_true rfl) dX11_shelf_36 ⟨Nat.zero_le _, Nat.zero_le _⟩ (fun r_7 M_7 H locs hp Z => ?_)
        obtain ⟨hr_7, f1, f2, f3⟩ := hp
        refine utop hr_7 ?_
        refine lv_istore (lv' := [(4, .int (nI (lw (lrn 251).1 (fun i => if i < j then q else 0)))), (0, .ref (G.2.2 0)), (1, .int (nI j)), (2, .int (nI q)), (3, .int x)]) S.1 S.2.1 dX11_shelf_39 hl (by decide) rfl (fun ls hl => ?_)
        refine lv_iload_n S.1 S.2.1 dX11_shelf_41 rfl (lv_at hl 4 rfl) ?_
        refine lv_iconst (v := 1) S.1 S.2.1 dX11_shelf_42 (by decide) ?_
        refine lv_icmp_ne (tgt := 49) S.1 S.2.1 dX11_shelf_43 (by decide) (fun c_8 => ?_) (fun c_8 => ?_)
        · skip
          refine lv_iload S.1 S.2.1 dX11_shelf_49 (lv_at hl 0 rfl) ?_
          refine lv_bipush (v := (-6)) S.1 S.2.1 dX11_shelf_51 (by decide) ?_
          refine lv_icmp_ne (tgt := 60) S.1 S.2.1 dX11_shelf_53 (by decide) (fun c_9 => ?_) (fun c_9 => ?_)
          · skip
            refine lv_iconst (v := 1) S.1 S.2.1 dX11_shelf_60 (by decide) ?_
            refine uret_i S hK Z hre hlk dX11_shelf_61 ?_
            rw [spShelf, if_neg (u_no3 (by assumption) (by assumption) (by assumption)), nI_clamp (show j < 2 ^ 31 by omega), nI_clamp (show q < 2 ^ 31 by omega), if_neg (show ¬ x = 1 by assumption)]
            first | rw [if_pos (by assumption)] | rw [if_neg (by assumption)]
            exact ⟨rfl, f1, f2, f3⟩
          · skip
            refine lv_iconst (v := 0) S.1 S.2.1 dX11_shelf_56 (by decide) ?_
            refine lv_goto (tgt := 61) S.1 S.2.1 dX11_shelf_57 (by decide) ?_
            refine uret_i S hK Z hre hlk dX11_shelf_61 ?_
            rw [spShelf, if_neg (u_no3 (by assumption) (by assumption) (by assumption)), nI_clamp (show j < 2 ^ 31 by omega), nI_clamp (show q < 2 ^ 31 by omega), if_neg (show ¬ x = 1 by assumption)]
            first | rw [if_pos (by assumption)] | rw [if_neg (by assumption)]
            exact ⟨rfl, f1, f2, f3⟩
        · skip
          refine lv_iload S.1 S.2.1 dX11_shelf_46 (lv_at hl 0 rfl) ?_
          refine uret_i S hK Z hre hlk dX11_shelf_48 ?_
          rw [spShelf, if_neg (u_no3 (by assumption) (by assumption) (by assumption)), nI_clamp (show j < 2 ^ 31 by omega), nI_clamp (show q < 2 ^ 31 by omega), if_pos (show x = 1 by assumption)]
          exact ⟨rfl, f1, f2, f3⟩
      · skip
        rw [hM_5] at Z
        refine lv_if_ne (tgt := 30) S.1 S.2.1 dX11_shelf_24 (by decide) (fun c => absurd c (by decide)) (fun _ => ?_)
        refine lv_bipush (v := (-2)) S.1 S.2.1 dX11_shelf_27 (by decide) ?_
        refine uret_i S hK Z hre hlk dX11_shelf_29 ?_
        rw [spShelf, if_pos (by first | exact Or.inl (by assumption) | exact Or.inr (Or.inl (by assumption)) | exact Or.inr (Or.inr (by assumption)))]
        exact ⟨rfl, uSm_rf _ _ _, hs, hsl⟩
    · skip
      rw [hM_3] at Z
      refine lv_if_eq (tgt := 27) S.1 S.2.1 dX11_shelf_15 (by decide) (fun _ => ?_) (fun c => absurd c (by decide))
      refine lv_bipush (v := (-2)) S.1 S.2.1 dX11_shelf_27 (by decide) ?_
      refine uret_i S hK Z hre hlk dX11_shelf_29 ?_
      rw [spShelf, if_pos (by first | exact Or.inl (by assumption) | exact Or.inr (Or.inl (by assumption)) | exact Or.inr (Or.inr (by assumption)))]
      exact ⟨rfl, uSm_rf _ _ _, hs, hsl⟩
  · skip
    rw [hM_1] at Z
    refine lv_if_eq (tgt := 27) S.1 S.2.1 dX11_shelf_6 (by decide) (fun _ => ?_) (fun c => absurd c (by decide))
    refine lv_bipush (v := (-2)) S.1 S.2.1 dX11_shelf_27 (by decide) ?_
    refine uret_i S hK Z hre hlk dX11_shelf_29 ?_
    rw [spShelf, if_pos (by first | exact Or.inl (by assumption) | exact Or.inr (Or.inl (by assumption)) | exact Or.inr (Or.inr (by assumption)))]
    exact ⟨rfl, uSm_rf _ _ _, hs, hsl⟩
set_option maxHeartbeats 4000000 in
set_option maxRecDepth 100000 in
theorem c_X11_judge (l : Launch) (G : uG) (h : Int32) (M : uM) (w : Nat → Nat → Nat) (s : Nat → Nat) (n : Nat) (hr : uRd M 1 w) (hw : wOk w) (hp : pdAt M s n) (ho : pdOk s n) (ht : wAt M 24) : CTi l G yX11_judge wsX11_judge 6 145 [.ref (G.2.2 0), .int h] M (fun r M2 => SpJudge s n w h r ∧ uSm 23 34 M M2 ∧ wAt M2 24) := by
  obtain ⟨a, fl, wy, sl, fs, ft, cm, wo, hT, hwo⟩ := trOk_ex ht
  refine ustart_i (cc := cX11_judge) (maxL := 3) (ret := (some .int)) (own := RX11) rfl (by decide) rfl (Nat.le_of_ble_eq_true rfl) ?_
  intro xp xe xs xm xa xb xt xc xA ls S hK hA Z hre hlk hl
  have hl : lv_has ls 3 [(0, .ref (G.2.2 0)), (1, .int h)] := hl
  refine lv_iload_n S.1 S.2.1 dX11_judge_0 rfl (lv_at hl 1 rfl) ?_
  refine lv_iconst (v := 0) S.1 S.2.1 dX11_judge_1 (by decide) ?_
  refine lv_iconst (v := 2) S.1 S.2.1 dX11_judge_2 (by decide) ?_
  refine uc_Si (As := [.int h, .int 0, .int 2]) (rest := []) S hK hA Z (c_X5_within l G h 0 2 M) (va_cwS 3 S.2.2.2.2 gX11_judge_X5_within rfl rfl rfl (by decide +kernel) ⟨Nat.le_of_ble_eq_true rfl, Nat.le_of_ble_eq_true rfl⟩) rfl hl.1 rfl (Nat.le_of_ble_eq_true rfl) dX11_judge_3 ⟨Nat.zero_le _, Nat.zero_le _⟩ (fun r_1 M_1 H locs hp Z => ?_)
  obtain ⟨⟨rfl, w_1⟩ | ⟨rfl, w_1⟩, hM_1⟩ := hp
  · skip
    rw [hM_1] at Z
    refine lv_if_ne (tgt := 12) S.1 S.2.1 dX11_judge_6 (by decide) (fun _ => ?_) (fun c => absurd c (by decide))
    have Z := uZ_eq hT.symm Z
    refine lv_aload_n S.1 S.2.1 dX11_judge_12 rfl (lv_at hl 0 rfl) ?_
    refine ug_r S hK Z (j := 3) 23 (by decide) rfl rfl rfl (by decide) iX11_judge_X11 qX11_judge_29 dX11_judge_13 ?_
    refine lv_aload_n S.1 S.2.1 dX11_judge_16 rfl (lv_at hl 0 rfl) ?_
    refine ug_r S hK Z (j := 0) 1 (by decide) rfl rfl rfl (by decide) iX11_judge_X11 qX11_judge_10 dX11_judge_17 ?_
    refine lv_aload_n S.1 S.2.1 dX11_judge_20 rfl (lv_at hl 0 rfl) ?_
    refine ug_r S hK Z (j := 2) 21 (by decide) rfl rfl rfl (by decide) iX11_judge_X11 qX11_judge_22 dX11_judge_21 ?_
    refine uc_Vi (As := [.ref (G.2.2 1), .ref (G.2.2 21)]) (rest := []) S hK hA Z (c_X9_run l G s n M wo a fl wy sl fs ft cm w hp ho hr hwo hw) (cwV 2 S.2.2.2.2 gX11_judge_X9_run rfl rfl rfl (by decide +kernel) ⟨Nat.le_of_ble_eq_true rfl, Nat.le_of_ble_eq_true rfl⟩) (by decide) rfl rfl rfl hl.1 rfl (Nat.le_of_ble_eq_true rfl) dX11_judge_24 ⟨Nat.zero_le _, Nat.zero_le _⟩ (fun r_3 M_3 H locs hp Z => ?_)
    obtain ⟨hF, rfl, hM⟩ | ⟨hF, m, hm, hM, ⟨hc, rfl⟩ | ⟨hc, rfl⟩⟩ := hp
    · skip
      rw [hM, hT] at Z
      refine lv_istore_n (lv' := [(2, .int (-5)), (0, .ref (G.2.2 0)), (1, .int h)]) S.1 S.2.1 dX11_judge_27 rfl hl (by decide) rfl (fun ls hl => ?_)
      refine lv_iload_n S.1 S.2.1 dX11_judge_28 rfl (lv_at hl 0 rfl) ?_
      refine lv_bipush (v := (-5)) S.1 S.2.1 dX11_judge_29 (by decide) ?_
      refine lv_icmp_ne (tgt := 37) S.1 S.2.1 dX11_judge_31 (by decide) (fun c => absurd c (by decide)) (fun _ => ?_)
      refine lv_bipush (v := (-5)) S.1 S.2.1 dX11_judge_34 (by decide) ?_
      refine uret_i S hK Z hre hlk dX11_judge_36 ?_
      exact ⟨Or.inr ⟨(by assumption), Or.inl ⟨hF, rfl⟩⟩, uSm_rf _ _ _, ht⟩
    · skip
      obtain ⟨x, hX⟩ : ∃ X, X = tRun s (t0 w) m := ⟨_, rfl⟩
      have hM0 : M_3 = tM M x := hX ▸ hM
      have hc :  x.2.2.1 = -6 := hX ▸ hc
      rw [hM0] at Z
      have hx : rnOf s n w (0) x := ⟨hF, m, hm, hX, Or.inl ⟨hc, rfl⟩⟩
      have hwx := rnOf_ok ho hw hx
      have Z := uZ_eq (show tM M x = (uPW (uTn M x.2.1 x.2.2.1 x.2.2.2.1 x.2.2.2.2.1 x.2.2.2.2.2.1 x.2.2.2.2.2.2.1 x.2.2.2.2.2.2.2) 24 x.1) from rfl) Z
      refine lv_istore_n (lv' := [(2, .int 0), (0, .ref (G.2.2 0)), (1, .int h)]) S.1 S.2.1 dX11_judge_27 rfl hl (by decide) rfl (fun ls hl => ?_)
      refine lv_iload_n S.1 S.2.1 dX11_judge_28 rfl (lv_at hl 0 rfl) ?_
      refine lv_bipush (v := (-5)) S.1 S.2.1 dX11_judge_29 (by decide) ?_
      refine lv_icmp_ne (tgt := 37) S.1 S.2.1 dX11_judge_31 (by decide) (fun _ => ?_) (fun c => absurd c (by decide))
      refine lv_iload_n S.1 S.2.1 dX11_judge_37 rfl (lv_at hl 2 rfl) ?_
      refine lv_if_ne (tgt := 49) S.1 S.2.1 dX11_judge_38 (by decide) (fun c_6 => ?_) (fun c_6 => ?_)
      · skip
        refine lv_iload_n S.1 S.2.1 dX11_judge_49 rfl (lv_at hl 2 rfl) ?_
        refine lv_iconst (v := 1) S.1 S.2.1 dX11_judge_50 (by decide) ?_
        refine lv_icmp_ne (tgt := 62) S.1 S.2.1 dX11_judge_51 (by decide) (fun c_7 => ?_) (fun c_7 => ?_)
        · skip
          refine lv_iload_n S.1 S.2.1 dX11_judge_62 rfl (lv_at hl 0 rfl) ?_
          refine lv_bipush (v := (-3)) S.1 S.2.1 dX11_judge_63 (by decide) ?_
          refine lv_icmp_ne (tgt := 73) S.1 S.2.1 dX11_judge_65 (by decide) (fun _ => ?_) (fun c => absurd c (by decide))
          refine lv_aload_n S.1 S.2.1 dX11_judge_73 rfl (lv_at hl 1 rfl) ?_
          refine ug_r S hK Z (j := 3) 23 (by decide) rfl rfl rfl (by decide) iX11_judge_X11 qX11_judge_29 dX11_judge_74 ?_
          refine ug_i S hK Z (j := 4) (by decide) rfl rfl rfl (by decide) iX11_judge_X9 qX11_judge_153 dX11_judge_77 ?_
          refine utop (y := (nI x.2.2.2.2.1)) (uPW_o (uTn M x.2.1 x.2.2.1 x.2.2.2.1 x.2.2.2.2.1 x.2.2.2.2.2.1 x.2.2.2.2.2.2.1 x.2.2.2.2.2.2.2) 24 x.1 4 (a := 23) (Or.inl (by decide))) ?_
          refine uret_i S hK Z hre hlk dX11_judge_80 ?_
          first | exact ⟨Or.inr ⟨(by assumption), Or.inr ⟨_, x, hx, (by dsimp only; rw [if_neg (show ¬ h = 0 by assumption), if_neg (show ¬ h = 1 by assumption)]; rfl)⟩⟩, uSm_tM M x, wAt_tM hwx⟩
        · skip
          refine lv_aload_n S.1 S.2.1 dX11_judge_54 rfl (lv_at hl 1 rfl) ?_
          refine ug_r S hK Z (j := 3) 23 (by decide) rfl rfl rfl (by decide) iX11_judge_X11 qX11_judge_29 dX11_judge_55 ?_
          refine ug_i S hK Z (j := 3) (by decide) rfl rfl rfl (by decide) iX11_judge_X9 qX11_judge_150 dX11_judge_58 ?_
          refine utop (y := x.2.2.2.1) (uPW_o (uTn M x.2.1 x.2.2.1 x.2.2.2.1 x.2.2.2.2.1 x.2.2.2.2.2.1 x.2.2.2.2.2.2.1 x.2.2.2.2.2.2.2) 24 x.1 3 (a := 23) (Or.inl (by decide))) ?_
          refine uret_i S hK Z hre hlk dX11_judge_61 ?_
          exact ⟨Or.inr ⟨(by assumption), Or.inr ⟨_, x, hx, (by dsimp only; rw [if_neg (show ¬ h = 0 by assumption), if_pos (show h = 1 by assumption)])⟩⟩, uSm_tM M x, wAt_tM hwx⟩
      · skip
        refine lv_aload_n S.1 S.2.1 dX11_judge_41 rfl (lv_at hl 1 rfl) ?_
        refine ug_r S hK Z (j := 3) 23 (by decide) rfl rfl rfl (by decide) iX11_judge_X11 qX11_judge_29 dX11_judge_42 ?_
        refine ug_i S hK Z (j := 2) (by decide) rfl rfl rfl (by decide) iX11_judge_X9 qX11_judge_147 dX11_judge_45 ?_
        refine utop (y := x.2.2.1) (uPW_o (uTn M x.2.1 x.2.2.1 x.2.2.2.1 x.2.2.2.2.1 x.2.2.2.2.2.1 x.2.2.2.2.2.2.1 x.2.2.2.2.2.2.2) 24 x.1 2 (a := 23) (Or.inl (by decide))) ?_
        refine uret_i S hK Z hre hlk dX11_judge_48 ?_
        exact ⟨Or.inr ⟨(by assumption), Or.inr ⟨_, x, hx, (by dsimp only; exact (if_pos (show h = 0 by assumption)).symm)⟩⟩, uSm_tM M x, wAt_tM hwx⟩
    · skip
      obtain ⟨x, hX⟩ : ∃ X, X = tRun s (t0 w) m := ⟨_, rfl⟩
      have hM0 : M_3 = tM M x := hX ▸ hM
      have hc : ¬ x.2.2.1 = -6 := hX ▸ hc
      rw [hM0] at Z
      have hx : rnOf s n w (-3) x := ⟨hF, m, hm, hX, Or.inr ⟨hc, rfl⟩⟩
      have hwx := rnOf_ok ho hw hx
      have Z := uZ_eq (show tM M x = (uPW (uTn M x.2.1 x.2.2.1 x.2.2.2.1 x.2.2.2.2.1 x.2.2.2.2.2.1 x.2.2.2.2.2.2.1 x.2.2.2.2.2.2.2) 24 x.1) from rfl) Z
      refine lv_istore_n (lv' := [(2, .int (-3)), (0, .ref (G.2.2 0)), (1, .int h)]) S.1 S.2.1 dX11_judge_27 rfl hl (by decide) rfl (fun ls hl => ?_)
      refine lv_iload_n S.1 S.2.1 dX11_judge_28 rfl (lv_at hl 0 rfl) ?_
      refine lv_bipush (v := (-5)) S.1 S.2.1 dX11_judge_29 (by decide) ?_
      refine lv_icmp_ne (tgt := 37) S.1 S.2.1 dX11_judge_31 (by decide) (fun _ => ?_) (fun c => absurd c (by decide))
      refine lv_iload_n S.1 S.2.1 dX11_judge_37 rfl (lv_at hl 2 rfl) ?_
      refine lv_if_ne (tgt := 49) S.1 S.2.1 dX11_judge_38 (by decide) (fun c_10 => ?_) (fun c_10 => ?_)
      · skip
        refine lv_iload_n S.1 S.2.1 dX11_judge_49 rfl (lv_at hl 2 rfl) ?_
        refine lv_iconst (v := 1) S.1 S.2.1 dX11_judge_50 (by decide) ?_
        refine lv_icmp_ne (tgt := 62) S.1 S.2.1 dX11_judge_51 (by decide) (fun c_11 => ?_) (fun c_11 => ?_)
        · skip
          refine lv_iload_n S.1 S.2.1 dX11_judge_62 rfl (lv_at hl 0 rfl) ?_
          refine lv_bipush (v := (-3)) S.1 S.2.1 dX11_judge_63 (by decide) ?_
          refine lv_icmp_ne (tgt := 73) S.1 S.2.1 dX11_judge_65 (by decide) (fun c => absurd c (by decide)) (fun _ => ?_)
          refine lv_bipush (v := (-3)) S.1 S.2.1 dX11_judge_68 (by decide) ?_
          refine lv_goto (tgt := 80) S.1 S.2.1 dX11_judge_70 (by decide) ?_
          refine uret_i S hK Z hre hlk dX11_judge_80 ?_
          first | exact ⟨Or.inr ⟨(by assumption), Or.inr ⟨_, x, hx, (by dsimp only; rw [if_neg (show ¬ h = 0 by assumption), if_neg (show ¬ h = 1 by assumption)]; rfl)⟩⟩, uSm_tM M x, wAt_tM hwx⟩
        · skip
          refine lv_aload_n S.1 S.2.1 dX11_judge_54 rfl (lv_at hl 1 rfl) ?_
          refine ug_r S hK Z (j := 3) 23 (by decide) rfl rfl rfl (by decide) iX11_judge_X11 qX11_judge_29 dX11_judge_55 ?_
          refine ug_i S hK Z (j := 3) (by decide) rfl rfl rfl (by decide) iX11_judge_X9 qX11_judge_150 dX11_judge_58 ?_
          refine utop (y := x.2.2.2.1) (uPW_o (uTn M x.2.1 x.2.2.1 x.2.2.2.1 x.2.2.2.2.1 x.2.2.2.2.2.1 x.2.2.2.2.2.2.1 x.2.2.2.2.2.2.2) 24 x.1 3 (a := 23) (Or.inl (by decide))) ?_
          refine uret_i S hK Z hre hlk dX11_judge_61 ?_
          exact ⟨Or.inr ⟨(by assumption), Or.inr ⟨_, x, hx, (by dsimp only; rw [if_neg (show ¬ h = 0 by assumption), if_pos (show h = 1 by assumption)])⟩⟩, uSm_tM M x, wAt_tM hwx⟩
      · skip
        refine lv_aload_n S.1 S.2.1 dX11_judge_41 rfl (lv_at hl 1 rfl) ?_
        refine ug_r S hK Z (j := 3) 23 (by decide) rfl rfl rfl (by decide) iX11_judge_X11 qX11_judge_29 dX11_judge_42 ?_
        refine ug_i S hK Z (j := 2) (by decide) rfl rfl rfl (by decide) iX11_judge_X9 qX11_judge_147 dX11_judge_45 ?_
        refine utop (y := x.2.2.1) (uPW_o (uTn M x.2.1 x.2.2.1 x.2.2.2.1 x.2.2.2.2.1 x.2.2.2.2.2.1 x.2.2.2.2.2.2.1 x.2.2.2.2.2.2.2) 24 x.1 2 (a := 23) (Or.inl (by decide))) ?_
        refine uret_i S hK Z hre hlk dX11_judge_48 ?_
        exact ⟨Or.inr ⟨(by assumption), Or.inr ⟨_, x, hx, (by dsimp only; exact (if_pos (show h = 0 by assumption)).symm)⟩⟩, uSm_tM M x, wAt_tM hwx⟩
  · skip
    rw [hM_1] at Z
    refine lv_if_ne (tgt := 12) S.1 S.2.1 dX11_judge_6 (by decide) (fun c => absurd c (by decide)) (fun _ => ?_)
    refine lv_bipush (v := (-2)) S.1 S.2.1 dX11_judge_9 (by decide) ?_
    refine uret_i S hK Z hre hlk dX11_judge_11 ?_
    exact ⟨Or.inl ⟨by assumption, rfl⟩, uSm_rf _ _ _, ht⟩
set_option maxHeartbeats 4000000 in
set_option maxRecDepth 100000 in
theorem c_X11_behind (l : Launch) (G : uG) (t h : Int32) (M : uM) (w : Nat → Nat → Nat) (s : Nat → Nat) (n : Nat) (hr : uRd M 1 w) (hw : wOk w) (hp : pdAt M s n) (ho : pdOk s n) (ht : wAt M 24) : CTi l G yX11_behind wsX11_behind 6 145 [.ref (G.2.2 0), .int t, .int h] M (fun r M2 => SpBehind s n w t h r ∧ uSm 23 34 M M2 ∧ wAt M2 24) := by
  obtain ⟨a, fl, wy, sl, fs, ft, cm, wo, hT, hwo⟩ := trOk_ex ht
  refine ustart_i (cc := cX11_behind) (maxL := 4) (ret := (some .int)) (own := RX11) rfl (by decide) rfl (Nat.le_of_ble_eq_true rfl) ?_
  intro xp xe xs xm xa xb xt xc xA ls S hK hA Z hre hlk hl
  have hl : lv_has ls 4 [(0, .ref (G.2.2 0)), (1, .int t), (2, .int h)] := hl
  refine lv_iload_n S.1 S.2.1 dX11_behind_0 rfl (lv_at hl 1 rfl) ?_
  refine uc_Si (As := [.int t]) (rest := []) S hK hA Z (c_X11_isThing l G t M) (va_cwS 1 S.2.2.2.2 gX11_behind_X11_isThing rfl rfl rfl (by decide +kernel) ⟨Nat.le_of_ble_eq_true rfl, Nat.le_of_ble_eq_true rfl⟩) rfl hl.1 rfl (Nat.le_of_ble_eq_true rfl) dX11_behind_1 ⟨Nat.zero_le _, Nat.zero_le _⟩ (fun r_1 M_1 H locs hp Z => ?_)
  obtain ⟨⟨rfl, w_1⟩ | ⟨rfl, w_1⟩, hM_1⟩ := hp
  · skip
    rw [hM_1] at Z
    refine lv_if_ne (tgt := 9) S.1 S.2.1 dX11_behind_4 (by decide) (fun _ => ?_) (fun c => absurd c (by decide))
    refine lv_iload_n S.1 S.2.1 dX11_behind_9 rfl (lv_at hl 2 rfl) ?_
    refine lv_iconst (v := 0) S.1 S.2.1 dX11_behind_10 (by decide) ?_
    refine lv_iconst (v := 2) S.1 S.2.1 dX11_behind_11 (by decide) ?_
    refine uc_Si (As := [.int h, .int 0, .int 2]) (rest := []) S hK hA Z (c_X5_within l G h 0 2 M) (va_cwS 3 S.2.2.2.2 gX11_behind_X5_within rfl rfl rfl (by decide +kernel) ⟨Nat.le_of_ble_eq_true rfl, Nat.le_of_ble_eq_true rfl⟩) rfl hl.1 rfl (Nat.le_of_ble_eq_true rfl) dX11_behind_12 ⟨Nat.zero_le _, Nat.zero_le _⟩ (fun r_3 M_3 H locs hp Z => ?_)
    obtain ⟨⟨rfl, w_3⟩ | ⟨rfl, w_3⟩, hM_3⟩ := hp
    · skip
      rw [hM_3] at Z
      refine lv_if_ne (tgt := 21) S.1 S.2.1 dX11_behind_15 (by decide) (fun _ => ?_) (fun c => absurd c (by decide))
      obtain ⟨j, hj, rfl⟩ := u_in0 (n := 11) (show inr t 0 11 by assumption) (by decide)
      have Z := uZ_eq hT.symm Z
      refine lv_aload_n S.1 S.2.1 dX11_behind_21 rfl (lv_at hl 0 rfl) ?_
      refine ug_r S hK Z (j := 3) 23 (by decide) rfl rfl rfl (by decide) iX11_behind_X11 qX11_behind_29 dX11_behind_22 ?_
      refine lv_aload_n S.1 S.2.1 dX11_behind_25 rfl (lv_at hl 0 rfl) ?_
      refine ug_r S hK Z (j := 0) 1 (by decide) rfl rfl rfl (by decide) iX11_behind_X11 qX11_behind_10 dX11_behind_26 ?_
      refine lv_aload_n S.1 S.2.1 dX11_behind_29 rfl (lv_at hl 0 rfl) ?_
      refine ug_r S hK Z (j := 2) 21 (by decide) rfl rfl rfl (by decide) iX11_behind_X11 qX11_behind_22 dX11_behind_30 ?_
      refine uc_Vi (As := [.ref (G.2.2 1), .ref (G.2.2 21)]) (rest := []) S hK hA Z (c_X9_run l G s n M wo a fl wy sl fs ft cm w hp ho hr hwo hw) (cwV 2 S.2.2.2.2 gX11_behind_X9_run rfl rfl rfl (by decide +kernel) ⟨Nat.le_of_ble_eq_true rfl, Nat.le_of_ble_eq_true rfl⟩) (by decide) rfl rfl rfl hl.1 rfl (Nat.le_of_ble_eq_true rfl) dX11_behind_33 ⟨Nat.zero_le _, Nat.zero_le _⟩ (fun r_5 M_5 H locs hp Z => ?_)
      obtain ⟨hF, rfl, hM⟩ | ⟨hF, m, hm, hM, ⟨hc, rfl⟩ | ⟨hc, rfl⟩⟩ := hp
      · skip
        rw [hM, hT] at Z
        refine lv_istore_n (lv' := [(3, .int (-5)), (0, .ref (G.2.2 0)), (1, .int (nI j)), (2, .int h)]) S.1 S.2.1 dX11_behind_36 rfl hl (by decide) rfl (fun ls hl => ?_)
        refine lv_iload_n S.1 S.2.1 dX11_behind_37 rfl (lv_at hl 0 rfl) ?_
        refine lv_if_eq (tgt := 43) S.1 S.2.1 dX11_behind_38 (by decide) (fun c => absurd c (by decide)) (fun _ => ?_)
        refine lv_iload_n S.1 S.2.1 dX11_behind_41 rfl (lv_at hl 0 rfl) ?_
        refine uret_i S hK Z hre hlk dX11_behind_42 ?_
        exact ⟨Or.inr (Or.inr ⟨(by assumption), (by assumption), Or.inl ⟨hF, rfl⟩⟩), uSm_rf _ _ _, ht⟩
      · skip
        obtain ⟨x, hX⟩ : ∃ X, X = tRun s (t0 w) m := ⟨_, rfl⟩
        have hM0 : M_5 = tM M x := hX ▸ hM
        have hc :  x.2.2.1 = -6 := hX ▸ hc
        rw [hM0] at Z
        have hx : rnOf s n w (0) x := ⟨hF, m, hm, hX, Or.inl ⟨hc, rfl⟩⟩
        have hwx := rnOf_ok ho hw hx
        have Z := uZ_eq (show tM M x = (uPW (uTn M x.2.1 x.2.2.1 x.2.2.2.1 x.2.2.2.2.1 x.2.2.2.2.2.1 x.2.2.2.2.2.2.1 x.2.2.2.2.2.2.2) 24 x.1) from rfl) Z
        refine lv_istore_n (lv' := [(3, .int 0), (0, .ref (G.2.2 0)), (1, .int (nI j)), (2, .int h)]) S.1 S.2.1 dX11_behind_36 rfl hl (by decide) rfl (fun ls hl => ?_)
        refine lv_iload_n S.1 S.2.1 dX11_behind_37 rfl (lv_at hl 0 rfl) ?_
        refine lv_if_eq (tgt := 43) S.1 S.2.1 dX11_behind_38 (by decide) (fun _ => ?_) (fun c => absurd c (by decide))
        refine lv_iload_n S.1 S.2.1 dX11_behind_43 rfl (lv_at hl 3 rfl) ?_
        refine lv_if_ne (tgt := 62) S.1 S.2.1 dX11_behind_44 (by decide) (fun c_8 => ?_) (fun c_8 => ?_)
        · skip
          refine lv_iload_n S.1 S.2.1 dX11_behind_62 rfl (lv_at hl 3 rfl) ?_
          refine lv_iconst (v := 1) S.1 S.2.1 dX11_behind_63 (by decide) ?_
          refine lv_icmp_ne (tgt := 82) S.1 S.2.1 dX11_behind_64 (by decide) (fun c_9 => ?_) (fun c_9 => ?_)
          · skip
            refine lv_aload_n S.1 S.2.1 dX11_behind_82 rfl (lv_at hl 1 rfl) ?_
            refine ug_r S hK Z (j := 3) 23 (by decide) rfl rfl rfl (by decide) iX11_behind_X11 qX11_behind_29 dX11_behind_83 ?_
            refine ug_r S hK Z (j := 0) 24 (by decide) rfl rfl rfl (by decide) iX11_behind_X9 qX11_behind_156 dX11_behind_86 ?_
            refine lv_iload_n S.1 S.2.1 dX11_behind_89 rfl (lv_at hl 2 rfl) ?_
            have hj2 := (hwx.1 j (by omega)).2.1
            have hj3 := (hwx.1 j (by omega)).2.2.1
            refine uc_Vi (As := [.int (nI j)]) (rest := []) S hK hA Z (c_X10_isFitForSale l G 24 (by unfold uIsW; omega) (uTn M x.2.1 x.2.2.1 x.2.2.2.1 x.2.2.2.2.1 x.2.2.2.2.2.1 x.2.2.2.2.2.2.1 x.2.2.2.2.2.2.2) x.1 j (by omega) (by omega)) (cwV 1 S.2.2.2.2 gX11_behind_X10_isFitForSale rfl rfl rfl (by decide +kernel) ⟨Nat.le_of_ble_eq_true rfl, Nat.le_of_ble_eq_true rfl⟩) (by decide) rfl rfl rfl hl.1 rfl (Nat.le_of_ble_eq_true rfl) dX11_behind_90 ⟨Nat.zero_le _, Nat.zero_le _⟩ (fun r_10 M_10 H locs hp Z => ?_)
            obtain ⟨⟨rfl, w_10⟩ | ⟨rfl, w_10⟩, hM_10⟩ := hp
            · skip
              rw [hM_10] at Z
              refine lv_if_eq (tgt := 110) S.1 S.2.1 dX11_behind_93 (by decide) (fun c => absurd c (by decide)) (fun _ => ?_)
              refine lv_aload_n S.1 S.2.1 dX11_behind_96 rfl (lv_at hl 1 rfl) ?_
              refine ug_r S hK Z (j := 3) 23 (by decide) rfl rfl rfl (by decide) iX11_behind_X11 qX11_behind_29 dX11_behind_97 ?_
              refine ug_r S hK Z (j := 0) 24 (by decide) rfl rfl rfl (by decide) iX11_behind_X9 qX11_behind_156 dX11_behind_100 ?_
              refine lv_iload_n S.1 S.2.1 dX11_behind_103 rfl (lv_at hl 2 rfl) ?_
              refine uc_Vi (As := [.int (nI j)]) (rest := []) S hK hA Z (c_X10_priceOf l G 24 (by unfold uIsW; omega) (uTn M x.2.1 x.2.2.1 x.2.2.2.1 x.2.2.2.2.1 x.2.2.2.2.2.1 x.2.2.2.2.2.2.1 x.2.2.2.2.2.2.2) x.1 j (by omega) (by omega) (by omega)) (cwV 1 S.2.2.2.2 gX11_behind_X10_priceOf rfl rfl rfl (by decide +kernel) ⟨Nat.le_of_ble_eq_true rfl, Nat.le_of_ble_eq_true rfl⟩) (by decide) rfl rfl rfl hl.1 rfl (Nat.le_of_ble_eq_true rfl) dX11_behind_104 ⟨Nat.zero_le _, Nat.zero_le _⟩ (fun r_12 M_12 H locs hp Z => ?_)
              obtain ⟨p_12, hM_12⟩ := hp
              rw [hM_12] at Z
              have hpr := p_12 (by assumption)
              refine lv_goto (tgt := 111) S.1 S.2.1 dX11_behind_107 (by decide) ?_
              refine uret_i S hK Z hre hlk dX11_behind_111 ?_
              exact ⟨Or.inr (Or.inr ⟨(by assumption), (by assumption), Or.inr ⟨_, x, hx, (by dsimp only; rw [if_neg (show ¬ (0 : Int32) = -3 by decide), if_neg (show ¬ h = 0 by assumption), if_neg (show ¬ h = 1 by assumption), nI_clamp (show j < 2 ^ 31 by omega)]; exact hpr)⟩⟩), uSm_tM M x, wAt_tM hwx⟩
            · skip
              rw [hM_10] at Z
              refine lv_if_eq (tgt := 110) S.1 S.2.1 dX11_behind_93 (by decide) (fun _ => ?_) (fun c => absurd c (by decide))
              refine lv_iconst (v := 0) S.1 S.2.1 dX11_behind_110 (by decide) ?_
              refine uret_i S hK Z hre hlk dX11_behind_111 ?_
              exact ⟨Or.inr (Or.inr ⟨(by assumption), (by assumption), Or.inr ⟨_, x, hx, (by dsimp only; rw [if_neg (show ¬ (0 : Int32) = -3 by decide), if_neg (show ¬ h = 0 by assumption), if_neg (show ¬ h = 1 by assumption), nI_clamp (show j < 2 ^ 31 by omega)]; exact congrArg nI (show wPrice x.1 j = 0 from if_pos (Or.inl (by omega))).symm)⟩⟩), uSm_tM M x, wAt_tM hwx⟩
          · skip
            refine lv_aload_n S.1 S.2.1 dX11_behind_67 rfl (lv_at hl 1 rfl) ?_
            refine ug_r S hK Z (j := 3) 23 (by decide) rfl rfl rfl (by decide) iX11_behind_X11 qX11_behind_29 dX11_behind_68 ?_
            refine ug_r S hK Z (j := 0) 24 (by decide) rfl rfl rfl (by decide) iX11_behind_X9 qX11_behind_156 dX11_behind_71 ?_
            refine ug_r S hK Z (j := 1) 26 (by decide) rfl rfl rfl (by decide) iX11_behind_X10 qX11_behind_110 dX11_behind_74 ?_
            refine lv_iload_n S.1 S.2.1 dX11_behind_77 rfl (lv_at hl 2 rfl) ?_
            refine ud_Si (As := [.ref (G.2.2 26), .int (nI j)]) (rest := []) S hK hA Z (c_X5_at l G 26 12 j (by decide) rfl (by omega) (uPW (uTn M x.2.1 x.2.2.1 x.2.2.2.1 x.2.2.2.2.1 x.2.2.2.2.2.1 x.2.2.2.2.2.2.1 x.2.2.2.2.2.2.2) 24 x.1)) (va_cwS 2 S.2.2.2.2 gX11_behind_X5_at rfl rfl rfl (by decide +kernel) ⟨Nat.le_of_ble_eq_true rfl, Nat.le_of_ble_eq_true rfl⟩) rfl hl.1 rfl (Nat.le_of_ble_eq_true rfl) dX11_behind_78 ⟨Nat.zero_le _, Nat.zero_le _⟩ (fun H locs Z => ?_)
            refine utop (y := (nI (x.1 2 j))) (uPW_g (uTn M x.2.1 x.2.2.1 x.2.2.2.1 x.2.2.2.2.1 x.2.2.2.2.2.1 x.2.2.2.2.2.2.1 x.2.2.2.2.2.2.2) 24 x.1 j (j := 2) (by decide)) ?_
            refine uret_i S hK Z hre hlk dX11_behind_81 ?_
            exact ⟨Or.inr (Or.inr ⟨(by assumption), (by assumption), Or.inr ⟨_, x, hx, (by dsimp only; rw [if_neg (show ¬ (0 : Int32) = -3 by decide), if_neg (show ¬ h = 0 by assumption), if_pos (show h = 1 by assumption), nI_clamp (show j < 2 ^ 31 by omega)])⟩⟩), uSm_tM M x, wAt_tM hwx⟩
        · skip
          refine lv_aload_n S.1 S.2.1 dX11_behind_47 rfl (lv_at hl 1 rfl) ?_
          refine ug_r S hK Z (j := 3) 23 (by decide) rfl rfl rfl (by decide) iX11_behind_X11 qX11_behind_29 dX11_behind_48 ?_
          refine ug_r S hK Z (j := 0) 24 (by decide) rfl rfl rfl (by decide) iX11_behind_X9 qX11_behind_156 dX11_behind_51 ?_
          refine ug_r S hK Z (j := 0) 25 (by decide) rfl rfl rfl (by decide) iX11_behind_X10 qX11_behind_98 dX11_behind_54 ?_
          refine lv_iload_n S.1 S.2.1 dX11_behind_57 rfl (lv_at hl 2 rfl) ?_
          refine ud_Si (As := [.ref (G.2.2 25), .int (nI j)]) (rest := []) S hK hA Z (c_X5_at l G 25 12 j (by decide) rfl (by omega) (uPW (uTn M x.2.1 x.2.2.1 x.2.2.2.1 x.2.2.2.2.1 x.2.2.2.2.2.1 x.2.2.2.2.2.2.1 x.2.2.2.2.2.2.2) 24 x.1)) (va_cwS 2 S.2.2.2.2 gX11_behind_X5_at rfl rfl rfl (by decide +kernel) ⟨Nat.le_of_ble_eq_true rfl, Nat.le_of_ble_eq_true rfl⟩) rfl hl.1 rfl (Nat.le_of_ble_eq_true rfl) dX11_behind_58 ⟨Nat.zero_le _, Nat.zero_le _⟩ (fun H locs Z => ?_)
          refine utop (y := (nI (x.1 1 j))) (uPW_g (uTn M x.2.1 x.2.2.1 x.2.2.2.1 x.2.2.2.2.1 x.2.2.2.2.2.1 x.2.2.2.2.2.2.1 x.2.2.2.2.2.2.2) 24 x.1 j (j := 1) (by decide)) ?_
          refine uret_i S hK Z hre hlk dX11_behind_61 ?_
          exact ⟨Or.inr (Or.inr ⟨(by assumption), (by assumption), Or.inr ⟨_, x, hx, (by dsimp only; rw [if_neg (show ¬ (0 : Int32) = -3 by decide), if_pos (show h = 0 by assumption), nI_clamp (show j < 2 ^ 31 by omega)])⟩⟩), uSm_tM M x, wAt_tM hwx⟩
      · skip
        obtain ⟨x, hX⟩ : ∃ X, X = tRun s (t0 w) m := ⟨_, rfl⟩
        have hM0 : M_5 = tM M x := hX ▸ hM
        have hc : ¬ x.2.2.1 = -6 := hX ▸ hc
        rw [hM0] at Z
        have hx : rnOf s n w (-3) x := ⟨hF, m, hm, hX, Or.inr ⟨hc, rfl⟩⟩
        have hwx := rnOf_ok ho hw hx
        have Z := uZ_eq (show tM M x = (uPW (uTn M x.2.1 x.2.2.1 x.2.2.2.1 x.2.2.2.2.1 x.2.2.2.2.2.1 x.2.2.2.2.2.2.1 x.2.2.2.2.2.2.2) 24 x.1) from rfl) Z
        refine lv_istore_n (lv' := [(3, .int (-3)), (0, .ref (G.2.2 0)), (1, .int (nI j)), (2, .int h)]) S.1 S.2.1 dX11_behind_36 rfl hl (by decide) rfl (fun ls hl => ?_)
        refine lv_iload_n S.1 S.2.1 dX11_behind_37 rfl (lv_at hl 0 rfl) ?_
        refine lv_if_eq (tgt := 43) S.1 S.2.1 dX11_behind_38 (by decide) (fun c => absurd c (by decide)) (fun _ => ?_)
        refine lv_iload_n S.1 S.2.1 dX11_behind_41 rfl (lv_at hl 0 rfl) ?_
        refine uret_i S hK Z hre hlk dX11_behind_42 ?_
        exact ⟨Or.inr (Or.inr ⟨(by assumption), (by assumption), Or.inr ⟨_, x, hx, (by dsimp only; exact (if_pos rfl).symm)⟩⟩), uSm_tM M x, wAt_tM hwx⟩
    · skip
      rw [hM_3] at Z
      refine lv_if_ne (tgt := 21) S.1 S.2.1 dX11_behind_15 (by decide) (fun c => absurd c (by decide)) (fun _ => ?_)
      refine lv_bipush (v := (-2)) S.1 S.2.1 dX11_behind_18 (by decide) ?_
      refine uret_i S hK Z hre hlk dX11_behind_20 ?_
      exact ⟨Or.inr (Or.inl ⟨(by assumption), (by assumption), rfl⟩), uSm_rf _ _ _, ht⟩
  · skip
    rw [hM_1] at Z
    refine lv_if_ne (tgt := 9) S.1 S.2.1 dX11_behind_4 (by decide) (fun c => absurd c (by decide)) (fun _ => ?_)
    refine lv_iconst (v := (-1)) S.1 S.2.1 dX11_behind_7 (by decide) ?_
    refine uret_i S hK Z hre hlk dX11_behind_8 ?_
    exact ⟨Or.inl ⟨by assumption, rfl⟩, uSm_rf _ _ _, ht⟩
set_option maxHeartbeats 4000000 in
set_option maxRecDepth 100000 in
theorem c_X11_purse (l : Launch) (G : uG) (k h : Int32) (M : uM) (w : Nat → Nat → Nat) (s : Nat → Nat) (n : Nat) (hr : uRd M 1 w) (hw : wOk w) (hp : pdAt M s n) (ho : pdOk s n) (ht : wAt M 24) : CTi l G yX11_purse wsX11_purse 6 145 [.ref (G.2.2 0), .int k, .int h] M (fun r M2 => SpPurse s n w k h r ∧ uSm 23 34 M M2 ∧ wAt M2 24) := by
  obtain ⟨a, fl, wy, sl, fs, ft, cm, wo, hT, hwo⟩ := trOk_ex ht
  refine ustart_i (cc := cX11_purse) (maxL := 4) (ret := (some .int)) (own := RX11) rfl (by decide) rfl (Nat.le_of_ble_eq_true rfl) ?_
  intro xp xe xs xm xa xb xt xc xA ls S hK hA Z hre hlk hl
  have hl : lv_has ls 4 [(0, .ref (G.2.2 0)), (1, .int k), (2, .int h)] := hl
  refine lv_iload_n S.1 S.2.1 dX11_purse_0 rfl (lv_at hl 1 rfl) ?_
  refine uc_Si (As := [.int k]) (rest := []) S hK hA Z (c_X11_isOne l G k M) (va_cwS 1 S.2.2.2.2 gX11_purse_X11_isOne rfl rfl rfl (by decide +kernel) ⟨Nat.le_of_ble_eq_true rfl, Nat.le_of_ble_eq_true rfl⟩) rfl hl.1 rfl (Nat.le_of_ble_eq_true rfl) dX11_purse_1 ⟨Nat.zero_le _, Nat.zero_le _⟩ (fun r_1 M_1 H locs hp Z => ?_)
  obtain ⟨⟨rfl, w_1⟩ | ⟨rfl, w_1⟩, hM_1⟩ := hp
  · skip
    rw [hM_1] at Z
    refine lv_if_ne (tgt := 9) S.1 S.2.1 dX11_purse_4 (by decide) (fun _ => ?_) (fun c => absurd c (by decide))
    refine lv_iload_n S.1 S.2.1 dX11_purse_9 rfl (lv_at hl 2 rfl) ?_
    refine lv_iconst (v := 0) S.1 S.2.1 dX11_purse_10 (by decide) ?_
    refine lv_iconst (v := 2) S.1 S.2.1 dX11_purse_11 (by decide) ?_
    refine uc_Si (As := [.int h, .int 0, .int 2]) (rest := []) S hK hA Z (c_X5_within l G h 0 2 M) (va_cwS 3 S.2.2.2.2 gX11_purse_X5_within rfl rfl rfl (by decide +kernel) ⟨Nat.le_of_ble_eq_true rfl, Nat.le_of_ble_eq_true rfl⟩) rfl hl.1 rfl (Nat.le_of_ble_eq_true rfl) dX11_purse_12 ⟨Nat.zero_le _, Nat.zero_le _⟩ (fun r_3 M_3 H locs hp Z => ?_)
    obtain ⟨⟨rfl, w_3⟩ | ⟨rfl, w_3⟩, hM_3⟩ := hp
    · skip
      rw [hM_3] at Z
      refine lv_if_ne (tgt := 21) S.1 S.2.1 dX11_purse_15 (by decide) (fun _ => ?_) (fun c => absurd c (by decide))
      obtain ⟨j, hj, rfl⟩ := u_in0 (n := 7) (show inr k 0 7 by assumption) (by decide)
      have Z := uZ_eq hT.symm Z
      refine lv_aload_n S.1 S.2.1 dX11_purse_21 rfl (lv_at hl 0 rfl) ?_
      refine ug_r S hK Z (j := 3) 23 (by decide) rfl rfl rfl (by decide) iX11_purse_X11 qX11_purse_29 dX11_purse_22 ?_
      refine lv_aload_n S.1 S.2.1 dX11_purse_25 rfl (lv_at hl 0 rfl) ?_
      refine ug_r S hK Z (j := 0) 1 (by decide) rfl rfl rfl (by decide) iX11_purse_X11 qX11_purse_10 dX11_purse_26 ?_
      refine lv_aload_n S.1 S.2.1 dX11_purse_29 rfl (lv_at hl 0 rfl) ?_
      refine ug_r S hK Z (j := 2) 21 (by decide) rfl rfl rfl (by decide) iX11_purse_X11 qX11_purse_22 dX11_purse_30 ?_
      refine uc_Vi (As := [.ref (G.2.2 1), .ref (G.2.2 21)]) (rest := []) S hK hA Z (c_X9_run l G s n M wo a fl wy sl fs ft cm w hp ho hr hwo hw) (cwV 2 S.2.2.2.2 gX11_purse_X9_run rfl rfl rfl (by decide +kernel) ⟨Nat.le_of_ble_eq_true rfl, Nat.le_of_ble_eq_true rfl⟩) (by decide) rfl rfl rfl hl.1 rfl (Nat.le_of_ble_eq_true rfl) dX11_purse_33 ⟨Nat.zero_le _, Nat.zero_le _⟩ (fun r_5 M_5 H locs hp Z => ?_)
      obtain ⟨hF, rfl, hM⟩ | ⟨hF, m, hm, hM, ⟨hc, rfl⟩ | ⟨hc, rfl⟩⟩ := hp
      · skip
        rw [hM, hT] at Z
        refine lv_istore_n (lv' := [(3, .int (-5)), (0, .ref (G.2.2 0)), (1, .int (nI j)), (2, .int h)]) S.1 S.2.1 dX11_purse_36 rfl hl (by decide) rfl (fun ls hl => ?_)
        refine lv_iload_n S.1 S.2.1 dX11_purse_37 rfl (lv_at hl 0 rfl) ?_
        refine lv_if_eq (tgt := 43) S.1 S.2.1 dX11_purse_38 (by decide) (fun c => absurd c (by decide)) (fun _ => ?_)
        refine lv_iload_n S.1 S.2.1 dX11_purse_41 rfl (lv_at hl 0 rfl) ?_
        refine uret_i S hK Z hre hlk dX11_purse_42 ?_
        exact ⟨Or.inr (Or.inr ⟨(by assumption), (by assumption), Or.inl ⟨hF, rfl⟩⟩), uSm_rf _ _ _, ht⟩
      · skip
        obtain ⟨x, hX⟩ : ∃ X, X = tRun s (t0 w) m := ⟨_, rfl⟩
        have hM0 : M_5 = tM M x := hX ▸ hM
        have hc :  x.2.2.1 = -6 := hX ▸ hc
        rw [hM0] at Z
        have hx : rnOf s n w (0) x := ⟨hF, m, hm, hX, Or.inl ⟨hc, rfl⟩⟩
        have hwx := rnOf_ok ho hw hx
        have Z := uZ_eq (show tM M x = (uPW (uTn M x.2.1 x.2.2.1 x.2.2.2.1 x.2.2.2.2.1 x.2.2.2.2.2.1 x.2.2.2.2.2.2.1 x.2.2.2.2.2.2.2) 24 x.1) from rfl) Z
        refine lv_istore_n (lv' := [(3, .int 0), (0, .ref (G.2.2 0)), (1, .int (nI j)), (2, .int h)]) S.1 S.2.1 dX11_purse_36 rfl hl (by decide) rfl (fun ls hl => ?_)
        refine lv_iload_n S.1 S.2.1 dX11_purse_37 rfl (lv_at hl 0 rfl) ?_
        refine lv_if_eq (tgt := 43) S.1 S.2.1 dX11_purse_38 (by decide) (fun _ => ?_) (fun c => absurd c (by decide))
        refine lv_iload_n S.1 S.2.1 dX11_purse_43 rfl (lv_at hl 3 rfl) ?_
        refine lv_if_ne (tgt := 62) S.1 S.2.1 dX11_purse_44 (by decide) (fun c_8 => ?_) (fun c_8 => ?_)
        · skip
          refine lv_iload_n S.1 S.2.1 dX11_purse_62 rfl (lv_at hl 3 rfl) ?_
          refine lv_iconst (v := 1) S.1 S.2.1 dX11_purse_63 (by decide) ?_
          refine lv_icmp_ne (tgt := 79) S.1 S.2.1 dX11_purse_64 (by decide) (fun c_9 => ?_) (fun c_9 => ?_)
          · skip
            refine lv_aload_n S.1 S.2.1 dX11_purse_79 rfl (lv_at hl 1 rfl) ?_
            refine ug_r S hK Z (j := 3) 23 (by decide) rfl rfl rfl (by decide) iX11_purse_X11 qX11_purse_29 dX11_purse_80 ?_
            refine ug_r S hK Z (j := 0) 24 (by decide) rfl rfl rfl (by decide) iX11_purse_X9 qX11_purse_156 dX11_purse_83 ?_
            refine lv_iload_n S.1 S.2.1 dX11_purse_86 rfl (lv_at hl 2 rfl) ?_
            have h7x := hwx.2.2.1
            refine uc_Vi (As := [.int (nI j)]) (rest := []) S hK hA Z (c_X10_isAjar l G 24 (by unfold uIsW; omega) (uTn M x.2.1 x.2.2.1 x.2.2.2.1 x.2.2.2.2.1 x.2.2.2.2.2.1 x.2.2.2.2.2.2.1 x.2.2.2.2.2.2.2) x.1 j (by omega) (by omega)) (cwV 1 S.2.2.2.2 gX11_purse_X10_isAjar rfl rfl rfl (by decide +kernel) ⟨Nat.le_of_ble_eq_true rfl, Nat.le_of_ble_eq_true rfl⟩) (by decide) rfl rfl rfl hl.1 rfl (Nat.le_of_ble_eq_true rfl) dX11_purse_87 ⟨Nat.zero_le _, Nat.zero_le _⟩ (fun r_10 M_10 H locs hp Z => ?_)
            obtain ⟨⟨rfl, w_10⟩ | ⟨rfl, w_10⟩, hM_10⟩ := hp
            · skip
              rw [hM_10] at Z
              refine lv_if_eq (tgt := 97) S.1 S.2.1 dX11_purse_90 (by decide) (fun c => absurd c (by decide)) (fun _ => ?_)
              refine lv_iconst (v := 1) S.1 S.2.1 dX11_purse_93 (by decide) ?_
              refine lv_goto (tgt := 98) S.1 S.2.1 dX11_purse_94 (by decide) ?_
              refine uret_i S hK Z hre hlk dX11_purse_98 ?_
              exact ⟨Or.inr (Or.inr ⟨(by assumption), (by assumption), Or.inr ⟨_, x, hx, (by dsimp only; rw [if_neg (show ¬ (0 : Int32) = -3 by decide), if_neg (show ¬ h = 0 by assumption), if_neg (show ¬ h = 1 by assumption), nI_clamp (show j < 2 ^ 31 by omega)]; exact congrArg nI (show x.1 0 7 / 2 ^ j % 2 = 1 by omega).symm)⟩⟩), uSm_tM M x, wAt_tM hwx⟩
            · skip
              rw [hM_10] at Z
              refine lv_if_eq (tgt := 97) S.1 S.2.1 dX11_purse_90 (by decide) (fun _ => ?_) (fun c => absurd c (by decide))
              refine lv_iconst (v := 0) S.1 S.2.1 dX11_purse_97 (by decide) ?_
              refine uret_i S hK Z hre hlk dX11_purse_98 ?_
              exact ⟨Or.inr (Or.inr ⟨(by assumption), (by assumption), Or.inr ⟨_, x, hx, (by dsimp only; rw [if_neg (show ¬ (0 : Int32) = -3 by decide), if_neg (show ¬ h = 0 by assumption), if_neg (show ¬ h = 1 by assumption), nI_clamp (show j < 2 ^ 31 by omega)]; exact congrArg nI (show x.1 0 7 / 2 ^ j % 2 = 0 by omega).symm)⟩⟩), uSm_tM M x, wAt_tM hwx⟩
          · skip
            refine lv_aload_n S.1 S.2.1 dX11_purse_67 rfl (lv_at hl 1 rfl) ?_
            refine ug_r S hK Z (j := 3) 23 (by decide) rfl rfl rfl (by decide) iX11_purse_X11 qX11_purse_29 dX11_purse_68 ?_
            refine ug_r S hK Z (j := 0) 24 (by decide) rfl rfl rfl (by decide) iX11_purse_X9 qX11_purse_156 dX11_purse_71 ?_
            refine lv_iload_n S.1 S.2.1 dX11_purse_74 rfl (lv_at hl 2 rfl) ?_
            refine ud_Vi (As := [.int (nI j)]) (rest := []) S hK hA Z (c_X10_thingsOf l G 24 (by unfold uIsW; omega) (uTn M x.2.1 x.2.2.1 x.2.2.2.1 x.2.2.2.2.1 x.2.2.2.2.2.1 x.2.2.2.2.2.2.1 x.2.2.2.2.2.2.2) x.1 j (by omega) (fun t ht => (hwx.1 t ht).1)) (cwV 1 S.2.2.2.2 gX11_purse_X10_thingsOf rfl rfl rfl (by decide +kernel) ⟨Nat.le_of_ble_eq_true rfl, Nat.le_of_ble_eq_true rfl⟩) (by decide) rfl rfl rfl hl.1 rfl (Nat.le_of_ble_eq_true rfl) dX11_purse_75 ⟨Nat.zero_le _, Nat.zero_le _⟩ (fun H locs Z => ?_)
            refine uret_i S hK Z hre hlk dX11_purse_78 ?_
            exact ⟨Or.inr (Or.inr ⟨(by assumption), (by assumption), Or.inr ⟨_, x, hx, (by dsimp only; rw [if_neg (show ¬ (0 : Int32) = -3 by decide), if_neg (show ¬ h = 0 by assumption), if_pos (show h = 1 by assumption), nI_clamp (show j < 2 ^ 31 by omega)])⟩⟩), uSm_tM M x, wAt_tM hwx⟩
        · skip
          refine lv_aload_n S.1 S.2.1 dX11_purse_47 rfl (lv_at hl 1 rfl) ?_
          refine ug_r S hK Z (j := 3) 23 (by decide) rfl rfl rfl (by decide) iX11_purse_X11 qX11_purse_29 dX11_purse_48 ?_
          refine ug_r S hK Z (j := 0) 24 (by decide) rfl rfl rfl (by decide) iX11_purse_X9 qX11_purse_156 dX11_purse_51 ?_
          refine ug_r S hK Z (j := 4) 29 (by decide) rfl rfl rfl (by decide) iX11_purse_X10 qX11_purse_119 dX11_purse_54 ?_
          refine lv_iload_n S.1 S.2.1 dX11_purse_57 rfl (lv_at hl 2 rfl) ?_
          refine ud_Si (As := [.ref (G.2.2 29), .int (nI j)]) (rest := []) S hK hA Z (c_X5_at l G 29 8 j (by decide) rfl (by omega) (uPW (uTn M x.2.1 x.2.2.1 x.2.2.2.1 x.2.2.2.2.1 x.2.2.2.2.2.1 x.2.2.2.2.2.2.1 x.2.2.2.2.2.2.2) 24 x.1)) (va_cwS 2 S.2.2.2.2 gX11_purse_X5_at rfl rfl rfl (by decide +kernel) ⟨Nat.le_of_ble_eq_true rfl, Nat.le_of_ble_eq_true rfl⟩) rfl hl.1 rfl (Nat.le_of_ble_eq_true rfl) dX11_purse_58 ⟨Nat.zero_le _, Nat.zero_le _⟩ (fun H locs Z => ?_)
          refine utop (y := (nI (x.1 5 j))) (uPW_g (uTn M x.2.1 x.2.2.1 x.2.2.2.1 x.2.2.2.2.1 x.2.2.2.2.2.1 x.2.2.2.2.2.2.1 x.2.2.2.2.2.2.2) 24 x.1 j (j := 5) (by decide)) ?_
          refine uret_i S hK Z hre hlk dX11_purse_61 ?_
          exact ⟨Or.inr (Or.inr ⟨(by assumption), (by assumption), Or.inr ⟨_, x, hx, (by dsimp only; rw [if_neg (show ¬ (0 : Int32) = -3 by decide), if_pos (show h = 0 by assumption), nI_clamp (show j < 2 ^ 31 by omega)])⟩⟩), uSm_tM M x, wAt_tM hwx⟩
      · skip
        obtain ⟨x, hX⟩ : ∃ X, X = tRun s (t0 w) m := ⟨_, rfl⟩
        have hM0 : M_5 = tM M x := hX ▸ hM
        have hc : ¬ x.2.2.1 = -6 := hX ▸ hc
        rw [hM0] at Z
        have hx : rnOf s n w (-3) x := ⟨hF, m, hm, hX, Or.inr ⟨hc, rfl⟩⟩
        have hwx := rnOf_ok ho hw hx
        have Z := uZ_eq (show tM M x = (uPW (uTn M x.2.1 x.2.2.1 x.2.2.2.1 x.2.2.2.2.1 x.2.2.2.2.2.1 x.2.2.2.2.2.2.1 x.2.2.2.2.2.2.2) 24 x.1) from rfl) Z
        refine lv_istore_n (lv' := [(3, .int (-3)), (0, .ref (G.2.2 0)), (1, .int (nI j)), (2, .int h)]) S.1 S.2.1 dX11_purse_36 rfl hl (by decide) rfl (fun ls hl => ?_)
        refine lv_iload_n S.1 S.2.1 dX11_purse_37 rfl (lv_at hl 0 rfl) ?_
        refine lv_if_eq (tgt := 43) S.1 S.2.1 dX11_purse_38 (by decide) (fun c => absurd c (by decide)) (fun _ => ?_)
        refine lv_iload_n S.1 S.2.1 dX11_purse_41 rfl (lv_at hl 0 rfl) ?_
        refine uret_i S hK Z hre hlk dX11_purse_42 ?_
        exact ⟨Or.inr (Or.inr ⟨(by assumption), (by assumption), Or.inr ⟨_, x, hx, (by dsimp only; exact (if_pos rfl).symm)⟩⟩), uSm_tM M x, wAt_tM hwx⟩
    · skip
      rw [hM_3] at Z
      refine lv_if_ne (tgt := 21) S.1 S.2.1 dX11_purse_15 (by decide) (fun c => absurd c (by decide)) (fun _ => ?_)
      refine lv_bipush (v := (-2)) S.1 S.2.1 dX11_purse_18 (by decide) ?_
      refine uret_i S hK Z hre hlk dX11_purse_20 ?_
      exact ⟨Or.inr (Or.inl ⟨(by assumption), (by assumption), rfl⟩), uSm_rf _ _ _, ht⟩
  · skip
    rw [hM_1] at Z
    refine lv_if_ne (tgt := 9) S.1 S.2.1 dX11_purse_4 (by decide) (fun c => absurd c (by decide)) (fun _ => ?_)
    refine lv_iconst (v := (-1)) S.1 S.2.1 dX11_purse_7 (by decide) ?_
    refine uret_i S hK Z hre hlk dX11_purse_8 ?_
    exact ⟨Or.inl ⟨by assumption, rfl⟩, uSm_rf _ _ _, ht⟩
set_option maxHeartbeats 4000000 in
set_option maxRecDepth 100000 in
theorem c_X11_sold (l : Launch) (G : uG) (h : Int32) (M : uM) (w : Nat → Nat → Nat) (s : Nat → Nat) (n : Nat) (hr : uRd M 1 w) (hw : wOk w) (hp : pdAt M s n) (ho : pdOk s n) (ht : wAt M 24) : CTi l G yX11_sold wsX11_sold 6 145 [.ref (G.2.2 0), .int h] M (fun r M2 => SpSold s n w h r ∧ uSm 23 34 M M2 ∧ wAt M2 24) := by
  obtain ⟨a, fl, wy, sl, fs, ft, cm, wo, hT, hwo⟩ := trOk_ex ht
  refine ustart_i (cc := cX11_sold) (maxL := 3) (ret := (some .int)) (own := RX11) rfl (by decide) rfl (Nat.le_of_ble_eq_true rfl) ?_
  intro xp xe xs xm xa xb xt xc xA ls S hK hA Z hre hlk hl
  have hl : lv_has ls 3 [(0, .ref (G.2.2 0)), (1, .int h)] := hl
  refine lv_iload_n S.1 S.2.1 dX11_sold_0 rfl (lv_at hl 1 rfl) ?_
  refine lv_iconst (v := 0) S.1 S.2.1 dX11_sold_1 (by decide) ?_
  refine lv_iconst (v := 2) S.1 S.2.1 dX11_sold_2 (by decide) ?_
  refine uc_Si (As := [.int h, .int 0, .int 2]) (rest := []) S hK hA Z (c_X5_within l G h 0 2 M) (va_cwS 3 S.2.2.2.2 gX11_sold_X5_within rfl rfl rfl (by decide +kernel) ⟨Nat.le_of_ble_eq_true rfl, Nat.le_of_ble_eq_true rfl⟩) rfl hl.1 rfl (Nat.le_of_ble_eq_true rfl) dX11_sold_3 ⟨Nat.zero_le _, Nat.zero_le _⟩ (fun r_1 M_1 H locs hp Z => ?_)
  obtain ⟨⟨rfl, w_1⟩ | ⟨rfl, w_1⟩, hM_1⟩ := hp
  · skip
    rw [hM_1] at Z
    refine lv_if_ne (tgt := 12) S.1 S.2.1 dX11_sold_6 (by decide) (fun _ => ?_) (fun c => absurd c (by decide))
    have Z := uZ_eq hT.symm Z
    refine lv_aload_n S.1 S.2.1 dX11_sold_12 rfl (lv_at hl 0 rfl) ?_
    refine ug_r S hK Z (j := 3) 23 (by decide) rfl rfl rfl (by decide) iX11_sold_X11 qX11_sold_29 dX11_sold_13 ?_
    refine lv_aload_n S.1 S.2.1 dX11_sold_16 rfl (lv_at hl 0 rfl) ?_
    refine ug_r S hK Z (j := 0) 1 (by decide) rfl rfl rfl (by decide) iX11_sold_X11 qX11_sold_10 dX11_sold_17 ?_
    refine lv_aload_n S.1 S.2.1 dX11_sold_20 rfl (lv_at hl 0 rfl) ?_
    refine ug_r S hK Z (j := 2) 21 (by decide) rfl rfl rfl (by decide) iX11_sold_X11 qX11_sold_22 dX11_sold_21 ?_
    refine uc_Vi (As := [.ref (G.2.2 1), .ref (G.2.2 21)]) (rest := []) S hK hA Z (c_X9_run l G s n M wo a fl wy sl fs ft cm w hp ho hr hwo hw) (cwV 2 S.2.2.2.2 gX11_sold_X9_run rfl rfl rfl (by decide +kernel) ⟨Nat.le_of_ble_eq_true rfl, Nat.le_of_ble_eq_true rfl⟩) (by decide) rfl rfl rfl hl.1 rfl (Nat.le_of_ble_eq_true rfl) dX11_sold_24 ⟨Nat.zero_le _, Nat.zero_le _⟩ (fun r_3 M_3 H locs hp Z => ?_)
    obtain ⟨hF, rfl, hM⟩ | ⟨hF, m, hm, hM, ⟨hc, rfl⟩ | ⟨hc, rfl⟩⟩ := hp
    · skip
      rw [hM, hT] at Z
      refine lv_istore_n (lv' := [(2, .int (-5)), (0, .ref (G.2.2 0)), (1, .int h)]) S.1 S.2.1 dX11_sold_27 rfl hl (by decide) rfl (fun ls hl => ?_)
      refine lv_iload_n S.1 S.2.1 dX11_sold_28 rfl (lv_at hl 0 rfl) ?_
      refine lv_if_eq (tgt := 34) S.1 S.2.1 dX11_sold_29 (by decide) (fun c => absurd c (by decide)) (fun _ => ?_)
      refine lv_iload_n S.1 S.2.1 dX11_sold_32 rfl (lv_at hl 0 rfl) ?_
      refine uret_i S hK Z hre hlk dX11_sold_33 ?_
      exact ⟨Or.inr ⟨(by assumption), Or.inl ⟨hF, rfl⟩⟩, uSm_rf _ _ _, ht⟩
    · skip
      obtain ⟨x, hX⟩ : ∃ X, X = tRun s (t0 w) m := ⟨_, rfl⟩
      have hM0 : M_3 = tM M x := hX ▸ hM
      have hc :  x.2.2.1 = -6 := hX ▸ hc
      rw [hM0] at Z
      have hx : rnOf s n w (0) x := ⟨hF, m, hm, hX, Or.inl ⟨hc, rfl⟩⟩
      have hwx := rnOf_ok ho hw hx
      have Z := uZ_eq (show tM M x = (uPW (uTn M x.2.1 x.2.2.1 x.2.2.2.1 x.2.2.2.2.1 x.2.2.2.2.2.1 x.2.2.2.2.2.2.1 x.2.2.2.2.2.2.2) 24 x.1) from rfl) Z
      refine lv_istore_n (lv' := [(2, .int 0), (0, .ref (G.2.2 0)), (1, .int h)]) S.1 S.2.1 dX11_sold_27 rfl hl (by decide) rfl (fun ls hl => ?_)
      refine lv_iload_n S.1 S.2.1 dX11_sold_28 rfl (lv_at hl 0 rfl) ?_
      refine lv_if_eq (tgt := 34) S.1 S.2.1 dX11_sold_29 (by decide) (fun _ => ?_) (fun c => absurd c (by decide))
      refine lv_iload_n S.1 S.2.1 dX11_sold_34 rfl (lv_at hl 2 rfl) ?_
      refine lv_if_ne (tgt := 46) S.1 S.2.1 dX11_sold_35 (by decide) (fun c_6 => ?_) (fun c_6 => ?_)
      · skip
        refine lv_iload_n S.1 S.2.1 dX11_sold_46 rfl (lv_at hl 2 rfl) ?_
        refine lv_iconst (v := 1) S.1 S.2.1 dX11_sold_47 (by decide) ?_
        refine lv_icmp_ne (tgt := 61) S.1 S.2.1 dX11_sold_48 (by decide) (fun c_7 => ?_) (fun c_7 => ?_)
        · skip
          refine lv_aload_n S.1 S.2.1 dX11_sold_61 rfl (lv_at hl 1 rfl) ?_
          refine ug_r S hK Z (j := 3) 23 (by decide) rfl rfl rfl (by decide) iX11_sold_X11 qX11_sold_29 dX11_sold_62 ?_
          refine ug_i S hK Z (j := 7) (by decide) rfl rfl rfl (by decide) iX11_sold_X9 qX11_sold_178 dX11_sold_65 ?_
          refine utop (y := (nI x.2.2.2.2.2.2.2)) (uPW_o (uTn M x.2.1 x.2.2.1 x.2.2.2.1 x.2.2.2.2.1 x.2.2.2.2.2.1 x.2.2.2.2.2.2.1 x.2.2.2.2.2.2.2) 24 x.1 7 (a := 23) (Or.inl (by decide))) ?_
          refine uret_i S hK Z hre hlk dX11_sold_68 ?_
          first | exact ⟨Or.inr ⟨(by assumption), Or.inr ⟨_, x, hx, (by dsimp only; exact (if_neg (by decide)).trans ((if_neg (show ¬ h = 0 by assumption)).trans (if_pos (show h = 1 by assumption))) |>.symm)⟩⟩, uSm_tM M x, wAt_tM hwx⟩ | exact ⟨Or.inr ⟨(by assumption), Or.inr ⟨_, x, hx, (by dsimp only; exact (if_neg (by decide)).trans ((if_neg (show ¬ h = 0 by assumption)).trans (if_neg (show ¬ h = 1 by assumption))) |>.symm)⟩⟩, uSm_tM M x, wAt_tM hwx⟩
        · skip
          refine lv_aload_n S.1 S.2.1 dX11_sold_51 rfl (lv_at hl 1 rfl) ?_
          refine ug_r S hK Z (j := 3) 23 (by decide) rfl rfl rfl (by decide) iX11_sold_X11 qX11_sold_29 dX11_sold_52 ?_
          refine ug_i S hK Z (j := 6) (by decide) rfl rfl rfl (by decide) iX11_sold_X9 qX11_sold_175 dX11_sold_55 ?_
          refine utop (y := x.2.2.2.2.2.2.1) (uPW_o (uTn M x.2.1 x.2.2.1 x.2.2.2.1 x.2.2.2.2.1 x.2.2.2.2.2.1 x.2.2.2.2.2.2.1 x.2.2.2.2.2.2.2) 24 x.1 6 (a := 23) (Or.inl (by decide))) ?_
          refine lv_goto (tgt := 68) S.1 S.2.1 dX11_sold_58 (by decide) ?_
          refine uret_i S hK Z hre hlk dX11_sold_68 ?_
          first | exact ⟨Or.inr ⟨(by assumption), Or.inr ⟨_, x, hx, (by dsimp only; exact (if_neg (by decide)).trans ((if_neg (show ¬ h = 0 by assumption)).trans (if_pos (show h = 1 by assumption))) |>.symm)⟩⟩, uSm_tM M x, wAt_tM hwx⟩ | exact ⟨Or.inr ⟨(by assumption), Or.inr ⟨_, x, hx, (by dsimp only; exact (if_neg (by decide)).trans ((if_neg (show ¬ h = 0 by assumption)).trans (if_neg (show ¬ h = 1 by assumption))) |>.symm)⟩⟩, uSm_tM M x, wAt_tM hwx⟩
      · skip
        refine lv_aload_n S.1 S.2.1 dX11_sold_38 rfl (lv_at hl 1 rfl) ?_
        refine ug_r S hK Z (j := 3) 23 (by decide) rfl rfl rfl (by decide) iX11_sold_X11 qX11_sold_29 dX11_sold_39 ?_
        refine ug_i S hK Z (j := 5) (by decide) rfl rfl rfl (by decide) iX11_sold_X9 qX11_sold_172 dX11_sold_42 ?_
        refine utop (y := x.2.2.2.2.2.1) (uPW_o (uTn M x.2.1 x.2.2.1 x.2.2.2.1 x.2.2.2.2.1 x.2.2.2.2.2.1 x.2.2.2.2.2.2.1 x.2.2.2.2.2.2.2) 24 x.1 5 (a := 23) (Or.inl (by decide))) ?_
        refine uret_i S hK Z hre hlk dX11_sold_45 ?_
        exact ⟨Or.inr ⟨(by assumption), Or.inr ⟨_, x, hx, (by dsimp only; exact (if_neg (by decide)).trans (if_pos (show h = 0 by assumption)) |>.symm)⟩⟩, uSm_tM M x, wAt_tM hwx⟩
    · skip
      obtain ⟨x, hX⟩ : ∃ X, X = tRun s (t0 w) m := ⟨_, rfl⟩
      have hM0 : M_3 = tM M x := hX ▸ hM
      have hc : ¬ x.2.2.1 = -6 := hX ▸ hc
      rw [hM0] at Z
      have hx : rnOf s n w (-3) x := ⟨hF, m, hm, hX, Or.inr ⟨hc, rfl⟩⟩
      have hwx := rnOf_ok ho hw hx
      have Z := uZ_eq (show tM M x = (uPW (uTn M x.2.1 x.2.2.1 x.2.2.2.1 x.2.2.2.2.1 x.2.2.2.2.2.1 x.2.2.2.2.2.2.1 x.2.2.2.2.2.2.2) 24 x.1) from rfl) Z
      refine lv_istore_n (lv' := [(2, .int (-3)), (0, .ref (G.2.2 0)), (1, .int h)]) S.1 S.2.1 dX11_sold_27 rfl hl (by decide) rfl (fun ls hl => ?_)
      refine lv_iload_n S.1 S.2.1 dX11_sold_28 rfl (lv_at hl 0 rfl) ?_
      refine lv_if_eq (tgt := 34) S.1 S.2.1 dX11_sold_29 (by decide) (fun c => absurd c (by decide)) (fun _ => ?_)
      refine lv_iload_n S.1 S.2.1 dX11_sold_32 rfl (lv_at hl 0 rfl) ?_
      refine uret_i S hK Z hre hlk dX11_sold_33 ?_
      exact ⟨Or.inr ⟨(by assumption), Or.inr ⟨_, x, hx, (by dsimp only; exact (if_pos rfl).symm)⟩⟩, uSm_tM M x, wAt_tM hwx⟩
  · skip
    rw [hM_1] at Z
    refine lv_if_ne (tgt := 12) S.1 S.2.1 dX11_sold_6 (by decide) (fun c => absurd c (by decide)) (fun _ => ?_)
    refine lv_bipush (v := (-2)) S.1 S.2.1 dX11_sold_9 (by decide) ?_
    refine uret_i S hK Z hre hlk dX11_sold_11 ?_
    exact ⟨Or.inl ⟨by assumption, rfl⟩, uSm_rf _ _ _, ht⟩
set_option maxHeartbeats 4000000 in
set_option maxRecDepth 100000 in
theorem c_X11_done (l : Launch) (G : uG) (M : uM) (w : Nat → Nat → Nat) (s : Nat → Nat) (n : Nat) (hr : uRd M 1 w) (hw : wOk w) (hp : pdAt M s n) (ho : pdOk s n) (ht : wAt M 24) : CTi l G yX11_done wsX11_done 6 145 [.ref (G.2.2 0)] M (fun r M2 => (¬ cFault s n = -6 ∧ r = -5 ∧ M2 = M) ∨ (∃ x, rnOf s n w (-3) x ∧ r = -3 ∧ M2 = tM M x) ∨ (∃ x, rnOf s n w 0 x ∧ r = nI x.2.1 ∧ M2 = u1 (uPW (tM M x) 1 x.1) 21 1 0)) := by
  obtain ⟨a, fl, wy, sl, fs, ft, cm, wo, hT, hwo⟩ := trOk_ex ht
  refine ustart_i (cc := cX11_done) (maxL := 2) (ret := (some .int)) (own := RX11) rfl (by decide) rfl (Nat.le_of_ble_eq_true rfl) ?_
  intro xp xe xs xm xa xb xt xc xA ls S hK hA Z hre hlk hl
  have hl : lv_has ls 2 [(0, .ref (G.2.2 0))] := hl
  have Z := uZ_eq hT.symm Z
  refine lv_aload_n S.1 S.2.1 dX11_done_0 rfl (lv_at hl 0 rfl) ?_
  refine ug_r S hK Z (j := 3) 23 (by decide) rfl rfl rfl (by decide) iX11_done_X11 qX11_done_29 dX11_done_1 ?_
  refine lv_aload_n S.1 S.2.1 dX11_done_4 rfl (lv_at hl 0 rfl) ?_
  refine ug_r S hK Z (j := 0) 1 (by decide) rfl rfl rfl (by decide) iX11_done_X11 qX11_done_10 dX11_done_5 ?_
  refine lv_aload_n S.1 S.2.1 dX11_done_8 rfl (lv_at hl 0 rfl) ?_
  refine ug_r S hK Z (j := 2) 21 (by decide) rfl rfl rfl (by decide) iX11_done_X11 qX11_done_22 dX11_done_9 ?_
  refine uc_Vi (As := [.ref (G.2.2 1), .ref (G.2.2 21)]) (rest := []) S hK hA Z (c_X9_run l G s n M wo a fl wy sl fs ft cm w hp ho hr hwo hw) (cwV 2 S.2.2.2.2 gX11_done_X9_run rfl rfl rfl (by decide +kernel) ⟨Nat.le_of_ble_eq_true rfl, Nat.le_of_ble_eq_true rfl⟩) (by decide) rfl rfl rfl hl.1 rfl (Nat.le_of_ble_eq_true rfl) dX11_done_12 ⟨Nat.zero_le _, Nat.zero_le _⟩ (fun r_1 M_1 H locs hp Z => ?_)
  obtain ⟨hF, rfl, hM⟩ | ⟨hF, m, hm, hM, ⟨hc, rfl⟩ | ⟨hc, rfl⟩⟩ := hp
  · skip
    rw [hM, hT] at Z
    refine lv_istore_n (lv' := [(1, .int (-5)), (0, .ref (G.2.2 0))]) S.1 S.2.1 dX11_done_15 rfl hl (by decide) rfl (fun ls hl => ?_)
    refine lv_iload_n S.1 S.2.1 dX11_done_16 rfl (lv_at hl 0 rfl) ?_
    refine lv_if_eq (tgt := 22) S.1 S.2.1 dX11_done_17 (by decide) (fun c => absurd c (by decide)) (fun _ => ?_)
    refine lv_iload_n S.1 S.2.1 dX11_done_20 rfl (lv_at hl 0 rfl) ?_
    refine uret_i S hK Z hre hlk dX11_done_21 ?_
    exact Or.inl ⟨hF, rfl, rfl⟩
  · skip
    obtain ⟨x, hX⟩ : ∃ X, X = tRun s (t0 w) m := ⟨_, rfl⟩
    have hM0 : M_1 = tM M x := hX ▸ hM
    have hc :  x.2.2.1 = -6 := hX ▸ hc
    rw [hM0] at Z
    have hx : rnOf s n w (0) x := ⟨hF, m, hm, hX, Or.inl ⟨hc, rfl⟩⟩
    have hwx := rnOf_ok ho hw hx
    have Z := uZ_eq (show tM M x = (uPW (uTn M x.2.1 x.2.2.1 x.2.2.2.1 x.2.2.2.2.1 x.2.2.2.2.2.1 x.2.2.2.2.2.2.1 x.2.2.2.2.2.2.2) 24 x.1) from rfl) Z
    refine lv_istore_n (lv' := [(1, .int 0), (0, .ref (G.2.2 0))]) S.1 S.2.1 dX11_done_15 rfl hl (by decide) rfl (fun ls hl => ?_)
    refine lv_iload_n S.1 S.2.1 dX11_done_16 rfl (lv_at hl 0 rfl) ?_
    refine lv_if_eq (tgt := 22) S.1 S.2.1 dX11_done_17 (by decide) (fun _ => ?_) (fun c => absurd c (by decide))
    have Z := uZ_eq (show (uPW (uTn M x.2.1 x.2.2.1 x.2.2.2.1 x.2.2.2.2.1 x.2.2.2.2.2.1 x.2.2.2.2.2.2.1 x.2.2.2.2.2.2.2) 24 x.1) = tM M x from rfl) Z
    have Z := uZ_eq (uPW_id (uRd_tM hr x)).symm Z
    refine lv_aload_n S.1 S.2.1 dX11_done_22 rfl (lv_at hl 1 rfl) ?_
    refine ug_r S hK Z (j := 0) 1 (by decide) rfl rfl rfl (by decide) iX11_done_X11 qX11_done_10 dX11_done_23 ?_
    refine lv_aload_n S.1 S.2.1 dX11_done_26 rfl (lv_at hl 1 rfl) ?_
    refine ug_r S hK Z (j := 3) 23 (by decide) rfl rfl rfl (by decide) iX11_done_X11 qX11_done_29 dX11_done_27 ?_
    refine ug_r S hK Z (j := 0) 24 (by decide) rfl rfl rfl (by decide) iX11_done_X9 qX11_done_156 dX11_done_30 ?_
    refine ud_Vv (As := [.ref (G.2.2 24)]) (rest := []) S hK hA Z (c_X10_copy l G 1 24 (by unfold uIsW; omega) (by unfold uIsW; omega) (by omega) (tM M x) w x.1 (uPW_rd _ _ _) (wOk_z hw) (wOk_z hwx)) (cwV 1 S.2.2.2.2 gX11_done_X10_copy rfl rfl rfl (by decide +kernel) ⟨Nat.le_of_ble_eq_true rfl, Nat.le_of_ble_eq_true rfl⟩) (by decide) rfl rfl rfl hl.1 rfl (Nat.le_of_ble_eq_true rfl) dX11_done_33 ⟨Nat.zero_le _, Nat.zero_le _⟩ (fun H locs Z => ?_)
    refine lv_aload_n S.1 S.2.1 dX11_done_36 rfl (lv_at hl 1 rfl) ?_
    refine ug_r S hK Z (j := 2) 21 (by decide) rfl rfl rfl (by decide) iX11_done_X11 qX11_done_22 dX11_done_37 ?_
    refine lv_iconst (v := 0) S.1 S.2.1 dX11_done_40 (by decide) ?_
    refine up_i S hK Z (j := 1) (by decide) rfl rfl rfl (by decide) iX11_done_X3 tyX3_ok nmX3 qX11_done_133 rfl rfl rfl dX11_done_41 (fun H locs Z => ?_)
    refine lv_aload_n S.1 S.2.1 dX11_done_44 rfl (lv_at hl 1 rfl) ?_
    refine ug_r S hK Z (j := 3) 23 (by decide) rfl rfl rfl (by decide) iX11_done_X11 qX11_done_29 dX11_done_45 ?_
    refine ug_i S hK Z (j := 1) (by decide) rfl rfl rfl (by decide) iX11_done_X9 qX11_done_185 dX11_done_48 ?_
    refine utop (y := nI x.2.1) rfl ?_
    refine uret_i S hK Z hre hlk dX11_done_51 ?_
    exact Or.inr (Or.inr ⟨x, hx, rfl, rfl⟩)
  · skip
    obtain ⟨x, hX⟩ : ∃ X, X = tRun s (t0 w) m := ⟨_, rfl⟩
    have hM0 : M_1 = tM M x := hX ▸ hM
    have hc : ¬ x.2.2.1 = -6 := hX ▸ hc
    rw [hM0] at Z
    have hx : rnOf s n w (-3) x := ⟨hF, m, hm, hX, Or.inr ⟨hc, rfl⟩⟩
    have hwx := rnOf_ok ho hw hx
    have Z := uZ_eq (show tM M x = (uPW (uTn M x.2.1 x.2.2.1 x.2.2.2.1 x.2.2.2.2.1 x.2.2.2.2.2.1 x.2.2.2.2.2.2.1 x.2.2.2.2.2.2.2) 24 x.1) from rfl) Z
    refine lv_istore_n (lv' := [(1, .int (-3)), (0, .ref (G.2.2 0))]) S.1 S.2.1 dX11_done_15 rfl hl (by decide) rfl (fun ls hl => ?_)
    refine lv_iload_n S.1 S.2.1 dX11_done_16 rfl (lv_at hl 0 rfl) ?_
    refine lv_if_eq (tgt := 22) S.1 S.2.1 dX11_done_17 (by decide) (fun c => absurd c (by decide)) (fun _ => ?_)
    refine lv_iload_n S.1 S.2.1 dX11_done_20 rfl (lv_at hl 0 rfl) ?_
    refine uret_i S hK Z hre hlk dX11_done_21 ?_
    exact Or.inr (Or.inl ⟨x, hx, rfl, rfl⟩)
theorem c_X10_act (l : Launch) (G : uG) (b : Nat) (hb : uIsW b) (M : uM) (w : Nat → Nat → Nat) (kd k t q : Nat) (hkd : kd ≤ 4) (hk : k < 8) (ht : t < 12) (hq : q < 8) (hw : wOk w) : CTi l G yX10_act wsX10_act 3 69 [.ref (G.2.2 b), .int (nI kd), .int (nI k), .int (nI t), .int (nI q)] (uPW M b w) (fun r M2 => r = nI (ac w kd k t q).1 ∧ M2 = uPW M b (ac w kd k t q).2) := by
  rcases (show kd = 0 ∨ kd = 1 ∨ kd = 2 ∨ kd = 3 ∨ kd = 4 by omega) with rfl | rfl | rfl | rfl | rfl
  · exact c_X10_act0 l G b hb M w k t q _ hk ht hw
  · exact c_X10_act1 l G b hb M w k t q hk ht hq hw
  · exact c_X10_act2 l G b hb M w k t q hk ht hq hw
  · exact c_X10_act3 l G b hb M w k t q _ _ hk hw
  · exact c_X10_act4 l G b hb M w k t q _ _ _ hw
set_option maxHeartbeats 4000000 in
set_option maxRecDepth 100000 in
theorem c_X11_kindInYear (l : Launch) (G : uG) (d : Nat) (hd : d < 8) (M : uM) : CTi l G yX11_kindInYear wsX11_kindInYear 0 0 [.int (nI d)] M (fun r M2 => r = nI (yk d) ∧ M2 = M) := by
  refine ustart_i (cc := cX11_kindInYear) (maxL := 1) (ret := (some .int)) (own := RX11) rfl (by decide) rfl (Nat.le_of_ble_eq_true rfl) ?_
  intro xp xe xs xm xa xb xt xc xA ls S hK hA Z hre hlk hl
  have hl : lv_has ls 1 [(0, .int (nI d))] := hl
  refine lv_iload_n S.1 S.2.1 dX11_kindInYear_0 rfl (lv_at hl 0 rfl) ?_
  by_cases k_1 : (nI d) = 0
  · skip
    refine utop k_1 ?_
    have k_1 : d = 0 := (nI_eq (a := d) (b := 0) (by omega) (by omega)).mp k_1
    refine lv_tableIn (tgt := 40) S.1 S.2.1 dX11_kindInYear_1 (by decide) (by decide) rfl (by decide) ?_
    refine lv_iconst (v := 0) S.1 S.2.1 dX11_kindInYear_40 (by decide) ?_
    refine uret_i S hK Z hre hlk dX11_kindInYear_41 ?_
    refine ⟨?_, rfl⟩
    unfold yk
    first
      | (rw [if_pos (by omega)]; rfl)
      | (rw [if_neg (by omega), if_pos (by omega)]; rfl)
      | (rw [if_neg (by omega), if_neg (by omega), if_pos (by omega)]; rfl)
      | (rw [if_neg (by omega), if_neg (by omega), if_neg (by omega), if_pos (by omega)]; rfl)
      | (rw [if_neg (by omega), if_neg (by omega), if_neg (by omega), if_neg (by omega)]; rfl)
  · skip
    have jk_1 : ¬ d = 0 := fun z9 => k_1 ((nI_eq (a := d) (b := 0) (by omega) (by omega)).mpr z9)
    by_cases k_2 : (nI d) = 1
    · skip
      refine utop k_2 ?_
      have k_2 : d = 1 := (nI_eq (a := d) (b := 1) (by omega) (by omega)).mp k_2
      refine lv_tableIn (tgt := 40) S.1 S.2.1 dX11_kindInYear_1 (by decide) (by decide) rfl (by decide) ?_
      refine lv_iconst (v := 0) S.1 S.2.1 dX11_kindInYear_40 (by decide) ?_
      refine uret_i S hK Z hre hlk dX11_kindInYear_41 ?_
      refine ⟨?_, rfl⟩
      unfold yk
      first
        | (rw [if_pos (by omega)]; rfl)
        | (rw [if_neg (by omega), if_pos (by omega)]; rfl)
        | (rw [if_neg (by omega), if_neg (by omega), if_pos (by omega)]; rfl)
        | (rw [if_neg (by omega), if_neg (by omega), if_neg (by omega), if_pos (by omega)]; rfl)
        | (rw [if_neg (by omega), if_neg (by omega), if_neg (by omega), if_neg (by omega)]; rfl)
    · skip
      have jk_2 : ¬ d = 1 := fun z9 => k_2 ((nI_eq (a := d) (b := 1) (by omega) (by omega)).mpr z9)
      by_cases k_3 : (nI d) = 2
      · skip
        refine utop k_3 ?_
        have k_3 : d = 2 := (nI_eq (a := d) (b := 2) (by omega) (by omega)).mp k_3
        refine lv_tableIn (tgt := 40) S.1 S.2.1 dX11_kindInYear_1 (by decide) (by decide) rfl (by decide) ?_
        refine lv_iconst (v := 0) S.1 S.2.1 dX11_kindInYear_40 (by decide) ?_
        refine uret_i S hK Z hre hlk dX11_kindInYear_41 ?_
        refine ⟨?_, rfl⟩
        unfold yk
        first
          | (rw [if_pos (by omega)]; rfl)
          | (rw [if_neg (by omega), if_pos (by omega)]; rfl)
          | (rw [if_neg (by omega), if_neg (by omega), if_pos (by omega)]; rfl)
          | (rw [if_neg (by omega), if_neg (by omega), if_neg (by omega), if_pos (by omega)]; rfl)
          | (rw [if_neg (by omega), if_neg (by omega), if_neg (by omega), if_neg (by omega)]; rfl)
      · skip
        have jk_3 : ¬ d = 2 := fun z9 => k_3 ((nI_eq (a := d) (b := 2) (by omega) (by omega)).mpr z9)
        by_cases k_4 : (nI d) = 3
        · skip
          refine utop k_4 ?_
          have k_4 : d = 3 := (nI_eq (a := d) (b := 3) (by omega) (by omega)).mp k_4
          refine lv_tableIn (tgt := 42) S.1 S.2.1 dX11_kindInYear_1 (by decide) (by decide) rfl (by decide) ?_
          refine lv_iconst (v := 1) S.1 S.2.1 dX11_kindInYear_42 (by decide) ?_
          refine uret_i S hK Z hre hlk dX11_kindInYear_43 ?_
          refine ⟨?_, rfl⟩
          unfold yk
          first
            | (rw [if_pos (by omega)]; rfl)
            | (rw [if_neg (by omega), if_pos (by omega)]; rfl)
            | (rw [if_neg (by omega), if_neg (by omega), if_pos (by omega)]; rfl)
            | (rw [if_neg (by omega), if_neg (by omega), if_neg (by omega), if_pos (by omega)]; rfl)
            | (rw [if_neg (by omega), if_neg (by omega), if_neg (by omega), if_neg (by omega)]; rfl)
        · skip
          have jk_4 : ¬ d = 3 := fun z9 => k_4 ((nI_eq (a := d) (b := 3) (by omega) (by omega)).mpr z9)
          by_cases k_5 : (nI d) = 4
          · skip
            refine utop k_5 ?_
            have k_5 : d = 4 := (nI_eq (a := d) (b := 4) (by omega) (by omega)).mp k_5
            refine lv_tableIn (tgt := 44) S.1 S.2.1 dX11_kindInYear_1 (by decide) (by decide) rfl (by decide) ?_
            refine lv_iconst (v := 2) S.1 S.2.1 dX11_kindInYear_44 (by decide) ?_
            refine uret_i S hK Z hre hlk dX11_kindInYear_45 ?_
            refine ⟨?_, rfl⟩
            unfold yk
            first
              | (rw [if_pos (by omega)]; rfl)
              | (rw [if_neg (by omega), if_pos (by omega)]; rfl)
              | (rw [if_neg (by omega), if_neg (by omega), if_pos (by omega)]; rfl)
              | (rw [if_neg (by omega), if_neg (by omega), if_neg (by omega), if_pos (by omega)]; rfl)
              | (rw [if_neg (by omega), if_neg (by omega), if_neg (by omega), if_neg (by omega)]; rfl)
          · skip
            have jk_5 : ¬ d = 4 := fun z9 => k_5 ((nI_eq (a := d) (b := 4) (by omega) (by omega)).mpr z9)
            by_cases k_6 : (nI d) = 5
            · skip
              refine utop k_6 ?_
              have k_6 : d = 5 := (nI_eq (a := d) (b := 5) (by omega) (by omega)).mp k_6
              refine lv_tableIn (tgt := 46) S.1 S.2.1 dX11_kindInYear_1 (by decide) (by decide) rfl (by decide) ?_
              refine lv_iconst (v := 3) S.1 S.2.1 dX11_kindInYear_46 (by decide) ?_
              refine uret_i S hK Z hre hlk dX11_kindInYear_47 ?_
              refine ⟨?_, rfl⟩
              unfold yk
              first
                | (rw [if_pos (by omega)]; rfl)
                | (rw [if_neg (by omega), if_pos (by omega)]; rfl)
                | (rw [if_neg (by omega), if_neg (by omega), if_pos (by omega)]; rfl)
                | (rw [if_neg (by omega), if_neg (by omega), if_neg (by omega), if_pos (by omega)]; rfl)
                | (rw [if_neg (by omega), if_neg (by omega), if_neg (by omega), if_neg (by omega)]; rfl)
            · skip
              have jk_6 : ¬ d = 5 := fun z9 => k_6 ((nI_eq (a := d) (b := 5) (by omega) (by omega)).mpr z9)
              have tk_1 := lv_neT k_1 (show (0 : Int32).toInt = 0 from by decide)
              have tk_2 := lv_neT k_2 (show (1 : Int32).toInt = 1 from by decide)
              have tk_3 := lv_neT k_3 (show (2 : Int32).toInt = 2 from by decide)
              have tk_4 := lv_neT k_4 (show (3 : Int32).toInt = 3 from by decide)
              have tk_5 := lv_neT k_5 (show (4 : Int32).toInt = 4 from by decide)
              have tk_6 := lv_neT k_6 (show (5 : Int32).toInt = 5 from by decide)
              refine lv_tableOut (tgt := 48) S.1 S.2.1 dX11_kindInYear_1 (by omega) (by decide) ?_
              refine lv_iconst (v := 4) S.1 S.2.1 dX11_kindInYear_48 (by decide) ?_
              refine uret_i S hK Z hre hlk dX11_kindInYear_49 ?_
              refine ⟨?_, rfl⟩
              unfold yk
              first
                | (rw [if_pos (by omega)]; rfl)
                | (rw [if_neg (by omega), if_pos (by omega)]; rfl)
                | (rw [if_neg (by omega), if_neg (by omega), if_pos (by omega)]; rfl)
                | (rw [if_neg (by omega), if_neg (by omega), if_neg (by omega), if_pos (by omega)]; rfl)
                | (rw [if_neg (by omega), if_neg (by omega), if_neg (by omega), if_neg (by omega)]; rfl)
set_option maxHeartbeats 4000000 in
set_option maxRecDepth 100000 in
theorem c_X11_liveThrough (l : Launch) (G : uG) (h n : Nat) (hh : h ≤ 65536) (hn : n ≤ 99) (M : uM) (w : Nat → Nat → Nat) (hw : wOk w) : CTv l G yX11_liveThrough wsX11_liveThrough 4 93 [.ref (G.2.2 11), .int (nI h), .int (nI n)] (uPW M 11 w) (fun M2 => M2 = uPW M 11 (yr n (h, w)).2) := by
  refine ustart_v (cc := cX11_liveThrough) (maxL := 6) (ret := none) (own := RX11) rfl (by decide) rfl (Nat.le_of_ble_eq_true rfl) ?_
  intro xp xe xs xm xa xb xt xc xA ls S hK hA Z hre hlk hl
  have hl : lv_has ls 6 [(0, .ref (G.2.2 11)), (1, .int (nI h)), (2, .int (nI n))] := hl
  refine lv_iload_n S.1 S.2.1 dX11_liveThrough_0 rfl (lv_at hl 1 rfl) ?_
  refine lv_istore_n (lv' := [(3, .int (nI h)), (0, .ref (G.2.2 11)), (1, .int (nI h)), (2, .int (nI n))]) S.1 S.2.1 dX11_liveThrough_1 rfl hl (by decide) rfl (fun ls hl => ?_)
  refine lv_iconst (v := 0) S.1 S.2.1 dX11_liveThrough_2 (by decide) ?_
  refine lv_istore (lv' := [(4, .int 0), (3, .int (nI h)), (0, .ref (G.2.2 11)), (1, .int (nI h)), (2, .int (nI n))]) S.1 S.2.1 dX11_liveThrough_3 hl (by decide) rfl (fun ls hl => ?_)
  have LP5 : ∀ (fU : Nat) (h1 : Nat) (i : Nat) (w1 : Nat → Nat → Nat), (n < i + fU) → (i ≤ n ∧ h1 ≤ 65536) → ((h1, w1) = yr i (h, w)) → (wOk w1) → ∀ (H : Heap) (locs : List Loc) (ls : Array Slot), uZ G xA (uPW M 11 w1) xs.heap H locs → lv_has ls 6 [(4, .int (nI i)), (3, .int (nI h1)), (0, .ref (G.2.2 11)), (1, .int (nI h)), (2, .int (nI n))] → W xp l xe (uRm 4 93) xs xm xa xb xt xc H locs 0 0 (MQ xb (va_Qv (fun M2 => M2 = uPW M 11 (yr n (h, w)).2) (fun M' t => uB G M' t) xA) xa xs 0 0 xA) (F0 xm 5 ls []) := by
    intro fU
    induction fU with
    | zero =>
      intro h1 i w1 hfl i1 i2 i3 H locs ls Z hl
      exfalso
      omega
    | succ fU ih5 =>
      intro h1 i w1 hfl i1 i2 i3 H locs ls Z hl
      refine lv_iload S.1 S.2.1 dX11_liveThrough_5 (lv_at hl 0 rfl) ?_
      refine lv_iload_n S.1 S.2.1 dX11_liveThrough_7 rfl (lv_at hl 4 rfl) ?_
      refine lv_icmp_ge (tgt := 67) S.1 S.2.1 dX11_liveThrough_8 (by decide) (fun c_1 => ?_) (fun c_1 => ?_)
      · skip
        have c_1 : n ≤ i := (nI_leI (a := n) (b := i) (by omega) (by omega)).mp c_1
        refine uret_v S hK Z hre hlk dX11_liveThrough_67 ?_
        obtain rfl : i = n := by omega
        rw [← i2]
      · skip
        have c_1 : ¬ n ≤ i := fun z9 => c_1 ((nI_leI (a := n) (b := i) (by omega) (by omega)).mpr z9)
        refine lv_bipush (v := 75) S.1 S.2.1 dX11_liveThrough_11 (by decide) ?_
        refine lv_iload_n S.1 S.2.1 dX11_liveThrough_13 rfl (lv_at hl 1 rfl) ?_
        refine lv_imul S.1 S.2.1 dX11_liveThrough_14 ?_
        refine utop (pk_mul 75 h1) ?_
        refine lv_bipush (v := 74) S.1 S.2.1 dX11_liveThrough_15 (by decide) ?_
        refine lv_iadd S.1 S.2.1 dX11_liveThrough_17 ?_
        refine utop (nI_add (75 * h1) 74) ?_
        refine lv_ldcw (v := 65537) S.1 S.2.1 S.2.2.2.1 (S.2.2.2.2 _ qX11_liveThrough_301) dX11_liveThrough_18 ?_
        refine lv_irem S.1 S.2.1 dX11_liveThrough_21 (by decide) ?_
        refine utop (pk_rem (a := ((75 * h1) + 74)) (d := 65537) (by omega) (by omega) (by omega)) ?_
        refine lv_istore_n (lv' := [(3, .int (nI (((75 * h1) + 74) % 65537))), (4, .int (nI i)), (0, .ref (G.2.2 11)), (1, .int (nI h)), (2, .int (nI n))]) S.1 S.2.1 dX11_liveThrough_22 rfl hl (by decide) rfl (fun ls hl => ?_)
        refine lv_iload_n S.1 S.2.1 dX11_liveThrough_23 rfl (lv_at hl 0 rfl) ?_
        refine lv_bipush (v := 64) S.1 S.2.1 dX11_liveThrough_24 (by decide) ?_
        refine lv_idiv S.1 S.2.1 dX11_liveThrough_26 (by decide) ?_
        refine utop (pk_div (a := (((75 * h1) + 74) % 65537)) (d := 64) (by omega) (by omega) (by omega)) ?_
        refine lv_istore (lv' := [(5, .int (nI ((((75 * h1) + 74) % 65537) / 64))), (3, .int (nI (((75 * h1) + 74) % 65537))), (4, .int (nI i)), (0, .ref (G.2.2 11)), (1, .int (nI h)), (2, .int (nI n))]) S.1 S.2.1 dX11_liveThrough_27 hl (by decide) rfl (fun ls hl => ?_)
        refine lv_aload_n S.1 S.2.1 dX11_liveThrough_29 rfl (lv_at hl 3 rfl) ?_
        refine lv_iload_n S.1 S.2.1 dX11_liveThrough_30 rfl (lv_at hl 1 rfl) ?_
        refine lv_bipush (v := 8) S.1 S.2.1 dX11_liveThrough_31 (by decide) ?_
        refine lv_idiv S.1 S.2.1 dX11_liveThrough_33 (by decide) ?_
        refine utop (pk_div (a := (((75 * h1) + 74) % 65537)) (d := 8) (by omega) (by omega) (by omega)) ?_
        refine lv_bipush (v := 8) S.1 S.2.1 dX11_liveThrough_34 (by decide) ?_
        refine lv_irem S.1 S.2.1 dX11_liveThrough_36 (by decide) ?_
        refine utop (pk_rem (a := ((((75 * h1) + 74) % 65537) / 8)) (d := 8) (by omega) (by omega) (by omega)) ?_
        refine ud_Si (As := [.int (nI (((((75 * h1) + 74) % 65537) / 8) % 8))]) (rest := [.ref (G.2.2 11)]) S hK hA Z (c_X11_kindInYear l G (((((75 * h1) + 74) % 65537) / 8) % 8) (by omega) (uPW M 11 w1)) (va_cwS 1 S.2.2.2.2 gX11_liveThrough_X11_kindInYear rfl rfl rfl (by decide +kernel) ⟨Nat.le_of_ble_eq_true rfl, Nat.le_of_ble_eq_true rfl⟩) rfl hl.1 rfl (Nat.le_of_ble_eq_true rfl) dX11_liveThrough_37 ⟨Nat.zero_le _, Nat.zero_le _⟩ (fun H locs Z => ?_)
        have hyk := yk_le (((((75 * h1) + 74) % 65537) / 8) % 8)
        refine lv_iload_n S.1 S.2.1 dX11_liveThrough_40 rfl (lv_at hl 1 rfl) ?_
        refine lv_bipush (v := 8) S.1 S.2.1 dX11_liveThrough_41 (by decide) ?_
        refine lv_irem S.1 S.2.1 dX11_liveThrough_43 (by decide) ?_
        refine utop (pk_rem (a := (((75 * h1) + 74) % 65537)) (d := 8) (by omega) (by omega) (by omega)) ?_
        refine lv_iload S.1 S.2.1 dX11_liveThrough_44 (lv_at hl 0 rfl) ?_
        refine lv_bipush (v := 12) S.1 S.2.1 dX11_liveThrough_46 (by decide) ?_
        refine lv_irem S.1 S.2.1 dX11_liveThrough_48 (by decide) ?_
        refine utop (pk_rem (a := ((((75 * h1) + 74) % 65537) / 64)) (d := 12) (by omega) (by omega) (by omega)) ?_
        refine lv_iload S.1 S.2.1 dX11_liveThrough_49 (lv_at hl 0 rfl) ?_
        refine lv_bipush (v := 12) S.1 S.2.1 dX11_liveThrough_51 (by decide) ?_
        refine lv_idiv S.1 S.2.1 dX11_liveThrough_53 (by decide) ?_
        refine utop (pk_div (a := ((((75 * h1) + 74) % 65537) / 64)) (d := 12) (by omega) (by omega) (by omega)) ?_
        refine lv_bipush (v := 8) S.1 S.2.1 dX11_liveThrough_54 (by decide) ?_
        refine lv_irem S.1 S.2.1 dX11_liveThrough_56 (by decide) ?_
        refine utop (pk_rem (a := (((((75 * h1) + 74) % 65537) / 64) / 12)) (d := 8) (by omega) (by omega) (by omega)) ?_
        refine ud_Vi (As := [.int (nI (yk (((((75 * h1) + 74) % 65537) / 8) % 8))), .int (nI ((((75 * h1) + 74) % 65537) % 8)), .int (nI (((((75 * h1) + 74) % 65537) / 64) % 12)), .int (nI ((((((75 * h1) + 74) % 65537) / 64) / 12) % 8))]) (rest := []) S hK hA Z (c_X10_act l G 11 (by unfold uIsW; omega) M w1 (yk (((((75 * h1) + 74) % 65537) / 8) % 8)) ((((75 * h1) + 74) % 65537) % 8) (((((75 * h1) + 74) % 65537) / 64) % 12) ((((((75 * h1) + 74) % 65537) / 64) / 12) % 8) (by omega) (by omega) (by omega) (by omega) i3) (cwV 4 S.2.2.2.2 gX11_liveThrough_X10_act rfl rfl rfl (by decide +kernel) ⟨Nat.le_of_ble_eq_true rfl, Nat.le_of_ble_eq_true rfl⟩) (by decide) rfl rfl rfl hl.1 rfl (Nat.le_of_ble_eq_true rfl) dX11_liveThrough_57 ⟨Nat.zero_le _, Nat.zero_le _⟩ (fun H locs Z => ?_)
        refine lv_pop S.1 S.2.1 dX11_liveThrough_60 rfl ?_
        refine lv_iinc (v := (nI (i + 1))) (lv' := [(4, .int (nI (i + 1))), (5, .int (nI ((((75 * h1) + 74) % 65537) / 64))), (3, .int (nI (((75 * h1) + 74) % 65537))), (0, .ref (G.2.2 11)), (1, .int (nI h)), (2, .int (nI n))]) S.1 S.2.1 dX11_liveThrough_61 hl (k := 2) rfl (u_inc1 i) (by decide) rfl (fun ls hl => ?_)
        refine lv_goto (tgt := 5) S.1 S.2.1 dX11_liveThrough_64 (by decide) ?_
        exact ih5 (((75 * h1) + 74) % 65537) (i + 1) ((ac w1 (yk (((((75 * h1) + 74) % 65537) / 8) % 8)) ((((75 * h1) + 74) % 65537) % 8) (((((75 * h1) + 74) % 65537) / 64) % 12) ((((((75 * h1) + 74) % 65537) / 64) / 12) % 8)).2) (by omega) (by omega) (by
            rw [yr, ← i2]
            rfl) (by exact ac_ok8 i3 (by omega) (by omega) (by omega)) _ _ _ Z (lv_sub hl [0, 2, 3, 4, 5] rfl)
  exact LP5 (n + 1) h 0 w (by omega) (by omega) (by rfl) (by exact hw) _ _ _ Z (lv_sub hl [0, 1, 2, 3, 4] rfl)
set_option maxHeartbeats 4000000 in
set_option maxRecDepth 100000 in
theorem c_X11_year (l : Launch) (G : uG) (h n x : Int32) (M : uM) (w v : Nat → Nat → Nat) (hr : uRd M 1 w) (hw : wOk w) (hv : uRd M 11 v) (hvz : zOut v) : CTi l G yX11_year wsX11_year 5 118 [.ref (G.2.2 0), .int h, .int n, .int x] M (fun r M2 => r = spYear w h n x ∧ ∃ v2, M2 = uPW M 11 v2 ∧ zOut v2) := by
  refine ustart_i (cc := cX11_year) (maxL := 4) (ret := (some .int)) (own := RX11) rfl (by decide) rfl (Nat.le_of_ble_eq_true rfl) ?_
  intro xp xe xs xm xa xb xt xc xA ls S hK hA Z hre hlk hl
  have hl : lv_has ls 4 [(0, .ref (G.2.2 0)), (1, .int h), (2, .int n), (3, .int x)] := hl
  refine lv_iload_n S.1 S.2.1 dX11_year_0 rfl (lv_at hl 1 rfl) ?_
  refine lv_iconst (v := 0) S.1 S.2.1 dX11_year_1 (by decide) ?_
  refine lv_sipush (v := 9999) S.1 S.2.1 dX11_year_2 (by decide) ?_
  refine uc_Si (As := [.int h, .int 0, .int 9999]) (rest := []) S hK hA Z (c_X5_within l G h 0 9999 M) (va_cwS 3 S.2.2.2.2 gX11_year_X5_within rfl rfl rfl (by decide +kernel) ⟨Nat.le_of_ble_eq_true rfl, Nat.le_of_ble_eq_true rfl⟩) rfl hl.1 rfl (Nat.le_of_ble_eq_true rfl) dX11_year_5 ⟨Nat.zero_le _, Nat.zero_le _⟩ (fun r_1 M_1 H locs hp Z => ?_)
  obtain ⟨⟨rfl, w_1⟩ | ⟨rfl, w_1⟩, hM_1⟩ := hp
  · skip
    rw [hM_1] at Z
    refine lv_if_eq (tgt := 30) S.1 S.2.1 dX11_year_8 (by decide) (fun c => absurd c (by decide)) (fun _ => ?_)
    refine lv_iload_n S.1 S.2.1 dX11_year_11 rfl (lv_at hl 2 rfl) ?_
    refine lv_iconst (v := 1) S.1 S.2.1 dX11_year_12 (by decide) ?_
    refine lv_bipush (v := 99) S.1 S.2.1 dX11_year_13 (by decide) ?_
    refine uc_Si (As := [.int n, .int 1, .int 99]) (rest := []) S hK hA Z (c_X5_within l G n 1 99 M) (va_cwS 3 S.2.2.2.2 gX11_year_X5_within rfl rfl rfl (by decide +kernel) ⟨Nat.le_of_ble_eq_true rfl, Nat.le_of_ble_eq_true rfl⟩) rfl hl.1 rfl (Nat.le_of_ble_eq_true rfl) dX11_year_15 ⟨Nat.zero_le _, Nat.zero_le _⟩ (fun r_3 M_3 H locs hp Z => ?_)
    obtain ⟨⟨rfl, w_3⟩ | ⟨rfl, w_3⟩, hM_3⟩ := hp
    · skip
      rw [hM_3] at Z
      refine lv_if_eq (tgt := 30) S.1 S.2.1 dX11_year_18 (by decide) (fun c => absurd c (by decide)) (fun _ => ?_)
      refine lv_iload_n S.1 S.2.1 dX11_year_21 rfl (lv_at hl 3 rfl) ?_
      refine lv_iconst (v := 0) S.1 S.2.1 dX11_year_22 (by decide) ?_
      refine lv_iconst (v := 2) S.1 S.2.1 dX11_year_23 (by decide) ?_
      refine uc_Si (As := [.int x, .int 0, .int 2]) (rest := []) S hK hA Z (c_X5_within l G x 0 2 M) (va_cwS 3 S.2.2.2.2 gX11_year_X5_within rfl rfl rfl (by decide +kernel) ⟨Nat.le_of_ble_eq_true rfl, Nat.le_of_ble_eq_true rfl⟩) rfl hl.1 rfl (Nat.le_of_ble_eq_true rfl) dX11_year_24 ⟨Nat.zero_le _, Nat.zero_le _⟩ (fun r_5 M_5 H locs hp Z => ?_)
      obtain ⟨⟨rfl, w_5⟩ | ⟨rfl, w_5⟩, hM_5⟩ := hp
      · skip
        rw [hM_5] at Z
        refine lv_if_ne (tgt := 33) S.1 S.2.1 dX11_year_27 (by decide) (fun _ => ?_) (fun c => absurd c (by decide))
        obtain ⟨j, hj, rfl⟩ := u_in0 (n := 9999) (show inr h 0 9999 by assumption) (by decide)
        obtain ⟨q, hq1, hq, rfl⟩ := u_in1 (n := 99) (show inr n 1 99 by assumption) (by decide)
        have Z := uZ_eq (uPW_id hv).symm Z
        refine lv_aload_n S.1 S.2.1 dX11_year_33 rfl (lv_at hl 0 rfl) ?_
        refine ug_r S hK Z (j := 1) 11 (by decide) rfl rfl rfl (by decide) iX11_year_X11 qX11_year_16 dX11_year_34 ?_
        refine lv_aload_n S.1 S.2.1 dX11_year_37 rfl (lv_at hl 0 rfl) ?_
        refine ug_r S hK Z (j := 0) 1 (by decide) rfl rfl rfl (by decide) iX11_year_X11 qX11_year_10 dX11_year_38 ?_
        refine ud_Vv (As := [.ref (G.2.2 1)]) (rest := []) S hK hA Z (c_X10_copy l G 11 1 (by unfold uIsW; omega) (by unfold uIsW; omega) (by omega) M v w hr hvz (wOk_z hw)) (cwV 1 S.2.2.2.2 gX11_year_X10_copy rfl rfl rfl (by decide +kernel) ⟨Nat.le_of_ble_eq_true rfl, Nat.le_of_ble_eq_true rfl⟩) (by decide) rfl rfl rfl hl.1 rfl (Nat.le_of_ble_eq_true rfl) dX11_year_41 ⟨Nat.zero_le _, Nat.zero_le _⟩ (fun H locs Z => ?_)
        refine lv_aload_n S.1 S.2.1 dX11_year_44 rfl (lv_at hl 0 rfl) ?_
        refine ug_r S hK Z (j := 1) 11 (by decide) rfl rfl rfl (by decide) iX11_year_X11 qX11_year_16 dX11_year_45 ?_
        refine lv_iload_n S.1 S.2.1 dX11_year_48 rfl (lv_at hl 1 rfl) ?_
        refine lv_iload_n S.1 S.2.1 dX11_year_49 rfl (lv_at hl 2 rfl) ?_
        refine ud_Sv (As := [.ref (G.2.2 11), .int (nI j), .int (nI q)]) (rest := []) S hK hA Z (c_X11_liveThrough l G j q (by omega) (by omega) M w hw) (va_cwS 3 S.2.2.2.2 gX11_year_X11_liveThrough rfl rfl rfl (by decide +kernel) ⟨Nat.le_of_ble_eq_true rfl, Nat.le_of_ble_eq_true rfl⟩) rfl hl.1 rfl (Nat.le_of_ble_eq_true rfl) dX11_year_50 ⟨Nat.zero_le _, Nat.zero_le _⟩ (fun H locs Z => ?_)
        have hwy := yr_ok (h := j) hw q
        refine lv_iload_n S.1 S.2.1 dX11_year_53 rfl (lv_at hl 3 rfl) ?_
        refine lv_if_ne (tgt := 65) S.1 S.2.1 dX11_year_54 (by decide) (fun c_9 => ?_) (fun c_9 => ?_)
        · skip
          refine lv_iload_n S.1 S.2.1 dX11_year_65 rfl (lv_at hl 3 rfl) ?_
          refine lv_iconst (v := 1) S.1 S.2.1 dX11_year_66 (by decide) ?_
          refine lv_icmp_ne (tgt := 84) S.1 S.2.1 dX11_year_67 (by decide) (fun c_10 => ?_) (fun c_10 => ?_)
          · skip
            refine lv_aload_n S.1 S.2.1 dX11_year_84 rfl (lv_at hl 0 rfl) ?_
            refine ug_r S hK Z (j := 1) 11 (by decide) rfl rfl rfl (by decide) iX11_year_X11 qX11_year_16 dX11_year_85 ?_
            refine lv_iconst (v := 0) S.1 S.2.1 dX11_year_88 (by decide) ?_
            refine ud_Vi (As := [.int 0]) (rest := []) S hK hA Z (c_X10_thingsOf l G 11 (by unfold uIsW; omega) M (yr q (j, w)).2 0 (by omega) (fun t ht => (hwy.1 t ht).1)) (cwV 1 S.2.2.2.2 gX11_year_X10_thingsOf rfl rfl rfl (by decide +kernel) ⟨Nat.le_of_ble_eq_true rfl, Nat.le_of_ble_eq_true rfl⟩) (by decide) rfl rfl rfl hl.1 rfl (Nat.le_of_ble_eq_true rfl) dX11_year_89 ⟨Nat.zero_le _, Nat.zero_le _⟩ (fun H locs Z => ?_)
            refine uret_i S hK Z hre hlk dX11_year_92 ?_
            first | (rw [spYear, if_neg (u_no3 (by assumption) (by assumption) (by assumption)), nI_clamp (show j < 2 ^ 31 by omega), nI_clamp (show q < 2 ^ 31 by omega), if_neg (show ¬ x = 0 by assumption), if_pos (show x = 1 by assumption)]; exact ⟨rfl, _, rfl, wOk_z hwy⟩) | (rw [spYear, if_neg (u_no3 (by assumption) (by assumption) (by assumption)), nI_clamp (show j < 2 ^ 31 by omega), nI_clamp (show q < 2 ^ 31 by omega), if_neg (show ¬ x = 0 by assumption), if_neg (show ¬ x = 1 by assumption)]; exact ⟨rfl, _, rfl, wOk_z hwy⟩)
          · skip
            refine lv_aload_n S.1 S.2.1 dX11_year_70 rfl (lv_at hl 0 rfl) ?_
            refine ug_r S hK Z (j := 1) 11 (by decide) rfl rfl rfl (by decide) iX11_year_X11 qX11_year_16 dX11_year_71 ?_
            refine ug_r S hK Z (j := 4) 16 (by decide) rfl rfl rfl (by decide) iX11_year_X10 qX11_year_119 dX11_year_74 ?_
            refine lv_iconst (v := 0) S.1 S.2.1 dX11_year_77 (by decide) ?_
            refine ud_Si (As := [.ref (G.2.2 16), .int 0]) (rest := []) S hK hA Z (c_X5_at l G 16 8 0 (by decide) rfl (by omega) (uPW M 11 ((yr q (j, w)).2))) (va_cwS 2 S.2.2.2.2 gX11_year_X5_at rfl rfl rfl (by decide +kernel) ⟨Nat.le_of_ble_eq_true rfl, Nat.le_of_ble_eq_true rfl⟩) rfl hl.1 rfl (Nat.le_of_ble_eq_true rfl) dX11_year_78 ⟨Nat.zero_le _, Nat.zero_le _⟩ (fun H locs Z => ?_)
            refine utop (y := (nI (((yr q (j, w)).2) 5 0))) (uPW_g M 11 ((yr q (j, w)).2) 0 (j := 5) (by decide)) ?_
            refine lv_goto (tgt := 92) S.1 S.2.1 dX11_year_81 (by decide) ?_
            refine uret_i S hK Z hre hlk dX11_year_92 ?_
            first | (rw [spYear, if_neg (u_no3 (by assumption) (by assumption) (by assumption)), nI_clamp (show j < 2 ^ 31 by omega), nI_clamp (show q < 2 ^ 31 by omega), if_neg (show ¬ x = 0 by assumption), if_pos (show x = 1 by assumption)]; exact ⟨rfl, _, rfl, wOk_z hwy⟩) | (rw [spYear, if_neg (u_no3 (by assumption) (by assumption) (by assumption)), nI_clamp (show j < 2 ^ 31 by omega), nI_clamp (show q < 2 ^ 31 by omega), if_neg (show ¬ x = 0 by assumption), if_neg (show ¬ x = 1 by assumption)]; exact ⟨rfl, _, rfl, wOk_z hwy⟩)
        · skip
          refine lv_aload_n S.1 S.2.1 dX11_year_57 rfl (lv_at hl 0 rfl) ?_
          refine ug_r S hK Z (j := 1) 11 (by decide) rfl rfl rfl (by decide) iX11_year_X11 qX11_year_16 dX11_year_58 ?_
          refine ud_Vi (As := []) (rest := []) S hK hA Z (c_X10_thingsFitForSale l G 11 (by unfold uIsW; omega) M (yr q (j, w)).2 (fun t ht => (hwy.1 t ht).2.1)) (cwV 0 S.2.2.2.2 gX11_year_X10_thingsFitForSale rfl rfl rfl (by decide +kernel) ⟨Nat.le_of_ble_eq_true rfl, Nat.le_of_ble_eq_true rfl⟩) (by decide) rfl rfl rfl hl.1 rfl (Nat.le_of_ble_eq_true rfl) dX11_year_61 ⟨Nat.zero_le _, Nat.zero_le _⟩ (fun H locs Z => ?_)
          refine uret_i S hK Z hre hlk dX11_year_64 ?_
          rw [spYear, if_neg (u_no3 (by assumption) (by assumption) (by assumption)), nI_clamp (show j < 2 ^ 31 by omega), nI_clamp (show q < 2 ^ 31 by omega), if_pos (show x = 0 by assumption)]
          exact ⟨rfl, _, rfl, wOk_z hwy⟩
      · skip
        rw [hM_5] at Z
        refine lv_if_ne (tgt := 33) S.1 S.2.1 dX11_year_27 (by decide) (fun c => absurd c (by decide)) (fun _ => ?_)
        refine lv_bipush (v := (-2)) S.1 S.2.1 dX11_year_30 (by decide) ?_
        refine uret_i S hK Z hre hlk dX11_year_32 ?_
        rw [spYear, if_pos (by first | exact Or.inl (by assumption) | exact Or.inr (Or.inl (by assumption)) | exact Or.inr (Or.inr (by assumption)))]
        exact ⟨rfl, v, (uPW_id hv).symm, hvz⟩
    · skip
      rw [hM_3] at Z
      refine lv_if_eq (tgt := 30) S.1 S.2.1 dX11_year_18 (by decide) (fun _ => ?_) (fun c => absurd c (by decide))
      refine lv_bipush (v := (-2)) S.1 S.2.1 dX11_year_30 (by decide) ?_
      refine uret_i S hK Z hre hlk dX11_year_32 ?_
      rw [spYear, if_pos (by first | exact Or.inl (by assumption) | exact Or.inr (Or.inl (by assumption)) | exact Or.inr (Or.inr (by assumption)))]
      exact ⟨rfl, v, (uPW_id hv).symm, hvz⟩
  · skip
    rw [hM_1] at Z
    refine lv_if_eq (tgt := 30) S.1 S.2.1 dX11_year_8 (by decide) (fun _ => ?_) (fun c => absurd c (by decide))
    refine lv_bipush (v := (-2)) S.1 S.2.1 dX11_year_30 (by decide) ?_
    refine uret_i S hK Z hre hlk dX11_year_32 ?_
    rw [spYear, if_pos (by first | exact Or.inl (by assumption) | exact Or.inr (Or.inl (by assumption)) | exact Or.inr (Or.inr (by assumption)))]
    exact ⟨rfl, v, (uPW_id hv).symm, hvz⟩
set_option maxHeartbeats 4000000 in
set_option maxRecDepth 100000 in
theorem c_X11_imageOf0 (l : Launch) (G : uG) (M : uM) : CTr l G yX11_imageOf wsX11_imageOf 0 0 [.ref (G.2.2 0), .int 0] M (fun u M2 => u = 51 ∧ M2 = M) := by
  refine ustart_r (cc := cX11_imageOf) (maxL := 2) (ret := (some (.object "TwiceStolen$World"))) (own := RX11) rfl (by decide) rfl (Nat.le_of_ble_eq_true rfl) ?_
  intro xp xe xs xm xa xb xt xc xA ls S hK hA Z hre hlk hl
  have hl : lv_has ls 2 [(0, .ref (G.2.2 0)), (1, .int 0)] := hl
  refine lv_iload_n S.1 S.2.1 dX11_imageOf_0 rfl (lv_at hl 1 rfl) ?_
  refine lv_if_ne (tgt := 11) S.1 S.2.1 dX11_imageOf_1 (by decide) (fun c => absurd c (by decide)) (fun _ => ?_)
  refine lv_aload_n S.1 S.2.1 dX11_imageOf_4 rfl (lv_at hl 0 rfl) ?_
  refine ug_r S hK Z (j := 10) 51 (by decide) rfl rfl rfl (by decide) iX11_imageOf_X11 qX11_imageOf_75 dX11_imageOf_5 ?_
  refine lv_goto (tgt := 15) S.1 S.2.1 dX11_imageOf_8 (by decide) ?_
  refine uret_r (post := (fun u M2 => u = 51 ∧ M2 = M)) (k := 51) S hK Z hre hlk dX11_imageOf_15 ?_
  exact ⟨rfl, rfl⟩
set_option maxHeartbeats 4000000 in
set_option maxRecDepth 100000 in
theorem c_X11_image0 (l : Launch) (G : uG) (M : uM) (w v : Nat → Nat → Nat) (kp : Nat) (hr : uRd M 1 w) (hz : zOut w) (hv : uRd M 51 v) (hvz : zOut v) (hk : M.1 0 12 = nI kp) (hk4 : kp < 4) : CTi l G yX11_image wsX11_image 4 85 [.ref (G.2.2 0), .int 0] M (fun r M2 => r = 1 ∧ M2 = u1 (uPW M 51 w) 0 12 (nI (kp ||| 1))) := by
  refine ustart_i (cc := cX11_image) (maxL := 2) (ret := (some .int)) (own := RX11) rfl (by decide) rfl (Nat.le_of_ble_eq_true rfl) ?_
  intro xp xe xs xm xa xb xt xc xA ls S hK hA Z hre hlk hl
  have hl : lv_has ls 2 [(0, .ref (G.2.2 0)), (1, .int 0)] := hl
  refine lv_iload_n S.1 S.2.1 dX11_image_0 rfl (lv_at hl 1 rfl) ?_
  refine lv_iconst (v := 0) S.1 S.2.1 dX11_image_1 (by decide) ?_
  refine lv_iconst (v := 1) S.1 S.2.1 dX11_image_2 (by decide) ?_
  refine uc_Si (As := [.int 0, .int 0, .int 1]) (rest := []) S hK hA Z (c_X5_withinN l G 0 0 1 (by omega) (by omega) (by omega) M) (va_cwS 3 S.2.2.2.2 gX11_image_X5_within rfl rfl rfl (by decide +kernel) ⟨Nat.le_of_ble_eq_true rfl, Nat.le_of_ble_eq_true rfl⟩) rfl hl.1 rfl (Nat.le_of_ble_eq_true rfl) dX11_image_3 ⟨Nat.zero_le _, Nat.zero_le _⟩ (fun r_1 M_1 H locs hp Z => ?_)
  obtain ⟨⟨rfl, w_1⟩ | ⟨rfl, w_1⟩, hM_1⟩ := hp
  · skip
    rw [hM_1] at Z
    refine lv_if_ne (tgt := 12) S.1 S.2.1 dX11_image_6 (by decide) (fun _ => ?_) (fun c => absurd c (by decide))
    refine lv_aload_n S.1 S.2.1 dX11_image_12 rfl (lv_at hl 0 rfl) ?_
    refine lv_iload_n S.1 S.2.1 dX11_image_13 rfl (lv_at hl 1 rfl) ?_
    refine uc_Vr (As := [.int 0]) (rest := []) S hK hA Z (c_X11_imageOf0 l G M) (cwV 1 S.2.2.2.2 gX11_image_X11_imageOf rfl rfl rfl (by decide +kernel) ⟨Nat.le_of_ble_eq_true rfl, Nat.le_of_ble_eq_true rfl⟩) (by decide) rfl rfl rfl hl.1 rfl (Nat.le_of_ble_eq_true rfl) dX11_image_14 ⟨Nat.zero_le _, Nat.zero_le _⟩ (fun r_3 M_3 H locs hp Z => ?_)
    obtain ⟨hr_3, hM_3⟩ := hp
    subst hr_3
    rw [hM_3] at Z
    have Z := uZ_eq (uPW_id hv).symm Z
    refine lv_aload_n S.1 S.2.1 dX11_image_17 rfl (lv_at hl 0 rfl) ?_
    refine ug_r S hK Z (j := 0) 1 (by decide) rfl rfl rfl (by decide) iX11_image_X11 qX11_image_10 dX11_image_18 ?_
    refine ud_Vv (As := [.ref (G.2.2 1)]) (rest := []) S hK hA Z (c_X10_copy l G 51 1 (by unfold uIsW; omega) (by unfold uIsW; omega) (by omega) M v w hr hvz hz) (cwV 1 S.2.2.2.2 gX11_image_X10_copy rfl rfl rfl (by decide +kernel) ⟨Nat.le_of_ble_eq_true rfl, Nat.le_of_ble_eq_true rfl⟩) (by decide) rfl rfl rfl hl.1 rfl (Nat.le_of_ble_eq_true rfl) dX11_image_21 ⟨Nat.zero_le _, Nat.zero_le _⟩ (fun H locs Z => ?_)
    refine lv_aload_n S.1 S.2.1 dX11_image_24 rfl (lv_at hl 0 rfl) ?_
    refine lv_dup S.1 S.2.1 dX11_image_25 rfl ?_
    refine ug_i S hK Z (j := 12) (by decide) rfl rfl rfl (by decide) iX11_image_X11 qX11_image_81 dX11_image_26 ?_
    refine utop (y := (nI kp)) ((uPW_o _ _ _ _ (by decide)).trans hk) ?_
    refine lv_iconst (v := 1) S.1 S.2.1 dX11_image_29 (by decide) ?_
    refine lv_iload_n S.1 S.2.1 dX11_image_30 rfl (lv_at hl 1 rfl) ?_
    refine lv_ishl S.1 S.2.1 dX11_image_31 ?_
    refine utop (y := 1) (by decide) ?_
    refine lv_ior S.1 S.2.1 dX11_image_32 ?_
    refine utop (nx_or kp 1) ?_
    refine up_i S hK Z (j := 12) (by decide) rfl rfl rfl (by decide) iX11_image_X11 tyX11_ok nmX11 qX11_image_81 rfl rfl rfl dX11_image_33 (fun H locs Z => ?_)
    refine lv_iconst (v := 1) S.1 S.2.1 dX11_image_36 (by decide) ?_
    refine uret_i S hK Z hre hlk dX11_image_37 ?_
    exact ⟨rfl, rfl⟩
  · skip
    rw [hM_1] at Z
    refine lv_if_ne (tgt := 12) S.1 S.2.1 dX11_image_6 (by decide) (fun c => absurd c (by decide)) (fun _ => ?_)
    refine lv_bipush (v := (-2)) S.1 S.2.1 dX11_image_9 (by decide) ?_
    refine uret_i S hK Z hre hlk dX11_image_11 ?_
    omega
set_option maxHeartbeats 4000000 in
set_option maxRecDepth 100000 in
theorem c_X11_restore0 (l : Launch) (G : uG) (M : uM) (w v : Nat → Nat → Nat) (kp : Nat) (hr : uRd M 1 w) (hz : zOut w) (hv : uRd M 51 v) (hvz : zOut v) (hk : M.1 0 12 = nI kp) (hk4 : kp < 4) : CTi l G yX11_restore wsX11_restore 4 85 [.ref (G.2.2 0), .int 0] M (fun r M2 => (kp / 2 ^ 0 % 2 = 0 ∧ r = -3 ∧ M2 = M) ∨ (¬ kp / 2 ^ 0 % 2 = 0 ∧ r = 1 ∧ M2 = uPW M 1 v)) := by
  refine ustart_i (cc := cX11_restore) (maxL := 2) (ret := (some .int)) (own := RX11) rfl (by decide) rfl (Nat.le_of_ble_eq_true rfl) ?_
  intro xp xe xs xm xa xb xt xc xA ls S hK hA Z hre hlk hl
  have hl : lv_has ls 2 [(0, .ref (G.2.2 0)), (1, .int 0)] := hl
  refine lv_iload_n S.1 S.2.1 dX11_restore_0 rfl (lv_at hl 1 rfl) ?_
  refine lv_iconst (v := 0) S.1 S.2.1 dX11_restore_1 (by decide) ?_
  refine lv_iconst (v := 1) S.1 S.2.1 dX11_restore_2 (by decide) ?_
  refine uc_Si (As := [.int 0, .int 0, .int 1]) (rest := []) S hK hA Z (c_X5_withinN l G 0 0 1 (by omega) (by omega) (by omega) M) (va_cwS 3 S.2.2.2.2 gX11_restore_X5_within rfl rfl rfl (by decide +kernel) ⟨Nat.le_of_ble_eq_true rfl, Nat.le_of_ble_eq_true rfl⟩) rfl hl.1 rfl (Nat.le_of_ble_eq_true rfl) dX11_restore_3 ⟨Nat.zero_le _, Nat.zero_le _⟩ (fun r_1 M_1 H locs hp Z => ?_)
  obtain ⟨⟨rfl, w_1⟩ | ⟨rfl, w_1⟩, hM_1⟩ := hp
  · skip
    rw [hM_1] at Z
    refine lv_if_ne (tgt := 12) S.1 S.2.1 dX11_restore_6 (by decide) (fun _ => ?_) (fun c => absurd c (by decide))
    refine lv_aload_n S.1 S.2.1 dX11_restore_12 rfl (lv_at hl 0 rfl) ?_
    refine ug_i S hK Z (j := 12) (by decide) rfl rfl rfl (by decide) iX11_restore_X11 qX11_restore_81 dX11_restore_13 ?_
    refine utop (y := (nI kp)) hk ?_
    refine lv_iload_n S.1 S.2.1 dX11_restore_16 rfl (lv_at hl 1 rfl) ?_
    refine lv_ishr S.1 S.2.1 dX11_restore_17 ?_
    refine lv_iconst (v := 1) S.1 S.2.1 dX11_restore_18 (by decide) ?_
    refine lv_iand S.1 S.2.1 dX11_restore_19 ?_
    refine utop (u_bit (a := kp) (k := 0) (by omega) (by omega)) ?_
    refine lv_if_ne (tgt := 26) S.1 S.2.1 dX11_restore_20 (by decide) (fun c_3 => ?_) (fun c_3 => ?_)
    · skip
      have c_3 : ¬ (kp / 2 ^ 0 % 2) = 0 := fun z9 => c_3 ((nI_eq (a := (kp / 2 ^ 0 % 2)) (b := 0) (by omega) (by omega)).mpr z9)
      refine lv_aload_n S.1 S.2.1 dX11_restore_26 rfl (lv_at hl 0 rfl) ?_
      refine ug_r S hK Z (j := 0) 1 (by decide) rfl rfl rfl (by decide) iX11_restore_X11 qX11_restore_10 dX11_restore_27 ?_
      refine lv_aload_n S.1 S.2.1 dX11_restore_30 rfl (lv_at hl 0 rfl) ?_
      refine lv_iload_n S.1 S.2.1 dX11_restore_31 rfl (lv_at hl 1 rfl) ?_
      refine uc_Vr (As := [.int 0]) (rest := [.ref (G.2.2 1)]) S hK hA Z (c_X11_imageOf0 l G M) (cwV 1 S.2.2.2.2 gX11_restore_X11_imageOf rfl rfl rfl (by decide +kernel) ⟨Nat.le_of_ble_eq_true rfl, Nat.le_of_ble_eq_true rfl⟩) (by decide) rfl rfl rfl hl.1 rfl (Nat.le_of_ble_eq_true rfl) dX11_restore_32 ⟨Nat.zero_le _, Nat.zero_le _⟩ (fun r_4 M_4 H locs hp Z => ?_)
      obtain ⟨hr_4, hM_4⟩ := hp
      subst hr_4
      rw [hM_4] at Z
      have Z := uZ_eq (uPW_id hr).symm Z
      refine ud_Vv (As := [.ref (G.2.2 51)]) (rest := []) S hK hA Z (c_X10_copy l G 1 51 (by unfold uIsW; omega) (by unfold uIsW; omega) (by omega) M w v hv hz hvz) (cwV 1 S.2.2.2.2 gX11_restore_X10_copy rfl rfl rfl (by decide +kernel) ⟨Nat.le_of_ble_eq_true rfl, Nat.le_of_ble_eq_true rfl⟩) (by decide) rfl rfl rfl hl.1 rfl (Nat.le_of_ble_eq_true rfl) dX11_restore_35 ⟨Nat.zero_le _, Nat.zero_le _⟩ (fun H locs Z => ?_)
      refine lv_iconst (v := 1) S.1 S.2.1 dX11_restore_38 (by decide) ?_
      refine uret_i S hK Z hre hlk dX11_restore_39 ?_
      exact Or.inr ⟨by assumption, rfl, rfl⟩
    · skip
      have c_3 : (kp / 2 ^ 0 % 2) = 0 := (nI_eq (a := (kp / 2 ^ 0 % 2)) (b := 0) (by omega) (by omega)).mp c_3
      refine lv_bipush (v := (-3)) S.1 S.2.1 dX11_restore_23 (by decide) ?_
      refine uret_i S hK Z hre hlk dX11_restore_25 ?_
      exact Or.inl ⟨by assumption, rfl, rfl⟩
  · skip
    rw [hM_1] at Z
    refine lv_if_ne (tgt := 12) S.1 S.2.1 dX11_restore_6 (by decide) (fun c => absurd c (by decide)) (fun _ => ?_)
    refine lv_bipush (v := (-2)) S.1 S.2.1 dX11_restore_9 (by decide) ?_
    refine uret_i S hK Z hre hlk dX11_restore_11 ?_
    omega
set_option maxHeartbeats 4000000 in
set_option maxRecDepth 100000 in
theorem c_X11_imageOf1 (l : Launch) (G : uG) (M : uM) : CTr l G yX11_imageOf wsX11_imageOf 0 0 [.ref (G.2.2 0), .int 1] M (fun u M2 => u = 61 ∧ M2 = M) := by
  refine ustart_r (cc := cX11_imageOf) (maxL := 2) (ret := (some (.object "TwiceStolen$World"))) (own := RX11) rfl (by decide) rfl (Nat.le_of_ble_eq_true rfl) ?_
  intro xp xe xs xm xa xb xt xc xA ls S hK hA Z hre hlk hl
  have hl : lv_has ls 2 [(0, .ref (G.2.2 0)), (1, .int 1)] := hl
  refine lv_iload_n S.1 S.2.1 dX11_imageOf_0 rfl (lv_at hl 1 rfl) ?_
  refine lv_if_ne (tgt := 11) S.1 S.2.1 dX11_imageOf_1 (by decide) (fun _ => ?_) (fun c => absurd c (by decide))
  refine lv_aload_n S.1 S.2.1 dX11_imageOf_11 rfl (lv_at hl 0 rfl) ?_
  refine ug_r S hK Z (j := 11) 61 (by decide) rfl rfl rfl (by decide) iX11_imageOf_X11 qX11_imageOf_78 dX11_imageOf_12 ?_
  refine uret_r (post := (fun u M2 => u = 61 ∧ M2 = M)) (k := 61) S hK Z hre hlk dX11_imageOf_15 ?_
  exact ⟨rfl, rfl⟩
set_option maxHeartbeats 4000000 in
set_option maxRecDepth 100000 in
theorem c_X11_image1 (l : Launch) (G : uG) (M : uM) (w v : Nat → Nat → Nat) (kp : Nat) (hr : uRd M 1 w) (hz : zOut w) (hv : uRd M 61 v) (hvz : zOut v) (hk : M.1 0 12 = nI kp) (hk4 : kp < 4) : CTi l G yX11_image wsX11_image 4 85 [.ref (G.2.2 0), .int 1] M (fun r M2 => r = 1 ∧ M2 = u1 (uPW M 61 w) 0 12 (nI (kp ||| 2))) := by
  refine ustart_i (cc := cX11_image) (maxL := 2) (ret := (some .int)) (own := RX11) rfl (by decide) rfl (Nat.le_of_ble_eq_true rfl) ?_
  intro xp xe xs xm xa xb xt xc xA ls S hK hA Z hre hlk hl
  have hl : lv_has ls 2 [(0, .ref (G.2.2 0)), (1, .int 1)] := hl
  refine lv_iload_n S.1 S.2.1 dX11_image_0 rfl (lv_at hl 1 rfl) ?_
  refine lv_iconst (v := 0) S.1 S.2.1 dX11_image_1 (by decide) ?_
  refine lv_iconst (v := 1) S.1 S.2.1 dX11_image_2 (by decide) ?_
  refine uc_Si (As := [.int 1, .int 0, .int 1]) (rest := []) S hK hA Z (c_X5_withinN l G 1 0 1 (by omega) (by omega) (by omega) M) (va_cwS 3 S.2.2.2.2 gX11_image_X5_within rfl rfl rfl (by decide +kernel) ⟨Nat.le_of_ble_eq_true rfl, Nat.le_of_ble_eq_true rfl⟩) rfl hl.1 rfl (Nat.le_of_ble_eq_true rfl) dX11_image_3 ⟨Nat.zero_le _, Nat.zero_le _⟩ (fun r_1 M_1 H locs hp Z => ?_)
  obtain ⟨⟨rfl, w_1⟩ | ⟨rfl, w_1⟩, hM_1⟩ := hp
  · skip
    rw [hM_1] at Z
    refine lv_if_ne (tgt := 12) S.1 S.2.1 dX11_image_6 (by decide) (fun _ => ?_) (fun c => absurd c (by decide))
    refine lv_aload_n S.1 S.2.1 dX11_image_12 rfl (lv_at hl 0 rfl) ?_
    refine lv_iload_n S.1 S.2.1 dX11_image_13 rfl (lv_at hl 1 rfl) ?_
    refine uc_Vr (As := [.int 1]) (rest := []) S hK hA Z (c_X11_imageOf1 l G M) (cwV 1 S.2.2.2.2 gX11_image_X11_imageOf rfl rfl rfl (by decide +kernel) ⟨Nat.le_of_ble_eq_true rfl, Nat.le_of_ble_eq_true rfl⟩) (by decide) rfl rfl rfl hl.1 rfl (Nat.le_of_ble_eq_true rfl) dX11_image_14 ⟨Nat.zero_le _, Nat.zero_le _⟩ (fun r_3 M_3 H locs hp Z => ?_)
    obtain ⟨hr_3, hM_3⟩ := hp
    subst hr_3
    rw [hM_3] at Z
    have Z := uZ_eq (uPW_id hv).symm Z
    refine lv_aload_n S.1 S.2.1 dX11_image_17 rfl (lv_at hl 0 rfl) ?_
    refine ug_r S hK Z (j := 0) 1 (by decide) rfl rfl rfl (by decide) iX11_image_X11 qX11_image_10 dX11_image_18 ?_
    refine ud_Vv (As := [.ref (G.2.2 1)]) (rest := []) S hK hA Z (c_X10_copy l G 61 1 (by unfold uIsW; omega) (by unfold uIsW; omega) (by omega) M v w hr hvz hz) (cwV 1 S.2.2.2.2 gX11_image_X10_copy rfl rfl rfl (by decide +kernel) ⟨Nat.le_of_ble_eq_true rfl, Nat.le_of_ble_eq_true rfl⟩) (by decide) rfl rfl rfl hl.1 rfl (Nat.le_of_ble_eq_true rfl) dX11_image_21 ⟨Nat.zero_le _, Nat.zero_le _⟩ (fun H locs Z => ?_)
    refine lv_aload_n S.1 S.2.1 dX11_image_24 rfl (lv_at hl 0 rfl) ?_
    refine lv_dup S.1 S.2.1 dX11_image_25 rfl ?_
    refine ug_i S hK Z (j := 12) (by decide) rfl rfl rfl (by decide) iX11_image_X11 qX11_image_81 dX11_image_26 ?_
    refine utop (y := (nI kp)) ((uPW_o _ _ _ _ (by decide)).trans hk) ?_
    refine lv_iconst (v := 1) S.1 S.2.1 dX11_image_29 (by decide) ?_
    refine lv_iload_n S.1 S.2.1 dX11_image_30 rfl (lv_at hl 1 rfl) ?_
    refine lv_ishl S.1 S.2.1 dX11_image_31 ?_
    refine utop (y := 2) (by decide) ?_
    refine lv_ior S.1 S.2.1 dX11_image_32 ?_
    refine utop (nx_or kp 2) ?_
    refine up_i S hK Z (j := 12) (by decide) rfl rfl rfl (by decide) iX11_image_X11 tyX11_ok nmX11 qX11_image_81 rfl rfl rfl dX11_image_33 (fun H locs Z => ?_)
    refine lv_iconst (v := 1) S.1 S.2.1 dX11_image_36 (by decide) ?_
    refine uret_i S hK Z hre hlk dX11_image_37 ?_
    exact ⟨rfl, rfl⟩
  · skip
    rw [hM_1] at Z
    refine lv_if_ne (tgt := 12) S.1 S.2.1 dX11_image_6 (by decide) (fun c => absurd c (by decide)) (fun _ => ?_)
    refine lv_bipush (v := (-2)) S.1 S.2.1 dX11_image_9 (by decide) ?_
    refine uret_i S hK Z hre hlk dX11_image_11 ?_
    omega
set_option maxHeartbeats 4000000 in
set_option maxRecDepth 100000 in
theorem c_X11_restore1 (l : Launch) (G : uG) (M : uM) (w v : Nat → Nat → Nat) (kp : Nat) (hr : uRd M 1 w) (hz : zOut w) (hv : uRd M 61 v) (hvz : zOut v) (hk : M.1 0 12 = nI kp) (hk4 : kp < 4) : CTi l G yX11_restore wsX11_restore 4 85 [.ref (G.2.2 0), .int 1] M (fun r M2 => (kp / 2 ^ 1 % 2 = 0 ∧ r = -3 ∧ M2 = M) ∨ (¬ kp / 2 ^ 1 % 2 = 0 ∧ r = 1 ∧ M2 = uPW M 1 v)) := by
  refine ustart_i (cc := cX11_restore) (maxL := 2) (ret := (some .int)) (own := RX11) rfl (by decide) rfl (Nat.le_of_ble_eq_true rfl) ?_
  intro xp xe xs xm xa xb xt xc xA ls S hK hA Z hre hlk hl
  have hl : lv_has ls 2 [(0, .ref (G.2.2 0)), (1, .int 1)] := hl
  refine lv_iload_n S.1 S.2.1 dX11_restore_0 rfl (lv_at hl 1 rfl) ?_
  refine lv_iconst (v := 0) S.1 S.2.1 dX11_restore_1 (by decide) ?_
  refine lv_iconst (v := 1) S.1 S.2.1 dX11_restore_2 (by decide) ?_
  refine uc_Si (As := [.int 1, .int 0, .int 1]) (rest := []) S hK hA Z (c_X5_withinN l G 1 0 1 (by omega) (by omega) (by omega) M) (va_cwS 3 S.2.2.2.2 gX11_restore_X5_within rfl rfl rfl (by decide +kernel) ⟨Nat.le_of_ble_eq_true rfl, Nat.le_of_ble_eq_true rfl⟩) rfl hl.1 rfl (Nat.le_of_ble_eq_true rfl) dX11_restore_3 ⟨Nat.zero_le _, Nat.zero_le _⟩ (fun r_1 M_1 H locs hp Z => ?_)
  obtain ⟨⟨rfl, w_1⟩ | ⟨rfl, w_1⟩, hM_1⟩ := hp
  · skip
    rw [hM_1] at Z
    refine lv_if_ne (tgt := 12) S.1 S.2.1 dX11_restore_6 (by decide) (fun _ => ?_) (fun c => absurd c (by decide))
    refine lv_aload_n S.1 S.2.1 dX11_restore_12 rfl (lv_at hl 0 rfl) ?_
    refine ug_i S hK Z (j := 12) (by decide) rfl rfl rfl (by decide) iX11_restore_X11 qX11_restore_81 dX11_restore_13 ?_
    refine utop (y := (nI kp)) hk ?_
    refine lv_iload_n S.1 S.2.1 dX11_restore_16 rfl (lv_at hl 1 rfl) ?_
    refine lv_ishr S.1 S.2.1 dX11_restore_17 ?_
    refine lv_iconst (v := 1) S.1 S.2.1 dX11_restore_18 (by decide) ?_
    refine lv_iand S.1 S.2.1 dX11_restore_19 ?_
    refine utop (u_bit (a := kp) (k := 1) (by omega) (by omega)) ?_
    refine lv_if_ne (tgt := 26) S.1 S.2.1 dX11_restore_20 (by decide) (fun c_3 => ?_) (fun c_3 => ?_)
    · skip
      have c_3 : ¬ (kp / 2 ^ 1 % 2) = 0 := fun z9 => c_3 ((nI_eq (a := (kp / 2 ^ 1 % 2)) (b := 0) (by omega) (by omega)).mpr z9)
      refine lv_aload_n S.1 S.2.1 dX11_restore_26 rfl (lv_at hl 0 rfl) ?_
      refine ug_r S hK Z (j := 0) 1 (by decide) rfl rfl rfl (by decide) iX11_restore_X11 qX11_restore_10 dX11_restore_27 ?_
      refine lv_aload_n S.1 S.2.1 dX11_restore_30 rfl (lv_at hl 0 rfl) ?_
      refine lv_iload_n S.1 S.2.1 dX11_restore_31 rfl (lv_at hl 1 rfl) ?_
      refine uc_Vr (As := [.int 1]) (rest := [.ref (G.2.2 1)]) S hK hA Z (c_X11_imageOf1 l G M) (cwV 1 S.2.2.2.2 gX11_restore_X11_imageOf rfl rfl rfl (by decide +kernel) ⟨Nat.le_of_ble_eq_true rfl, Nat.le_of_ble_eq_true rfl⟩) (by decide) rfl rfl rfl hl.1 rfl (Nat.le_of_ble_eq_true rfl) dX11_restore_32 ⟨Nat.zero_le _, Nat.zero_le _⟩ (fun r_4 M_4 H locs hp Z => ?_)
      obtain ⟨hr_4, hM_4⟩ := hp
      subst hr_4
      rw [hM_4] at Z
      have Z := uZ_eq (uPW_id hr).symm Z
      refine ud_Vv (As := [.ref (G.2.2 61)]) (rest := []) S hK hA Z (c_X10_copy l G 1 61 (by unfold uIsW; omega) (by unfold uIsW; omega) (by omega) M w v hv hz hvz) (cwV 1 S.2.2.2.2 gX11_restore_X10_copy rfl rfl rfl (by decide +kernel) ⟨Nat.le_of_ble_eq_true rfl, Nat.le_of_ble_eq_true rfl⟩) (by decide) rfl rfl rfl hl.1 rfl (Nat.le_of_ble_eq_true rfl) dX11_restore_35 ⟨Nat.zero_le _, Nat.zero_le _⟩ (fun H locs Z => ?_)
      refine lv_iconst (v := 1) S.1 S.2.1 dX11_restore_38 (by decide) ?_
      refine uret_i S hK Z hre hlk dX11_restore_39 ?_
      exact Or.inr ⟨by assumption, rfl, rfl⟩
    · skip
      have c_3 : (kp / 2 ^ 1 % 2) = 0 := (nI_eq (a := (kp / 2 ^ 1 % 2)) (b := 0) (by omega) (by omega)).mp c_3
      refine lv_bipush (v := (-3)) S.1 S.2.1 dX11_restore_23 (by decide) ?_
      refine uret_i S hK Z hre hlk dX11_restore_25 ?_
      exact Or.inl ⟨by assumption, rfl, rfl⟩
  · skip
    rw [hM_1] at Z
    refine lv_if_ne (tgt := 12) S.1 S.2.1 dX11_restore_6 (by decide) (fun c => absurd c (by decide)) (fun _ => ?_)
    refine lv_bipush (v := (-2)) S.1 S.2.1 dX11_restore_9 (by decide) ?_
    refine uret_i S hK Z hre hlk dX11_restore_11 ?_
    omega
set_option maxHeartbeats 4000000 in
set_option maxRecDepth 100000 in
theorem c_X11_imageB (l : Launch) (G : uG) (x : Int32) (h01 : ¬ inr x 0 1) (M : uM) : CTi l G yX11_image wsX11_image 4 85 [.ref (G.2.2 0), .int x] M (fun r M2 => r = -2 ∧ M2 = M) := by
  refine ustart_i (cc := cX11_image) (maxL := 2) (ret := (some .int)) (own := RX11) rfl (by decide) rfl (Nat.le_of_ble_eq_true rfl) ?_
  intro xp xe xs xm xa xb xt xc xA ls S hK hA Z hre hlk hl
  have hl : lv_has ls 2 [(0, .ref (G.2.2 0)), (1, .int x)] := hl
  refine lv_iload_n S.1 S.2.1 dX11_image_0 rfl (lv_at hl 1 rfl) ?_
  refine lv_iconst (v := 0) S.1 S.2.1 dX11_image_1 (by decide) ?_
  refine lv_iconst (v := 1) S.1 S.2.1 dX11_image_2 (by decide) ?_
  refine uc_Si (As := [.int x, .int 0, .int 1]) (rest := []) S hK hA Z (c_X5_within l G x 0 1 M) (va_cwS 3 S.2.2.2.2 gX11_image_X5_within rfl rfl rfl (by decide +kernel) ⟨Nat.le_of_ble_eq_true rfl, Nat.le_of_ble_eq_true rfl⟩) rfl hl.1 rfl (Nat.le_of_ble_eq_true rfl) dX11_image_3 ⟨Nat.zero_le _, Nat.zero_le _⟩ (fun r_1 M_1 H locs hp Z => ?_)
  obtain ⟨⟨rfl, w_1⟩ | ⟨rfl, w_1⟩, hM_1⟩ := hp
  · skip
    rw [hM_1] at Z
    refine lv_if_ne (tgt := 12) S.1 S.2.1 dX11_image_6 (by decide) (fun _ => ?_) (fun c => absurd c (by decide))
    exact absurd (by assumption) h01
  · skip
    rw [hM_1] at Z
    refine lv_if_ne (tgt := 12) S.1 S.2.1 dX11_image_6 (by decide) (fun c => absurd c (by decide)) (fun _ => ?_)
    refine lv_bipush (v := (-2)) S.1 S.2.1 dX11_image_9 (by decide) ?_
    refine uret_i S hK Z hre hlk dX11_image_11 ?_
    exact ⟨rfl, rfl⟩
set_option maxHeartbeats 4000000 in
set_option maxRecDepth 100000 in
theorem c_X11_restoreB (l : Launch) (G : uG) (x : Int32) (h01 : ¬ inr x 0 1) (M : uM) : CTi l G yX11_restore wsX11_restore 4 85 [.ref (G.2.2 0), .int x] M (fun r M2 => r = -2 ∧ M2 = M) := by
  refine ustart_i (cc := cX11_restore) (maxL := 2) (ret := (some .int)) (own := RX11) rfl (by decide) rfl (Nat.le_of_ble_eq_true rfl) ?_
  intro xp xe xs xm xa xb xt xc xA ls S hK hA Z hre hlk hl
  have hl : lv_has ls 2 [(0, .ref (G.2.2 0)), (1, .int x)] := hl
  refine lv_iload_n S.1 S.2.1 dX11_restore_0 rfl (lv_at hl 1 rfl) ?_
  refine lv_iconst (v := 0) S.1 S.2.1 dX11_restore_1 (by decide) ?_
  refine lv_iconst (v := 1) S.1 S.2.1 dX11_restore_2 (by decide) ?_
  refine uc_Si (As := [.int x, .int 0, .int 1]) (rest := []) S hK hA Z (c_X5_within l G x 0 1 M) (va_cwS 3 S.2.2.2.2 gX11_restore_X5_within rfl rfl rfl (by decide +kernel) ⟨Nat.le_of_ble_eq_true rfl, Nat.le_of_ble_eq_true rfl⟩) rfl hl.1 rfl (Nat.le_of_ble_eq_true rfl) dX11_restore_3 ⟨Nat.zero_le _, Nat.zero_le _⟩ (fun r_1 M_1 H locs hp Z => ?_)
  obtain ⟨⟨rfl, w_1⟩ | ⟨rfl, w_1⟩, hM_1⟩ := hp
  · skip
    rw [hM_1] at Z
    refine lv_if_ne (tgt := 12) S.1 S.2.1 dX11_restore_6 (by decide) (fun _ => ?_) (fun c => absurd c (by decide))
    exact absurd (by assumption) h01
  · skip
    rw [hM_1] at Z
    refine lv_if_ne (tgt := 12) S.1 S.2.1 dX11_restore_6 (by decide) (fun c => absurd c (by decide)) (fun _ => ?_)
    refine lv_bipush (v := (-2)) S.1 S.2.1 dX11_restore_9 (by decide) ?_
    refine uret_i S hK Z hre hlk dX11_restore_11 ?_
    exact ⟨rfl, rfl⟩
