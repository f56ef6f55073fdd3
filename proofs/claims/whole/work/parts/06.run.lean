/-! worlds stay as they can be -/
theorem wOk_1 {w : Nat → Nat → Nat} {t v : Nat} (hw : wOk w) (ht : t < 12) (hv : v < 8) : wOk (wu w 1 t v) := by
  obtain ⟨a, b, c, d, e, f, g⟩ := hw
  refine ⟨fun t' ht' => ?_, fun k hk => ?_, ?_, ?_, ?_, fun k q hk hq => ?_, fun j i hn => ?_⟩
  · obtain ⟨a1, a2, a3, a4, a5⟩ := a t' ht'
    rw [wu_row (a := 2) (by omega), wu_row (a := 3) (by omega), wu_row (a := 4) (by omega)]
    refine ⟨?_, a2, a3, a4, a5⟩
    unfold wu
    split <;> omega
  · rw [wu_row (a := 5) (by omega), wu_row (a := 6) (by omega), wu_row (a := 8) (by omega), wu_row (a := 9) (by omega)]
    exact b k hk
  · rw [wu_row (a := 0) (by omega)]; exact c
  · rw [wu_row (a := 0) (by omega)]; exact d
  · rw [wu_row (a := 7) (by omega)]; exact e
  · rw [wu_row (a := 6) (by omega), wu_row (a := 6) (by omega)]; exact f k q hk hq
  · rw [wu_ne (fun z => hn (by unfold wIn; omega))]; exact g j i hn
theorem wOk_2 {w : Nat → Nat → Nat} {t v : Nat} (hw : wOk w) (ht : t < 12) (hv : v ≤ 9) : wOk (wu w 2 t v) := by
  obtain ⟨a, b, c, d, e, f, g⟩ := hw
  refine ⟨fun t' ht' => ?_, fun k hk => ?_, ?_, ?_, ?_, fun k q hk hq => ?_, fun j i hn => ?_⟩
  · obtain ⟨a1, a2, a3, a4, a5⟩ := a t' ht'
    rw [wu_row (a := 1) (by omega), wu_row (a := 3) (by omega), wu_row (a := 4) (by omega)]
    refine ⟨a1, ?_, a3, a4, a5⟩
    unfold wu
    split <;> omega
  · rw [wu_row (a := 5) (by omega), wu_row (a := 6) (by omega), wu_row (a := 8) (by omega), wu_row (a := 9) (by omega)]
    exact b k hk
  · rw [wu_row (a := 0) (by omega)]; exact c
  · rw [wu_row (a := 0) (by omega)]; exact d
  · rw [wu_row (a := 7) (by omega)]; exact e
  · rw [wu_row (a := 6) (by omega), wu_row (a := 6) (by omega)]; exact f k q hk hq
  · rw [wu_ne (fun z => hn (by unfold wIn; omega))]; exact g j i hn
theorem wOk_5 {w : Nat → Nat → Nat} {t v : Nat} (hw : wOk w) (ht : t < 8) (hv : v ≤ 9999) : wOk (wu w 5 t v) := by
  obtain ⟨a, b, c, d, e, f, g⟩ := hw
  refine ⟨fun t' ht' => ?_, fun k hk => ?_, ?_, ?_, ?_, fun k q hk hq => ?_, fun j i hn => ?_⟩
  · rw [wu_row (a := 1) (by omega), wu_row (a := 2) (by omega), wu_row (a := 3) (by omega), wu_row (a := 4) (by omega)]
    exact a t' ht'
  · obtain ⟨b1, b2, b3, b4⟩ := b k hk
    rw [wu_row (a := 6) (by omega), wu_row (a := 8) (by omega), wu_row (a := 9) (by omega)]
    refine ⟨?_, b2, b3, b4⟩
    unfold wu
    split <;> omega
  · rw [wu_row (a := 0) (by omega)]; exact c
  · rw [wu_row (a := 0) (by omega)]; exact d
  · rw [wu_row (a := 7) (by omega)]; exact e
  · rw [wu_row (a := 6) (by omega), wu_row (a := 6) (by omega)]; exact f k q hk hq
  · rw [wu_ne (fun z => hn (by unfold wIn; omega))]; exact g j i hn
theorem wOk_07 {w : Nat → Nat → Nat} {v : Nat} (hw : wOk w) (hv : v < 256) : wOk (wu w 0 7 v) := by
  obtain ⟨a, b, c, d, e, f, g⟩ := hw
  refine ⟨fun t' ht' => ?_, fun k hk => ?_, ?_, ?_, ?_, fun k q hk hq => ?_, fun j i hn => ?_⟩
  · rw [wu_row (a := 1) (by omega), wu_row (a := 2) (by omega), wu_row (a := 3) (by omega), wu_row (a := 4) (by omega)]
    exact a t' ht'
  · rw [wu_row (a := 5) (by omega), wu_row (a := 6) (by omega), wu_row (a := 8) (by omega), wu_row (a := 9) (by omega)]
    exact b k hk
  · rw [wu_eq]; exact hv
  · rw [wu_ne (by omega)]; exact d
  · rw [wu_row (a := 7) (by omega)]; exact e
  · rw [wu_row (a := 6) (by omega), wu_row (a := 6) (by omega)]; exact f k q hk hq
  · rw [wu_ne (fun z => hn (by unfold wIn; omega))]; exact g j i hn
theorem wOk_08 {w : Nat → Nat → Nat} {v : Nat} (hw : wOk w) (hv : v ≤ 99) : wOk (wu w 0 8 v) := by
  obtain ⟨a, b, c, d, e, f, g⟩ := hw
  refine ⟨fun t' ht' => ?_, fun k hk => ?_, ?_, ?_, ?_, fun k q hk hq => ?_, fun j i hn => ?_⟩
  · rw [wu_row (a := 1) (by omega), wu_row (a := 2) (by omega), wu_row (a := 3) (by omega), wu_row (a := 4) (by omega)]
    exact a t' ht'
  · rw [wu_row (a := 5) (by omega), wu_row (a := 6) (by omega), wu_row (a := 8) (by omega), wu_row (a := 9) (by omega)]
    exact b k hk
  · rw [wu_ne (by omega)]; exact c
  · rw [wu_eq]; exact hv
  · rw [wu_row (a := 7) (by omega)]; exact e
  · rw [wu_row (a := 6) (by omega), wu_row (a := 6) (by omega)]; exact f k q hk hq
  · rw [wu_ne (fun z => hn (by unfold wIn; omega))]; exact g j i hn
theorem wOk_own {w : Nat → Nat → Nat} (n : Nat) (hw : wOk w) : wOk (wOwn w n) := by
  obtain ⟨a, b, c, d, e, f, g⟩ := hw
  have h : ∀ j i, j ≠ 2 → wOwn w n j i = w j i := fun j i hj => by
    unfold wOwn
    rw [if_neg (fun z => hj z.1)]
  refine ⟨fun t' ht' => ?_, fun k hk => ?_, ?_, ?_, ?_, fun k q hk hq => ?_, fun j i hn => ?_⟩
  · obtain ⟨a1, a2, a3, a4, a5⟩ := a t' ht'
    rw [h 1 _ (by omega), h 3 _ (by omega), h 4 _ (by omega)]
    refine ⟨a1, ?_, a3, a4, a5⟩
    unfold wOwn
    split <;> omega
  · rw [h 5 _ (by omega), h 6 _ (by omega), h 8 _ (by omega), h 9 _ (by omega)]
    exact b k hk
  · rw [h 0 _ (by omega)]; exact c
  · rw [h 0 _ (by omega)]; exact d
  · rw [h 7 _ (by omega)]; exact e
  · rw [h 6 _ (by omega), h 6 _ (by omega)]; exact f k q hk hq
  · have := g j i hn
    unfold wOwn
    split <;> omega
theorem wOk_hand {w : Nat → Nat → Nat} {t q : Nat} (hw : wOk w) (ht : t < 12) (hq : q < 8) : wOk (wHand w t q) := wOk_2 (wOk_1 hw ht hq) ht (Nat.zero_le _)
/-- what an act needs: its one, its thing, the other -/
def acIn (kd k t q : Nat) : Prop := (kd = 0 → k < 8 ∧ t < 12) ∧ (kd = 1 ∨ kd = 2 → k < 8 ∧ t < 12 ∧ q < 8) ∧ (kd = 3 → k < 8)
theorem ac_ok {w : Nat → Nat → Nat} {kd k t q : Nat} (hw : wOk w) (h : acIn kd k t q) : wOk (ac w kd k t q).2 := by
  unfold ac
  split
  · rename_i hk
    obtain ⟨h1, h2⟩ := h.1 hk
    unfold acTake
    split
    · exact hw
    · split
      · refine wOk_1 ?_ h2 h1
        split
        · exact hw
        · exact wOk_2 hw h2 (Nat.min_le_left _ _)
      · exact hw
  · split
    · rename_i _ hk
      obtain ⟨h1, h2, h3⟩ := h.2.1 (Or.inl hk)
      unfold acSell
      split
      · split
        · exact hw
        · split
          · exact hw
          · have := (hw.2.1 q h3).1
            exact wOk_hand (wOk_5 (wOk_5 hw h3 (by omega)) h1 (Nat.min_le_left _ _)) h2 h3
      · exact hw
    · split
      · rename_i _ _ hk
        obtain ⟨h1, h2, h3⟩ := h.2.1 (Or.inr hk)
        unfold acGive
        split
        · exact wOk_hand hw h2 h3
        · exact hw
      · split
        · rename_i _ _ _ hk
          have h1 := h.2.2 hk
          exact wOk_07 hw (Nat.xor_lt_two_pow (n := 8) hw.2.2.1 (Nat.pow_lt_pow_right (by decide) h1))
        · unfold acNight
          split
          · exact wOk_own 12 (wOk_07 (wOk_08 hw (by omega)) (by decide))
          · exact hw
/-! the acts of a pad -/
theorem cFa_none {s : Nat → Nat} : ∀ n, cFa s n = none → ∀ i, i < n → cRun s (i + 1) ≠ 4 := by
  intro n
  induction n with
  | zero => intro _ i hi; omega
  | succ n ih =>
    intro h i hi
    cases h1 : cFa s n with
    | some p => simp [cFa, h1] at h
    | none =>
      rcases Nat.lt_or_ge i n with q | q
      · exact ih h1 i q
      · obtain rfl : i = n := by omega
        intro h4
        rw [cFa_at h1 h4] at h
        cases h
theorem cFa_lt {s : Nat → Nat} : ∀ n p, cFa s n = some p → p < n := by
  intro n
  induction n with
  | zero => intro p h; cases h
  | succ n ih =>
    intro p h
    cases h1 : cFa s n with
    | some p' =>
      simp [cFa, h1] at h
      have := ih p' h1
      omega
    | none =>
      by_cases h4 : cRun s (n + 1) = 4
      · rw [cFa_at h1 h4] at h
        cases h
        omega
      · rw [cFa_go h1 h4] at h
        cases h
theorem nI_nm6 {p : Nat} (h : p < 2 ^ 31) : ¬ nI p = -6 := by
  intro q
  have := nI_toInt h
  rw [q] at this
  have h2 : (-6 : Int32).toInt = -6 := by decide
  omega
theorem cFault_no {s : Nat → Nat} {n : Nat} (hn : n ≤ 60) (h : cFault s n = -6) : cFa s n = none ∧ cRun s n = 0 := by
  unfold cFault at h
  cases h1 : cFa s n with
  | some p =>
    rw [h1] at h
    have := cFa_lt n p h1
    exact absurd h (nI_nm6 (by omega))
  | none =>
    rw [h1] at h
    dsimp only at h
    by_cases h2 : cRun s n = 0
    · exact ⟨rfl, h2⟩
    · rw [if_neg h2] at h
      exact absurd h (nI_nm6 (by omega))
def pVal (s : Nat → Nat) (p : Nat) : Prop := (pKind s p = 0 → 65 ≤ s p ∧ s p ≤ 72 ∧ 97 ≤ s (p + 1) ∧ s (p + 1) ≤ 108) ∧ (pKind s p = 1 ∨ pKind s p = 2 → 65 ≤ s p ∧ s p ≤ 72 ∧ 97 ≤ s (p + 2) ∧ s (p + 2) ≤ 108 ∧ 65 ≤ s (p + 3) ∧ s (p + 3) ≤ 72) ∧ (pKind s p = 3 → 65 ≤ s p ∧ s p ≤ 72)
theorem pKind_le (s : Nat → Nat) (p : Nat) : pKind s p ≤ 4 := by
  unfold pKind
  repeat' split
  all_goals omega
theorem pVal_of {s : Nat → Nat} {n p : Nat} (hF : cFa s n = none) (hR : cRun s n = 0) (hp : p < n) (h0 : cRun s p = 0) : pVal s p ∧ p + pLen (pKind s p) ≤ n ∧ cRun s (p + pLen (pKind s p)) = 0 := by
  have H := cFa_none n hF
  have r1 : cRun s (p + 1) = cDue 0 (s p) := by rw [cRun, h0]
  have n1 := H p hp
  rw [r1] at n1
  unfold pVal pKind
  by_cases hd : s p = 46
  · rw [if_pos hd]
    have e : cRun s (p + 1) = 0 := by rw [r1, hd]; rfl
    refine ⟨⟨fun q => by omega, fun q => by omega, fun q => by omega⟩, ?_, ?_⟩
    · show p + 1 ≤ n
      omega
    · exact e
  · rw [if_neg hd]
    have ho : 65 ≤ s p ∧ s p ≤ 72 := by
      unfold cDue at n1
      rw [if_pos rfl, if_neg hd] at n1
      by_cases q : 65 ≤ s p ∧ s p ≤ 72
      · exact q
      · rw [if_neg q] at n1
        exact absurd rfl n1
    have e1 : cRun s (p + 1) = 1 := by
      rw [r1]
      unfold cDue
      rw [if_pos rfl, if_neg hd, if_pos ho]
    have hp1 : p + 1 < n := by
      rcases Nat.lt_or_ge (p + 1) n with q | q
      · exact q
      · obtain rfl : n = p + 1 := by omega
        omega
    have r2 : cRun s (p + 2) = cDue 1 (s (p + 1)) := by
      show cDue (cRun s (p + 1)) (s (p + 1)) = _
      rw [e1]
    have n2 := H (p + 1) hp1
    rw [show p + 1 + 1 = p + 2 from rfl, r2] at n2
    by_cases h35 : s (p + 1) = 35
    · rw [if_pos h35]
      refine ⟨⟨fun q => by omega, fun q => by omega, fun _ => ho⟩, ?_, ?_⟩
      · show p + 2 ≤ n
        omega
      · show cRun s (p + 2) = 0
        rw [r2, h35]
        rfl
    · rw [if_neg h35]
      by_cases hs : s (p + 1) = 36 ∨ s (p + 1) = 42
      · have e2 : cRun s (p + 2) = 2 := by
          rw [r2]
          unfold cDue
          rw [if_neg (by decide), if_pos rfl, if_pos hs]
        have hp2 : p + 2 < n := by
          rcases Nat.lt_or_ge (p + 2) n with q | q
          · exact q
          · obtain rfl : n = p + 2 := by omega
            omega
        have r3 : cRun s (p + 3) = cDue 2 (s (p + 2)) := by
          show cDue (cRun s (p + 2)) (s (p + 2)) = _
          rw [e2]
        have n3 := H (p + 2) hp2
        rw [show p + 2 + 1 = p + 3 from rfl, r3] at n3
        have ht : 97 ≤ s (p + 2) ∧ s (p + 2) ≤ 108 := by
          unfold cDue at n3
          rw [if_neg (by decide), if_neg (by decide), if_pos rfl] at n3
          by_cases q : 97 ≤ s (p + 2) ∧ s (p + 2) ≤ 108
          · exact q
          · rw [if_neg q] at n3
            exact absurd rfl n3
        have e3 : cRun s (p + 3) = 3 := by
          rw [r3]
          unfold cDue
          rw [if_neg (by decide), if_neg (by decide), if_pos rfl, if_pos ht]
        have hp3 : p + 3 < n := by
          rcases Nat.lt_or_ge (p + 3) n with q | q
          · exact q
          · obtain rfl : n = p + 3 := by omega
            omega
        have r4 : cRun s (p + 4) = cDue 3 (s (p + 3)) := by
          show cDue (cRun s (p + 3)) (s (p + 3)) = _
          rw [e3]
        have n4 := H (p + 3) hp3
        rw [show p + 3 + 1 = p + 4 from rfl, r4] at n4
        have hq : 65 ≤ s (p + 3) ∧ s (p + 3) ≤ 72 := by
          unfold cDue at n4
          rw [if_neg (by decide), if_neg (by decide), if_neg (by decide), if_pos rfl] at n4
          by_cases q : 65 ≤ s (p + 3) ∧ s (p + 3) ≤ 72
          · exact q
          · rw [if_neg q] at n4
            exact absurd rfl n4
        have e4 : cRun s (p + 4) = 0 := by
          rw [r4]
          unfold cDue
          rw [if_neg (by decide), if_neg (by decide), if_neg (by decide), if_pos rfl, if_pos hq]
        rcases hs with hs | hs
        · rw [if_pos hs]
          exact ⟨⟨fun q => by omega, fun _ => ⟨ho.1, ho.2, ht.1, ht.2, hq.1, hq.2⟩, fun q => by omega⟩, show p + 4 ≤ n by omega, e4⟩
        · rw [if_neg (by omega), if_pos hs]
          exact ⟨⟨fun q => by omega, fun _ => ⟨ho.1, ho.2, ht.1, ht.2, hq.1, hq.2⟩, fun q => by omega⟩, show p + 4 ≤ n by omega, e4⟩
      · rw [if_neg (by omega), if_neg (by omega)]
        have ht : 97 ≤ s (p + 1) ∧ s (p + 1) ≤ 108 := by
          unfold cDue at n2
          rw [if_neg (by decide), if_pos rfl, if_neg hs] at n2
          by_cases q : (97 ≤ s (p + 1) ∧ s (p + 1) ≤ 108) ∨ s (p + 1) = 35
          · omega
          · rw [if_neg q] at n2
            exact absurd rfl n2
        have e2 : cRun s (p + 2) = 0 := by
          rw [r2]
          unfold cDue
          rw [if_neg (by decide), if_pos rfl, if_neg hs, if_pos (Or.inl ht)]
        exact ⟨⟨fun _ => ⟨ho.1, ho.2, ht.1, ht.2⟩, fun q => by omega, fun q => by omega⟩, show p + 2 ≤ n by omega, e2⟩
def pPos (s : Nat → Nat) : Nat → Nat
  | 0 => 0
  | e + 1 => pPos s e + pLen (pKind s (pPos s e))
def pThing (s : Nat → Nat) (p : Nat) : Nat := s (p + (if pKind s p = 0 then 1 else 2)) - 97
def tAct (s : Nat → Nat) (p : Nat) (x : tS) : tS := tStep x (pKind s p) (s p - 65) (pThing s p) (s (p + 3) - 65)
def tRun (s : Nat → Nat) (x : tS) : Nat → tS
  | 0 => x
  | e + 1 => if (tRun s x e).2.2.1 = -6 then tAct s (pPos s e) (tRun s x e) else tRun s x e
theorem pLen_pos (kd : Nat) : 1 ≤ pLen kd := by
  unfold pLen
  repeat' split
  all_goals omega
theorem tRun_stop {s : Nat → Nat} {x : tS} {e : Nat} (h : ¬ (tRun s x e).2.2.1 = -6) : ∀ m, e ≤ m → tRun s x m = tRun s x e := by
  intro m
  induction m with
  | zero =>
    intro he
    obtain rfl : e = 0 := by omega
    rfl
  | succ m ih =>
    intro he
    rcases Nat.lt_or_ge e (m + 1) with q | q
    · have h1 := ih (by omega)
      rw [tRun, h1, if_neg h]
    · obtain rfl : e = m + 1 := by omega
      rfl
theorem pPos_end {s : Nat → Nat} {n : Nat} (hF : cFa s n = none) (hR : cRun s n = 0) : ∀ f e, n - pPos s e ≤ f → pPos s e ≤ n → cRun s (pPos s e) = 0 → ∃ m, e ≤ m ∧ pPos s m = n := by
  intro f
  induction f with
  | zero => intro e h1 h2 _; exact ⟨e, Nat.le_refl _, by omega⟩
  | succ f ih =>
    intro e h1 h2 h3
    rcases Nat.lt_or_ge (pPos s e) n with q | q
    · obtain ⟨-, h4, h5⟩ := pVal_of hF hR q h3
      have := pLen_pos (pKind s (pPos s e))
      obtain ⟨m, h6, h7⟩ := ih (e + 1) (by rw [pPos]; omega) (by rw [pPos]; exact h4) (by rw [pPos]; exact h5)
      exact ⟨m, by omega, h7⟩
    · exact ⟨e, Nat.le_refl _, by omega⟩
theorem pVal_in {s : Nat → Nat} {p : Nat} (h : pVal s p) : acIn (pKind s p) (s p - 65) (pThing s p) (s (p + 3) - 65) := by
  unfold pThing
  refine ⟨fun q => ?_, fun q => ?_, fun q => ?_⟩
  · obtain ⟨h1, h2, h3, h4⟩ := h.1 q
    rw [if_pos q]
    omega
  · obtain ⟨h1, h2, h3, h4, h5, h6⟩ := h.2.1 q
    rw [if_neg (by omega)]
    omega
  · obtain ⟨h1, h2⟩ := h.2.2 q
    omega
theorem tStep_w {x : tS} {kd k t q : Nat} : (tStep x kd k t q).1 = (ac x.1 kd k t q).2 := by
  unfold tStep
  split <;> rfl
theorem tStep_sl {x : tS} {kd k t q : Nat} : (tStep x kd k t q).2.2.2.2.1 ≤ x.2.2.2.2.1 + 1 := by
  unfold tStep
  split
  · dsimp only
    split <;> omega
  · dsimp only
    omega
theorem tRun_go {s : Nat → Nat} {x y : tS} {e p : Nat} (h : y = tRun s x e) (hf : y.2.2.1 = -6) (hp : p = pPos s e) : tAct s p y = tRun s x (e + 1) := by
  subst h
  subst hp
  rw [tRun, if_pos hf]
theorem pLen_le (kd : Nat) : pLen kd ≤ 4 := by
  unfold pLen
  repeat' split
  all_goals omega
theorem qX9_run_28 : Cond.fieldLink RX9 28 (TX3 1).1 (TX3 1).2.1 (TX3 1).2.2.1 ∈ wsX9_run := List.mem_of_getElem? (i := 1) rfl
theorem iX9_run_X3 : ∀ w ∈ wsX30, w ∈ wsX9_run := fun _ h => List.mem_cons_of_mem _ (List.mem_append_left _ (List.mem_append_left _ (List.mem_append_left _ (List.mem_append_right _ h))))
theorem qX9_run_32 : Cond.fieldLink RX9 32 (TX9 2).1 (TX9 2).2.1 (TX9 2).2.2.1 ∈ wsX9_run := List.mem_of_getElem? (i := 2) rfl
theorem iX9_run_X9 : ∀ w ∈ wsX90, w ∈ wsX9_run := fun _ h => List.mem_cons_of_mem _ (List.mem_append_left _ (List.mem_append_left _ (List.mem_append_right _ h)))
theorem qX9_run_46 : Cond.methodLink RX9 46 Lib.Math.max.name ∈ wsX9_run := List.mem_of_getElem? (i := 3) rfl
theorem qX9_run_w4 : Cond.static Lib.Math.max.name ∈ wsX9_run := List.mem_of_getElem? (i := 4) rfl
theorem qX9_run_w5 : Cond.initialized "java/lang/Math" ∈ wsX9_run := List.mem_of_getElem? (i := 5) rfl
theorem qX9_run_w6 : Cond.code Lib.Math.max.name Lib.Math.max.code 2 (some .int) ∈ wsX9_run := List.mem_of_getElem? (i := 6) rfl
theorem c_X9_tryAct (l : Launch) (G : uG) (s : Nat → Nat) (n p0 : Nat) (M : uM) (w : Nat → Nat → Nat) (a : Nat) (fl wy : Int32) (sl : Nat) (fs ft : Int32) (cm : Nat) (hp : pdAt M s n) (ho : pdOk s n) (hw : wOk w) (hs : sl < 1000) (hq : p0 < 1000) (hv : pVal s p0) : CTv l G yX9_tryAct wsX9_tryAct 4 93 [.ref (G.2.2 23), .int (nI (pKind s p0)), .ref (G.2.2 21), .int (nI p0)] (uPW (uTn M a fl wy sl fs ft cm) 24 w) (fun M2 => M2 = tM M (tAct s p0 (w, a, fl, wy, sl, fs, ft, cm))) := by
  unfold tAct pThing
  rcases (show pKind s p0 = 0 ∨ pKind s p0 = 1 ∨ pKind s p0 = 2 ∨ pKind s p0 = 3 ∨ pKind s p0 = 4 by have := pKind_le s p0; omega) with h | h | h | h | h
  · rw [h]
    exact c_X9_tryAct_0 l G s n p0 M w a fl wy sl fs ft cm hp ho hw hs hq (hv.1 h)
  · rw [h]
    exact c_X9_tryAct_1 l G s n p0 M w a fl wy sl fs ft cm hp ho hw hs hq (hv.2.1 (Or.inl h))
  · rw [h]
    exact c_X9_tryAct_2 l G s n p0 M w a fl wy sl fs ft cm hp ho hw hs hq (hv.2.1 (Or.inr h))
  · rw [h]
    exact c_X9_tryAct_3 l G s n p0 M w a fl wy sl fs ft cm hp ho hw hs hq (hv.2.2 h)
  · rw [h]
    exact c_X9_tryAct_4 l G s n p0 M w a fl wy sl fs ft cm hp ho hw hs hq trivial
set_option maxHeartbeats 4000000 in
set_option maxRecDepth 100000 in
theorem c_X9_run (l : Launch) (G : uG) (s : Nat → Nat) (n : Nat) (M : uM) (wo : Nat → Nat → Nat) (a : Nat) (fl wy : Int32) (sl : Nat) (fs ft : Int32) (cm : Nat) (w0 : Nat → Nat → Nat) (hp : pdAt M s n) (ho : pdOk s n) (hr : uRd M 1 w0) (hwo : ∀ j i, ¬ wIn j i → wo j i = 0) (hw0 : wOk w0) : CTi l G yX9_run wsX9_run 5 121 [.ref (G.2.2 23), .ref (G.2.2 1), .ref (G.2.2 21)] (uPW (uTn M a fl wy sl fs ft cm) 24 wo) (fun r M2 => (¬ cFault s n = -6 ∧ r = -5 ∧ M2 = uPW (uTn M a fl wy sl fs ft cm) 24 wo) ∨ (cFault s n = -6 ∧ ∃ m, pPos s m = n ∧ M2 = tM M (tRun s (w0, 0, -6, -6, 0, -6, -6, 0) m) ∧ (((tRun s (w0, 0, -6, -6, 0, -6, -6, 0) m).2.2.1 = -6 ∧ r = 0) ∨ (¬ (tRun s (w0, 0, -6, -6, 0, -6, -6, 0) m).2.2.1 = -6 ∧ r = -3)))) := by
  have hn60 := ho.1
  refine ustart_i (cc := cX9_run) (maxL := 5) (ret := (some .int)) (own := RX9) rfl (by decide) rfl (Nat.le_of_ble_eq_true rfl) ?_
  intro xp xe xs xm xa xb xt xc xA ls S hK hA Z hre hlk hl
  have hl : lv_has ls 5 [(0, .ref (G.2.2 23)), (1, .ref (G.2.2 1)), (2, .ref (G.2.2 21))] := hl
  refine lv_aload_n S.1 S.2.1 dX9_run_0 rfl (lv_at hl 2 rfl) ?_
  refine ud_Vi (As := []) (rest := []) S hK hA Z (c_X3_faultPlace l G (uPW (uTn M a fl wy sl fs ft cm) 24 wo) s n (pdAt_Tn hp _ _ _ _ _ _ _ _) ho) (cwV 0 S.2.2.2.2 gX9_run_X3_faultPlace rfl rfl rfl (by decide +kernel) ⟨Nat.le_of_ble_eq_true rfl, Nat.le_of_ble_eq_true rfl⟩) (by decide) rfl rfl rfl hl.1 rfl (Nat.le_of_ble_eq_true rfl) dX9_run_1 ⟨Nat.zero_le _, Nat.zero_le _⟩ (fun H locs Z => ?_)
  refine lv_bipush (v := (-6)) S.1 S.2.1 dX9_run_4 (by decide) ?_
  refine lv_icmp_eq (tgt := 12) S.1 S.2.1 dX9_run_6 (by decide) (fun c_2 => ?_) (fun c_2 => ?_)
  · skip
    have hF := c_2
    have hF2 := cFault_no ho.1 hF
    refine lv_aload_n S.1 S.2.1 dX9_run_12 rfl (lv_at hl 0 rfl) ?_
    refine lv_aload_n S.1 S.2.1 dX9_run_13 rfl (lv_at hl 1 rfl) ?_
    refine ud_Vv (As := [.ref (G.2.2 1)]) (rest := []) S hK hA Z (c_X9_begin l G M wo a fl wy sl fs ft cm w0 hr hwo hw0.2.2.2.2.2.2) (cwV 1 S.2.2.2.2 gX9_run_X9_begin rfl rfl rfl (by decide +kernel) ⟨Nat.le_of_ble_eq_true rfl, Nat.le_of_ble_eq_true rfl⟩) (by decide) rfl rfl rfl hl.1 rfl (Nat.le_of_ble_eq_true rfl) dX9_run_14 ⟨Nat.zero_le _, Nat.zero_le _⟩ (fun H locs Z => ?_)
    refine lv_iconst (v := 0) S.1 S.2.1 dX9_run_17 (by decide) ?_
    refine lv_istore_n (lv' := [(3, .int 0), (0, .ref (G.2.2 23)), (1, .ref (G.2.2 1)), (2, .ref (G.2.2 21))]) S.1 S.2.1 dX9_run_18 rfl hl (by decide) rfl (fun ls hl => ?_)
    have LP19 : ∀ (fU : Nat) (e : Nat) (p : Nat) (w1 : Nat → Nat → Nat) (a1 : Nat) (fl1 : Int32) (wy1 : Int32) (sl1 : Nat) (fs1 : Int32) (ft1 : Int32) (cm1 : Nat), (n < p + fU) → (p ≤ n) → (p = pPos s e) → (cRun s p = 0) → (((w1, a1, fl1, wy1, sl1, fs1, ft1, cm1) : tS) = tRun s (w0, 0, -6, -6, 0, -6, -6, 0) e) → (wOk w1) → (sl1 ≤ e) → (e ≤ p) → ∀ (H : Heap) (locs : List Loc) (ls : Array Slot), uZ G xA (uPW (uTn M a1 fl1 wy1 sl1 fs1 ft1 cm1) 24 w1) xs.heap H locs → lv_has ls 5 [(3, .int (nI p)), (0, .ref (G.2.2 23)), (1, .ref (G.2.2 1)), (2, .ref (G.2.2 21))] → W xp l xe (uRm 5 121) xs xm xa xb xt xc H locs 0 0 (MQ xb (va_Qi (fun r M2 => (¬ cFault s n = -6 ∧ r = -5 ∧ M2 = uPW (uTn M a fl wy sl fs ft cm) 24 wo) ∨ (cFault s n = -6 ∧ ∃ m, pPos s m = n ∧ M2 = tM M (tRun s (w0, 0, -6, -6, 0, -6, -6, 0) m) ∧ (((tRun s (w0, 0, -6, -6, 0, -6, -6, 0) m).2.2.1 = -6 ∧ r = 0) ∨ (¬ (tRun s (w0, 0, -6, -6, 0, -6, -6, 0) m).2.2.1 = -6 ∧ r = -3)))) (fun M' t => uB G M' t) xA) xa xs 0 0 xA) (F0 xm 19 ls []) := by
      intro fU
      induction fU with
      | zero =>
        intro e p w1 a1 fl1 wy1 sl1 fs1 ft1 cm1 hfl i1 i2 i3 i4 i5 i6 i7 H locs ls Z hl
        exfalso
        omega
      | succ fU ih19 =>
        intro e p w1 a1 fl1 wy1 sl1 fs1 ft1 cm1 hfl i1 i2 i3 i4 i5 i6 i7 H locs ls Z hl
        refine lv_iload_n S.1 S.2.1 dX9_run_19 rfl (lv_at hl 0 rfl) ?_
        refine lv_aload_n S.1 S.2.1 dX9_run_20 rfl (lv_at hl 3 rfl) ?_
        refine ug_i S hK Z (j := 1) (by decide) rfl rfl rfl (by decide) iX9_run_X3 qX9_run_28 dX9_run_21 ?_
        refine utop (y := (nI n)) (pdAt_Tn hp _ _ _ _ _ _ _ _).2 ?_
        refine lv_icmp_ge (tgt := 66) S.1 S.2.1 dX9_run_24 (by decide) (fun c_4 => ?_) (fun c_4 => ?_)
        · skip
          have c_4 : n ≤ p := (nI_leI (a := n) (b := p) (by omega) (by omega)).mp c_4
          refine lv_aload_n S.1 S.2.1 dX9_run_66 rfl (lv_at hl 1 rfl) ?_
          refine ug_i S hK Z (j := 2) (by decide) rfl rfl rfl (by decide) iX9_run_X9 qX9_run_32 dX9_run_67 ?_
          refine utop (y := fl1) (uPW_o (uTn M a1 fl1 wy1 sl1 fs1 ft1 cm1) 24 w1 2 (a := 23) (Or.inl (by decide))) ?_
          refine lv_bipush (v := (-6)) S.1 S.2.1 dX9_run_70 (by decide) ?_
          refine lv_icmp_ne (tgt := 79) S.1 S.2.1 dX9_run_72 (by decide) (fun c_5 => ?_) (fun c_5 => ?_)
          · skip
            refine lv_bipush (v := (-3)) S.1 S.2.1 dX9_run_79 (by decide) ?_
            refine uret_i S hK Z hre hlk dX9_run_81 ?_
            first
              | (exact Or.inr ⟨hF, e, by rw [← i2]; omega, by rw [← i4] <;> rfl, Or.inr ⟨by rw [← i4]; assumption, rfl⟩⟩)
              | (obtain ⟨m9, hm1, hm2⟩ := pPos_end hF2.1 hF2.2 n e (by omega) (by rw [← i2]; omega) (by rw [← i2]; exact i3)
                 have hs := tRun_stop (s := s) (x := (w0, 0, -6, -6, 0, -6, -6, 0)) (e := e) (by rw [← i4]; assumption) m9 hm1
                 exact Or.inr ⟨hF, m9, hm2, by rw [hs, ← i4] <;> rfl, Or.inr ⟨by rw [hs, ← i4]; assumption, rfl⟩⟩)
          · skip
            refine lv_iconst (v := 0) S.1 S.2.1 dX9_run_75 (by decide) ?_
            refine lv_goto (tgt := 81) S.1 S.2.1 dX9_run_76 (by decide) ?_
            refine uret_i S hK Z hre hlk dX9_run_81 ?_
            first | contradiction | (exact Or.inr ⟨hF, e, by rw [← i2]; omega, by rw [← i4] <;> rfl, Or.inl ⟨by rw [← i4]; assumption, rfl⟩⟩)
        · skip
          have c_4 : ¬ n ≤ p := fun z9 => c_4 ((nI_leI (a := n) (b := p) (by omega) (by omega)).mpr z9)
          refine lv_aload_n S.1 S.2.1 dX9_run_27 rfl (lv_at hl 1 rfl) ?_
          refine ug_i S hK Z (j := 2) (by decide) rfl rfl rfl (by decide) iX9_run_X9 qX9_run_32 dX9_run_28 ?_
          refine utop (y := fl1) (uPW_o (uTn M a1 fl1 wy1 sl1 fs1 ft1 cm1) 24 w1 2 (a := 23) (Or.inl (by decide))) ?_
          refine lv_bipush (v := (-6)) S.1 S.2.1 dX9_run_31 (by decide) ?_
          refine lv_icmp_ne (tgt := 66) S.1 S.2.1 dX9_run_33 (by decide) (fun c_6 => ?_) (fun c_6 => ?_)
          · skip
            refine lv_aload_n S.1 S.2.1 dX9_run_66 rfl (lv_at hl 1 rfl) ?_
            refine ug_i S hK Z (j := 2) (by decide) rfl rfl rfl (by decide) iX9_run_X9 qX9_run_32 dX9_run_67 ?_
            refine utop (y := fl1) (uPW_o (uTn M a1 fl1 wy1 sl1 fs1 ft1 cm1) 24 w1 2 (a := 23) (Or.inl (by decide))) ?_
            refine lv_bipush (v := (-6)) S.1 S.2.1 dX9_run_70 (by decide) ?_
            refine lv_icmp_ne (tgt := 79) S.1 S.2.1 dX9_run_72 (by decide) (fun c_7 => ?_) (fun c_7 => ?_)
            · skip
              refine lv_bipush (v := (-3)) S.1 S.2.1 dX9_run_79 (by decide) ?_
              refine uret_i S hK Z hre hlk dX9_run_81 ?_
              first
                | (exact Or.inr ⟨hF, e, by rw [← i2]; omega, by rw [← i4] <;> rfl, Or.inr ⟨by rw [← i4]; assumption, rfl⟩⟩)
                | (obtain ⟨m9, hm1, hm2⟩ := pPos_end hF2.1 hF2.2 n e (by omega) (by rw [← i2]; omega) (by rw [← i2]; exact i3)
                   have hs := tRun_stop (s := s) (x := (w0, 0, -6, -6, 0, -6, -6, 0)) (e := e) (by rw [← i4]; assumption) m9 hm1
                   exact Or.inr ⟨hF, m9, hm2, by rw [hs, ← i4] <;> rfl, Or.inr ⟨by rw [hs, ← i4]; assumption, rfl⟩⟩)
            · skip
              refine lv_iconst (v := 0) S.1 S.2.1 dX9_run_75 (by decide) ?_
              refine lv_goto (tgt := 81) S.1 S.2.1 dX9_run_76 (by decide) ?_
              refine uret_i S hK Z hre hlk dX9_run_81 ?_
              first | contradiction | (exact Or.inr ⟨hF, e, by rw [← i2]; omega, by rw [← i4] <;> rfl, Or.inl ⟨by rw [← i4]; assumption, rfl⟩⟩)
          · skip
            obtain ⟨v1, v2, v3⟩ := pVal_of hF2.1 hF2.2 (show p < n by omega) i3
            have v4 := pKind_le s p
            have v5 := pLen_le (pKind s p)
            have v6 := pLen_pos (pKind s p)
            have v7 : max 1 (pLen (pKind s p)) = pLen (pKind s p) := Nat.max_eq_right v6
            refine lv_aload_n S.1 S.2.1 dX9_run_36 rfl (lv_at hl 3 rfl) ?_
            refine lv_iload_n S.1 S.2.1 dX9_run_37 rfl (lv_at hl 0 rfl) ?_
            refine ud_Vi (As := [.int (nI p)]) (rest := []) S hK hA Z (c_X3_kindAt l G p (by omega) (uPW (uTn M a1 fl1 wy1 sl1 fs1 ft1 cm1) 24 w1) s n (pdAt_Tn hp _ _ _ _ _ _ _ _) ho) (cwV 1 S.2.2.2.2 gX9_run_X3_kindAt rfl rfl rfl (by decide +kernel) ⟨Nat.le_of_ble_eq_true rfl, Nat.le_of_ble_eq_true rfl⟩) (by decide) rfl rfl rfl hl.1 rfl (Nat.le_of_ble_eq_true rfl) dX9_run_38 ⟨Nat.zero_le _, Nat.zero_le _⟩ (fun H locs Z => ?_)
            refine lv_istore (lv' := [(4, .int (nI (pKind s p))), (3, .int (nI p)), (0, .ref (G.2.2 23)), (1, .ref (G.2.2 1)), (2, .ref (G.2.2 21))]) S.1 S.2.1 dX9_run_41 hl (by decide) rfl (fun ls hl => ?_)
            refine lv_aload_n S.1 S.2.1 dX9_run_43 rfl (lv_at hl 2 rfl) ?_
            refine lv_iload S.1 S.2.1 dX9_run_44 (lv_at hl 0 rfl) ?_
            refine lv_aload_n S.1 S.2.1 dX9_run_46 rfl (lv_at hl 4 rfl) ?_
            refine lv_iload_n S.1 S.2.1 dX9_run_47 rfl (lv_at hl 1 rfl) ?_
            refine ud_Vv (As := [.int (nI (pKind s p)), .ref (G.2.2 21), .int (nI p)]) (rest := []) S hK hA Z (c_X9_tryAct l G s n p M w1 a1 fl1 wy1 sl1 fs1 ft1 cm1 hp ho i5 (by omega) (by omega) v1) (cwV 3 S.2.2.2.2 gX9_run_X9_tryAct rfl rfl rfl (by decide +kernel) ⟨Nat.le_of_ble_eq_true rfl, Nat.le_of_ble_eq_true rfl⟩) (by decide) rfl rfl rfl hl.1 rfl (Nat.le_of_ble_eq_true rfl) dX9_run_48 ⟨Nat.zero_le _, Nat.zero_le _⟩ (fun H locs Z => ?_)
            obtain ⟨x9, hx9⟩ : ∃ X : tS, X = tAct s p (w1, a1, fl1, wy1, sl1, fs1, ft1, cm1) := ⟨_, rfl⟩
            rw [← hx9] at Z
            have Z := uZ_eq (show tM M x9 = (uPW (uTn M x9.2.1 x9.2.2.1 x9.2.2.2.1 x9.2.2.2.2.1 x9.2.2.2.2.2.1 x9.2.2.2.2.2.2.1 x9.2.2.2.2.2.2.2) 24 x9.1) from rfl) Z
            refine lv_iload_n S.1 S.2.1 dX9_run_51 rfl (lv_at hl 1 rfl) ?_
            refine lv_iconst (v := 1) S.1 S.2.1 dX9_run_52 (by decide) ?_
            refine lv_iload S.1 S.2.1 dX9_run_53 (lv_at hl 0 rfl) ?_
            refine ud_Si (As := [.int (nI (pKind s p))]) (rest := [.int 1, .int (nI p)]) S hK hA Z (c_X3_lengthOf l G (pKind s p) (by omega) (uPW (uTn M x9.2.1 x9.2.2.1 x9.2.2.2.1 x9.2.2.2.2.1 x9.2.2.2.2.2.1 x9.2.2.2.2.2.2.1 x9.2.2.2.2.2.2.2) 24 x9.1)) (va_cwS 1 S.2.2.2.2 gX9_run_X3_lengthOf rfl rfl rfl (by decide +kernel) ⟨Nat.le_of_ble_eq_true rfl, Nat.le_of_ble_eq_true rfl⟩) rfl hl.1 rfl (Nat.le_of_ble_eq_true rfl) dX9_run_55 ⟨Nat.zero_le _, Nat.zero_le _⟩ (fun H locs Z => ?_)
            refine va_mmax S.1 S.2.1 (S.2.2.1.trans hl.1.symm) S.2.2.2.1 (S.2.2.2.2 _ qX9_run_46) (S.2.2.2.2 _ qX9_run_w4) (S.2.2.2.2 _ qX9_run_w5) (S.2.2.2.2 _ qX9_run_w6) (Nat.le_of_ble_eq_true rfl) (Nat.le_of_ble_eq_true rfl) (Nat.zero_le _) (Nat.zero_le _) dX9_run_58 ?_
            refine utop (u_mmax (a := 1) (b := (pLen (pKind s p))) (by omega) (by omega)) ?_
            refine lv_iadd S.1 S.2.1 dX9_run_61 ?_
            refine utop (nI_add p (max 1 (pLen (pKind s p)))) ?_
            refine lv_istore_n (lv' := [(3, .int (nI (p + (max 1 (pLen (pKind s p)))))), (4, .int (nI (pKind s p))), (0, .ref (G.2.2 23)), (1, .ref (G.2.2 1)), (2, .ref (G.2.2 21))]) S.1 S.2.1 dX9_run_62 rfl hl (by decide) rfl (fun ls hl => ?_)
            refine lv_goto (tgt := 19) S.1 S.2.1 dX9_run_63 (by decide) ?_
            exact ih19 (e + 1) (p + (max 1 (pLen (pKind s p)))) x9.1 x9.2.1 x9.2.2.1 x9.2.2.2.1 x9.2.2.2.2.1 x9.2.2.2.2.2.1 x9.2.2.2.2.2.2.1 x9.2.2.2.2.2.2.2 (by omega) (by omega) (by rw [pPos, ← i2, v7]) (by rw [v7]; exact v3) (by exact hx9.trans (tRun_go i4 (by assumption) i2)) (by rw [hx9]; unfold tAct; rw [tStep_w]; exact ac_ok i5 (pVal_in v1)) (by rw [hx9]; unfold tAct; exact Nat.le_trans tStep_sl (Nat.succ_le_succ i6)) (by omega) _ _ _ Z (lv_sub hl [0, 2, 3, 4] rfl)
    exact LP19 (n + 1) 0 0 w0 0 (-6) (-6) 0 (-6) (-6) 0 (by omega) (by omega) (by rfl) (by rfl) (by rfl) (by exact hw0) (by exact Nat.le_refl _) (by omega) _ _ _ Z (lv_sub hl [0, 1, 2, 3] rfl)
  · skip
    refine lv_bipush (v := (-5)) S.1 S.2.1 dX9_run_9 (by decide) ?_
    refine uret_i S hK Z hre hlk dX9_run_11 ?_
    exact Or.inl ⟨by assumption, rfl, rfl⟩
