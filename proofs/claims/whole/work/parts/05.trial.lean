/-! copying a world -/
def wcp (w1 w : Nat → Nat → Nat) (j n : Nat) : Nat → Nat → Nat := fun a c => if a = j ∧ c < n then w a c else w1 a c
theorem uPW_c (M : uM) (b : Nat) (w : Nat → Nat → Nat) {a : Nat} (i : Nat) (v : Int32) (ha : a < b ∨ b + 10 ≤ a) : u1 (uPW M b w) a i v = uPW (u1 M a i v) b w := uM_ext (fun x c => by
  rw [u1_1]
  by_cases h : b ≤ x ∧ x < b + 10
  · obtain ⟨d, rfl⟩ : ∃ d, x = b + d := ⟨x - b, by omega⟩
    rw [if_neg (by omega), uPW_g _ _ _ _ (by omega), uPW_g _ _ _ _ (by omega)]
  · rw [uPW_o _ _ _ _ (by omega), uPW_o _ _ _ _ (by omega), u1_1]) rfl
theorem uPW_cp {M : uM} {b f : Nat} {w1 w : Nat → Nat → Nat} (n : Nat) {j : Nat} (hj : j < 10) (hr : uRd M f w) (hd : f + 10 ≤ b ∨ b + 10 ≤ f) : uCpy (uPW M b w1) (f + j) (b + j) n = uPW M b (wcp w1 w j n) := uM_ext (fun x c => by
  show (if x = b + j ∧ c < n then (uPW M b w1).1 (f + j) c else (uPW M b w1).1 x c) = _
  rw [uPW_o M b w1 c (a := f + j) (by omega), hr j hj c]
  by_cases h : b ≤ x ∧ x < b + 10
  · obtain ⟨d, rfl⟩ : ∃ d, x = b + d := ⟨x - b, by omega⟩
    rw [uPW_g _ _ _ _ (by omega), uPW_g _ _ _ _ (by omega)]
    unfold wcp
    by_cases h2 : d = j ∧ c < n
    · obtain ⟨rfl, h3⟩ := h2
      rw [if_pos ⟨rfl, h3⟩, if_pos ⟨rfl, h3⟩]
    · rw [if_neg (fun q => h2 ⟨by omega, q.2⟩), if_neg h2]
  · rw [if_neg (by omega), uPW_o _ _ _ _ (by omega), uPW_o _ _ _ _ (by omega)]) rfl
theorem uPW_ov {M : uM} {b f : Nat} (w1 : Nat → Nat → Nat) {w : Nat → Nat → Nat} {j : Nat} (i : Nat) (hj : j < 10) (hr : uRd M f w) (hd : f + 10 ≤ b ∨ b + 10 ≤ f) : (uPW M b w1).1 (f + j) i = nI (w j i) := by
  rw [uPW_o _ _ _ _ (by omega), hr j hj]
def wAll (w1 w : Nat → Nat → Nat) : Nat → Nat → Nat := wu (wu (wu (wcp (wcp (wcp (wcp (wcp (wcp (wcp (wcp w1 w 1 12) w 2 12) w 3 12) w 4 12) w 5 8) w 6 8) w 8 8) w 9 8) 7 2 (w 7 2)) 0 7 (w 0 7)) 0 8 (w 0 8)
theorem wAll_eq {w1 w : Nat → Nat → Nat} (h1 : ∀ j i, ¬ wIn j i → w1 j i = 0) (h : ∀ j i, ¬ wIn j i → w j i = 0) : wAll w1 w = w := by
  funext a c
  by_cases hi : wIn a c
  · unfold wIn at hi
    unfold wAll wu wcp
    rcases hi with ⟨rfl, rfl | rfl⟩ | ⟨h2, h3, h4⟩ | ⟨rfl | rfl | rfl | rfl, h3⟩ | ⟨rfl, rfl⟩
    · simp
    · simp
    · have h5 : a = 1 ∨ a = 2 ∨ a = 3 ∨ a = 4 := by omega
      rcases h5 with rfl | rfl | rfl | rfl <;> simp [h4]
    · simp [h3]
    · simp [h3]
    · simp [h3]
    · simp [h3]
    · simp
  · rw [h a c hi, ← h1 a c hi]
    unfold wIn at hi
    unfold wAll wu wcp
    rw [if_neg (by omega), if_neg (by omega), if_neg (by omega), if_neg (by omega), if_neg (by omega), if_neg (by omega), if_neg (by omega), if_neg (by omega), if_neg (by omega), if_neg (by omega), if_neg (by omega)]
/-! the pad: what must come next (the class's way) -/
def cDue (d c : Nat) : Nat :=
  if d = 0 then (if c = 46 then 0 else if 65 ≤ c ∧ c ≤ 72 then 1 else 4)
  else if d = 1 then (if c = 36 ∨ c = 42 then 2 else if (97 ≤ c ∧ c ≤ 108) ∨ c = 35 then 0 else 4)
  else if d = 2 then (if 97 ≤ c ∧ c ≤ 108 then 3 else 4)
  else if d = 3 then (if 65 ≤ c ∧ c ≤ 72 then 0 else 4)
  else 4
theorem cDue_le (d c : Nat) : cDue d c ≤ 4 := by
  unfold cDue
  repeat' split
  all_goals omega
def cRun (s : Nat → Nat) : Nat → Nat
  | 0 => 0
  | i + 1 => cDue (cRun s i) (s i)
theorem cRun_le (s : Nat → Nat) (i : Nat) : cRun s i ≤ 4 := by
  cases i with
  | zero => exact Nat.zero_le _
  | succ i => exact cDue_le _ _
def cFa (s : Nat → Nat) : Nat → Option Nat
  | 0 => none
  | i + 1 => match cFa s i with
    | some p => some p
    | none => if cRun s (i + 1) = 4 then some i else none
def cFault (s : Nat → Nat) (n : Nat) : Int32 := match cFa s n with
  | some p => nI p
  | none => if cRun s n = 0 then -6 else nI n
theorem cFa_up {s : Nat → Nat} {i p : Nat} (h : cFa s i = some p) : ∀ n, i ≤ n → cFa s n = some p := by
  intro n
  induction n with
  | zero =>
    intro hn
    obtain rfl : i = 0 := by omega
    exact h
  | succ n ih =>
    intro hn
    rcases Nat.lt_or_ge i (n + 1) with q | q
    · have := ih (by omega)
      simp [cFa, this]
    · obtain rfl : i = n + 1 := by omega
      exact h
theorem cFa_at {s : Nat → Nat} {i : Nat} (h : cFa s i = none) (h4 : cRun s (i + 1) = 4) : cFa s (i + 1) = some i := by
  simp [cFa, h, h4]
theorem cFa_go {s : Nat → Nat} {i : Nat} (h : cFa s i = none) (h4 : ¬ cRun s (i + 1) = 4) : cFa s (i + 1) = none := by
  simp [cFa, h, h4]
def pdAt (M : uM) (s : Nat → Nat) (n : Nat) : Prop := (∀ i, M.1 22 i = nI (s i)) ∧ M.1 21 1 = nI n
def pdOk (s : Nat → Nat) (n : Nat) : Prop := n ≤ 60 ∧ (∀ i, 60 ≤ i → s i = 0) ∧ ∀ i, s i < 127
def pKind (s : Nat → Nat) (p : Nat) : Nat := if s p = 46 then 4 else if s (p + 1) = 35 then 3 else if s (p + 1) = 36 then 1 else if s (p + 1) = 42 then 2 else 0
def pLen (kd : Nat) : Nat := if kd = 4 then 1 else if kd = 1 ∨ kd = 2 then 4 else 2
/-! a trial -/
def uTn (M : uM) (ac : Nat) (fl wy : Int32) (sl : Nat) (fs ft : Int32) (cm : Nat) : uM := (fun a i => if a = 23 then (if i = 1 then nI ac else if i = 2 then fl else if i = 3 then wy else if i = 4 then nI sl else if i = 5 then fs else if i = 6 then ft else if i = 7 then nI cm else M.1 a i) else M.1 a i, M.2)
theorem uTn_o (M : uM) (ac : Nat) (fl wy : Int32) (sl : Nat) (fs ft : Int32) (cm : Nat) {a : Nat} (i : Nat) (h : a ≠ 23) : (uTn M ac fl wy sl fs ft cm).1 a i = M.1 a i := by simp [uTn, h]
theorem uTn_s1 (M : uM) (ac : Nat) (fl wy : Int32) (sl : Nat) (fs ft : Int32) (cm v : Nat) : u1 (uTn M ac fl wy sl fs ft cm) 23 1 (nI v) = uTn M v fl wy sl fs ft cm := uM_ext (fun a i => by
  rw [u1_1]
  unfold uTn
  dsimp only
  by_cases h : a = 23 <;> by_cases h2 : i = 1 <;> simp [h, h2]) rfl
theorem uTn_s2 (M : uM) (ac : Nat) (fl wy : Int32) (sl : Nat) (fs ft : Int32) (cm : Nat) (v : Int32) : u1 (uTn M ac fl wy sl fs ft cm) 23 2 v = uTn M ac v wy sl fs ft cm := uM_ext (fun a i => by
  rw [u1_1]
  unfold uTn
  dsimp only
  by_cases h : a = 23 <;> by_cases h2 : i = 2 <;> simp [h, h2]) rfl
theorem uTn_s3 (M : uM) (ac : Nat) (fl wy : Int32) (sl : Nat) (fs ft : Int32) (cm : Nat) (v : Int32) : u1 (uTn M ac fl wy sl fs ft cm) 23 3 v = uTn M ac fl v sl fs ft cm := uM_ext (fun a i => by
  rw [u1_1]
  unfold uTn
  dsimp only
  by_cases h : a = 23 <;> by_cases h2 : i = 3 <;> simp [h, h2]) rfl
theorem uTn_s4 (M : uM) (ac : Nat) (fl wy : Int32) (sl : Nat) (fs ft : Int32) (cm v : Nat) : u1 (uTn M ac fl wy sl fs ft cm) 23 4 (nI v) = uTn M ac fl wy v fs ft cm := uM_ext (fun a i => by
  rw [u1_1]
  unfold uTn
  dsimp only
  by_cases h : a = 23 <;> by_cases h2 : i = 4 <;> simp [h, h2]) rfl
theorem uTn_s5 (M : uM) (ac : Nat) (fl wy : Int32) (sl : Nat) (fs ft : Int32) (cm : Nat) (v : Int32) : u1 (uTn M ac fl wy sl fs ft cm) 23 5 v = uTn M ac fl wy sl v ft cm := uM_ext (fun a i => by
  rw [u1_1]
  unfold uTn
  dsimp only
  by_cases h : a = 23 <;> by_cases h2 : i = 5 <;> simp [h, h2]) rfl
theorem uTn_s6 (M : uM) (ac : Nat) (fl wy : Int32) (sl : Nat) (fs ft : Int32) (cm : Nat) (v : Int32) : u1 (uTn M ac fl wy sl fs ft cm) 23 6 v = uTn M ac fl wy sl fs v cm := uM_ext (fun a i => by
  rw [u1_1]
  unfold uTn
  dsimp only
  by_cases h : a = 23 <;> by_cases h2 : i = 6 <;> simp [h, h2]) rfl
theorem uTn_s7 (M : uM) (ac : Nat) (fl wy : Int32) (sl : Nat) (fs ft : Int32) (cm v : Nat) : u1 (uTn M ac fl wy sl fs ft cm) 23 7 (nI v) = uTn M ac fl wy sl fs ft v := uM_ext (fun a i => by
  rw [u1_1]
  unfold uTn
  dsimp only
  by_cases h : a = 23 <;> by_cases h2 : i = 7 <;> simp [h, h2]) rfl
/-- what a trial is: the world, how many acts, which failed, why, how many were sold, the first sale, the first sold, what it came to -/
abbrev tS : Type := (Nat → Nat → Nat) × Nat × Int32 × Int32 × Nat × Int32 × Int32 × Nat
def tM (M : uM) (x : tS) : uM := uPW (uTn M x.2.1 x.2.2.1 x.2.2.2.1 x.2.2.2.2.1 x.2.2.2.2.2.1 x.2.2.2.2.2.2.1 x.2.2.2.2.2.2.2) 24 x.1
def tStep (x : tS) (kd k t q : Nat) : tS :=
  if (ac x.1 kd k t q).1 = 0 then ((ac x.1 kd k t q).2, x.2.1 + 1, x.2.2.1, x.2.2.2.1, if kd = 1 then x.2.2.2.2.1 + 1 else x.2.2.2.2.1, if kd = 1 then (if x.2.2.2.2.1 = 0 then nI x.2.1 else x.2.2.2.2.2.1) else x.2.2.2.2.2.1, if kd = 1 then (if x.2.2.2.2.1 = 0 then nI t else x.2.2.2.2.2.2.1) else x.2.2.2.2.2.2.1, if kd = 1 then x.2.2.2.2.2.2.2 + wPrice x.1 t else x.2.2.2.2.2.2.2)
  else ((ac x.1 kd k t q).2, x.2.1, nI x.2.1, nI (ac x.1 kd k t q).1, x.2.2.2.2)
theorem tStep_ok {x : tS} {kd k t q : Nat} (h : (ac x.1 kd k t q).1 = 0) : tStep x kd k t q = ((ac x.1 kd k t q).2, x.2.1 + 1, x.2.2.1, x.2.2.2.1, if kd = 1 then x.2.2.2.2.1 + 1 else x.2.2.2.2.1, if kd = 1 then (if x.2.2.2.2.1 = 0 then nI x.2.1 else x.2.2.2.2.2.1) else x.2.2.2.2.2.1, if kd = 1 then (if x.2.2.2.2.1 = 0 then nI t else x.2.2.2.2.2.2.1) else x.2.2.2.2.2.2.1, if kd = 1 then x.2.2.2.2.2.2.2 + wPrice x.1 t else x.2.2.2.2.2.2.2) := if_pos h
theorem tStep_no {x : tS} {kd k t q : Nat} (h : ¬ (ac x.1 kd k t q).1 = 0) : tStep x kd k t q = ((ac x.1 kd k t q).2, x.2.1, nI x.2.1, nI (ac x.1 kd k t q).1, x.2.2.2.2) := if_neg h
theorem uRd_Tn {M : uM} {w : Nat → Nat → Nat} {b : Nat} (hb : b ≤ 13 ∨ 24 ≤ b) (h : uRd M b w) (ac : Nat) (fl wy : Int32) (sl : Nat) (fs ft : Int32) (cm : Nat) : uRd (uTn M ac fl wy sl fs ft cm) b w := fun j hj i => (uTn_o M ac fl wy sl fs ft cm i (by omega)).trans (h j hj i)
theorem uPW_scp {M : uM} {b f : Nat} {w1 w : Nat → Nat → Nat} (hr : uRd M f w) (hd : f + 10 ≤ b ∨ b + 10 ≤ f) : u1 (uCpy (uCpy (uPW M b w1) (f + 7 + 1) (b + 7 + 1) 8) (f + 7 + 2) (b + 7 + 2) 8) (b + 7) 2 ((uCpy (uCpy (uPW M b w1) (f + 7 + 1) (b + 7 + 1) 8) (f + 7 + 2) (b + 7 + 2) 8).1 (f + 7) 2) = uPW M b (wu (wcp (wcp w1 w 8 8) w 9 8) 7 2 (w 7 2)) := by
  show u1 (uCpy (uCpy (uPW M b w1) (f + 8) (b + 8) 8) (f + 9) (b + 9) 8) (b + 7) 2 ((uCpy (uCpy (uPW M b w1) (f + 8) (b + 8) 8) (f + 9) (b + 9) 8).1 (f + 7) 2) = _
  rw [uPW_cp (w1 := w1) 8 (j := 8) (by decide) hr hd, uPW_cp 8 (j := 9) (by decide) hr hd, uPW_ov _ (j := 7) 2 (by decide) hr hd, uPW_s _ _ _ _ _ (by decide)]
theorem pdAt_Tn {M : uM} {s : Nat → Nat} {n : Nat} (h : pdAt M s n) (ac : Nat) (fl wy : Int32) (sl : Nat) (fs ft : Int32) (cm : Nat) (w : Nat → Nat → Nat) : pdAt (uPW (uTn M ac fl wy sl fs ft cm) 24 w) s n :=
  ⟨fun i => (uPW_o _ _ _ _ (by decide)).trans ((uTn_o M ac fl wy sl fs ft cm i (by decide)).trans (h.1 i)), (uPW_o _ _ _ _ (by decide)).trans ((uTn_o M ac fl wy sl fs ft cm 1 (by decide)).trans h.2)⟩
theorem acSell_ok {w : Nat → Nat → Nat} {k t q : Nat} (h : (acSell w k t q).1 = 0) : 2 ≤ w 2 t := by
  unfold acSell at h
  split at h
  · split at h
    · exact absurd h (by simp)
    · omega
  · rename_i h2
    exact absurd h h2
theorem ac_le (w : Nat → Nat → Nat) (kd k t q : Nat) : (ac w kd k t q).1 ≤ 6 := by
  have h := acWhy_le w k t q
  unfold ac acTake acSell acGive acNight
  repeat' split
  all_goals (dsimp only; omega)
theorem qX8_copy_9 : Cond.fieldLink RX8 9 (TX8 0).1 (TX8 0).2.1 (TX8 0).2.2.1 ∈ wsX8_copy := List.mem_of_getElem? (i := 1) rfl
theorem iX8_copy_X8 : ∀ w ∈ wsX80, w ∈ wsX8_copy := fun _ h => List.mem_cons_of_mem _ (List.mem_append_right _ h)
theorem qX8_copy_13 : Cond.fieldLink RX8 13 (TX8 1).1 (TX8 1).2.1 (TX8 1).2.2.1 ∈ wsX8_copy := List.mem_of_getElem? (i := 2) rfl
theorem qX8_copy_16 : Cond.fieldLink RX8 16 (TX8 2).1 (TX8 2).2.1 (TX8 2).2.2.1 ∈ wsX8_copy := List.mem_of_getElem? (i := 3) rfl
theorem qX10_copy_9 : Cond.fieldLink RX10 9 (TX10 0).1 (TX10 0).2.1 (TX10 0).2.2.1 ∈ wsX10_copy := List.mem_of_getElem? (i := 1) rfl
theorem iX10_copy_X10 : ∀ w ∈ wsX100, w ∈ wsX10_copy := fun _ h => List.mem_cons_of_mem _ (List.mem_append_left _ (List.mem_append_right _ h))
theorem qX10_copy_15 : Cond.fieldLink RX10 15 (TX10 1).1 (TX10 1).2.1 (TX10 1).2.2.1 ∈ wsX10_copy := List.mem_of_getElem? (i := 2) rfl
theorem qX10_copy_18 : Cond.fieldLink RX10 18 (TX10 2).1 (TX10 2).2.1 (TX10 2).2.2.1 ∈ wsX10_copy := List.mem_of_getElem? (i := 3) rfl
theorem qX10_copy_21 : Cond.fieldLink RX10 21 (TX10 3).1 (TX10 3).2.1 (TX10 3).2.2.1 ∈ wsX10_copy := List.mem_of_getElem? (i := 4) rfl
theorem qX10_copy_24 : Cond.fieldLink RX10 24 (TX10 4).1 (TX10 4).2.1 (TX10 4).2.2.1 ∈ wsX10_copy := List.mem_of_getElem? (i := 5) rfl
theorem qX10_copy_27 : Cond.fieldLink RX10 27 (TX10 5).1 (TX10 5).2.1 (TX10 5).2.2.1 ∈ wsX10_copy := List.mem_of_getElem? (i := 6) rfl
theorem qX10_copy_33 : Cond.fieldLink RX10 33 (TX10 6).1 (TX10 6).2.1 (TX10 6).2.2.1 ∈ wsX10_copy := List.mem_of_getElem? (i := 7) rfl
theorem qX10_copy_37 : Cond.fieldLink RX10 37 (TX10 7).1 (TX10 7).2.1 (TX10 7).2.2.1 ∈ wsX10_copy := List.mem_of_getElem? (i := 8) rfl
theorem qX10_copy_41 : Cond.fieldLink RX10 41 (TX10 8).1 (TX10 8).2.1 (TX10 8).2.2.1 ∈ wsX10_copy := List.mem_of_getElem? (i := 9) rfl
theorem qX3_signAt_11 : Cond.fieldLink RX3 11 (TX3 0).1 (TX3 0).2.1 (TX3 0).2.2.1 ∈ wsX3_signAt := List.mem_of_getElem? (i := 1) rfl
theorem iX3_signAt_X3 : ∀ w ∈ wsX30, w ∈ wsX3_signAt := fun _ h => List.mem_cons_of_mem _ (List.mem_append_right _ h)
theorem qX3_faultPlace_15 : Cond.fieldLink RX3 15 (TX3 1).1 (TX3 1).2.1 (TX3 1).2.2.1 ∈ wsX3_faultPlace := List.mem_of_getElem? (i := 1) rfl
theorem iX3_faultPlace_X3 : ∀ w ∈ wsX30, w ∈ wsX3_faultPlace := fun _ h => List.mem_cons_of_mem _ (List.mem_append_right _ h)
theorem qX9_noteSale_61 : Cond.fieldLink RX9 61 (TX9 4).1 (TX9 4).2.1 (TX9 4).2.2.1 ∈ wsX9_noteSale := List.mem_of_getElem? (i := 1) rfl
theorem iX9_noteSale_X9 : ∀ w ∈ wsX90, w ∈ wsX9_noteSale := fun _ h => List.mem_cons_of_mem _ (List.mem_append_right _ h)
theorem qX9_noteSale_70 : Cond.fieldLink RX9 70 (TX9 7).1 (TX9 7).2.1 (TX9 7).2.2.1 ∈ wsX9_noteSale := List.mem_of_getElem? (i := 5) rfl
theorem qX9_noteSale_55 : Cond.fieldLink RX9 55 (TX9 1).1 (TX9 1).2.1 (TX9 1).2.2.1 ∈ wsX9_noteSale := List.mem_of_getElem? (i := 2) rfl
theorem qX9_noteSale_64 : Cond.fieldLink RX9 64 (TX9 5).1 (TX9 5).2.1 (TX9 5).2.2.1 ∈ wsX9_noteSale := List.mem_of_getElem? (i := 3) rfl
theorem qX9_noteSale_67 : Cond.fieldLink RX9 67 (TX9 6).1 (TX9 6).2.1 (TX9 6).2.2.1 ∈ wsX9_noteSale := List.mem_of_getElem? (i := 4) rfl
theorem qX9_begin_12 : Cond.fieldLink RX9 12 (TX9 0).1 (TX9 0).2.1 (TX9 0).2.2.1 ∈ wsX9_begin := List.mem_of_getElem? (i := 1) rfl
theorem iX9_begin_X9 : ∀ w ∈ wsX90, w ∈ wsX9_begin := fun _ h => List.mem_cons_of_mem _ (List.mem_append_left _ (List.mem_append_left _ (List.mem_append_right _ h)))
theorem qX9_begin_55 : Cond.fieldLink RX9 55 (TX9 1).1 (TX9 1).2.1 (TX9 1).2.2.1 ∈ wsX9_begin := List.mem_of_getElem? (i := 2) rfl
theorem qX9_begin_32 : Cond.fieldLink RX9 32 (TX9 2).1 (TX9 2).2.1 (TX9 2).2.2.1 ∈ wsX9_begin := List.mem_of_getElem? (i := 3) rfl
theorem qX9_begin_58 : Cond.fieldLink RX9 58 (TX9 3).1 (TX9 3).2.1 (TX9 3).2.2.1 ∈ wsX9_begin := List.mem_of_getElem? (i := 4) rfl
theorem qX9_begin_61 : Cond.fieldLink RX9 61 (TX9 4).1 (TX9 4).2.1 (TX9 4).2.2.1 ∈ wsX9_begin := List.mem_of_getElem? (i := 5) rfl
theorem qX9_begin_64 : Cond.fieldLink RX9 64 (TX9 5).1 (TX9 5).2.1 (TX9 5).2.2.1 ∈ wsX9_begin := List.mem_of_getElem? (i := 6) rfl
theorem qX9_begin_67 : Cond.fieldLink RX9 67 (TX9 6).1 (TX9 6).2.1 (TX9 6).2.2.1 ∈ wsX9_begin := List.mem_of_getElem? (i := 7) rfl
theorem qX9_begin_70 : Cond.fieldLink RX9 70 (TX9 7).1 (TX9 7).2.1 (TX9 7).2.2.1 ∈ wsX9_begin := List.mem_of_getElem? (i := 8) rfl
theorem qX9_tryAct_12 : Cond.fieldLink RX9 12 (TX9 0).1 (TX9 0).2.1 (TX9 0).2.2.1 ∈ wsX9_tryAct := List.mem_of_getElem? (i := 1) rfl
theorem iX9_tryAct_X9 : ∀ w ∈ wsX90, w ∈ wsX9_tryAct := fun _ h => List.mem_cons_of_mem _ (List.mem_append_left _ (List.mem_append_left _ (List.mem_append_right _ h)))
theorem qX9_tryAct_55 : Cond.fieldLink RX9 55 (TX9 1).1 (TX9 1).2.1 (TX9 1).2.2.1 ∈ wsX9_tryAct := List.mem_of_getElem? (i := 2) rfl
theorem qX9_tryAct_32 : Cond.fieldLink RX9 32 (TX9 2).1 (TX9 2).2.1 (TX9 2).2.2.1 ∈ wsX9_tryAct := List.mem_of_getElem? (i := 3) rfl
theorem qX9_tryAct_58 : Cond.fieldLink RX9 58 (TX9 3).1 (TX9 3).2.1 (TX9 3).2.2.1 ∈ wsX9_tryAct := List.mem_of_getElem? (i := 4) rfl
set_option maxHeartbeats 4000000 in
set_option maxRecDepth 100000 in
theorem c_X5_withinN (l : Launch) (G : uG) (n lo hi : Nat) (h1 : n < 2147483648) (h2 : lo < 2147483648) (h3 : hi < 2147483648) (M : uM) : CTi l G yX5_within wsX5_within 0 0 [.int (nI n), .int (nI lo), .int (nI hi)] M (fun r M2 => ((r = 1 ∧ lo ≤ n ∧ n ≤ hi) ∨ (r = 0 ∧ ¬ (lo ≤ n ∧ n ≤ hi))) ∧ M2 = M) := by
  refine ustart_i (cc := cX5_within) (maxL := 3) (ret := (some .boolean)) (own := RX5) rfl (by decide) rfl (Nat.le_of_ble_eq_true rfl) ?_
  intro xp xe xs xm xa xb xt xc xA ls S hK hA Z hre hlk hl
  have hl : lv_has ls 3 [(0, .int (nI n)), (1, .int (nI lo)), (2, .int (nI hi))] := hl
  refine lv_iload_n S.1 S.2.1 dX5_within_0 rfl (lv_at hl 0 rfl) ?_
  refine lv_iload_n S.1 S.2.1 dX5_within_1 rfl (lv_at hl 1 rfl) ?_
  refine lv_icmp_lt (tgt := 14) S.1 S.2.1 dX5_within_2 (by decide) (fun c_1 => ?_) (fun c_1 => ?_)
  · skip
    have c_1 : n < lo := (nI_ltI (a := n) (b := lo) (by omega) (by omega)).mp c_1
    refine lv_iconst (v := 0) S.1 S.2.1 dX5_within_14 (by decide) ?_
    refine uret_z S hK Z hre hlk (by decide) dX5_within_15 ?_
    exact ⟨Or.inr ⟨rfl, by omega⟩, rfl⟩
  · skip
    have c_1 : ¬ n < lo := fun z9 => c_1 ((nI_ltI (a := n) (b := lo) (by omega) (by omega)).mpr z9)
    refine lv_iload_n S.1 S.2.1 dX5_within_5 rfl (lv_at hl 0 rfl) ?_
    refine lv_iload_n S.1 S.2.1 dX5_within_6 rfl (lv_at hl 2 rfl) ?_
    refine lv_icmp_gt (tgt := 14) S.1 S.2.1 dX5_within_7 (by decide) (fun c_2 => ?_) (fun c_2 => ?_)
    · skip
      have c_2 : hi < n := (nI_ltI (a := hi) (b := n) (by omega) (by omega)).mp c_2
      refine lv_iconst (v := 0) S.1 S.2.1 dX5_within_14 (by decide) ?_
      refine uret_z S hK Z hre hlk (by decide) dX5_within_15 ?_
      exact ⟨Or.inr ⟨rfl, by omega⟩, rfl⟩
    · skip
      have c_2 : ¬ hi < n := fun z9 => c_2 ((nI_ltI (a := hi) (b := n) (by omega) (by omega)).mpr z9)
      refine lv_iconst (v := 1) S.1 S.2.1 dX5_within_10 (by decide) ?_
      refine lv_goto (tgt := 15) S.1 S.2.1 dX5_within_11 (by decide) ?_
      refine uret_z S hK Z hre hlk (by decide) dX5_within_15 ?_
      exact ⟨Or.inl ⟨rfl, by omega⟩, rfl⟩
set_option maxHeartbeats 4000000 in
set_option maxRecDepth 100000 in
theorem c_X5_atz (l : Launch) (G : uG) (k n j : Nat) (hk : k < 96) (hs : uSh k = .inr (0, n)) (f : Nat → Nat) (hj : j < 2147483648) (M : uM) (hf : ∀ i, M.1 k i = nI (f i)) (h0 : ∀ i, n ≤ i → f i = 0) : CTi l G yX5_at wsX5_at 0 0 [.ref (G.2.2 k), .int (nI j)] M (fun r M2 => r = nI (f j) ∧ M2 = M) := by
  have hn : n < 8000 := uSh_lt k hk (0, n) hs
  refine ustart_i (cc := cX5_at) (maxL := 2) (ret := (some .int)) (own := RX5) rfl (by decide) rfl (Nat.le_of_ble_eq_true rfl) ?_
  intro xp xe xs xm xa xb xt xc xA ls S hK hA Z hre hlk hl
  have hl : lv_has ls 2 [(0, .ref (G.2.2 k)), (1, .int (nI j))] := hl
  refine lv_iload_n S.1 S.2.1 dX5_at_0 rfl (lv_at hl 1 rfl) ?_
  refine lv_if_lt (tgt := 16) S.1 S.2.1 dX5_at_1 (by decide) (fun c_1 => ?_) (fun c_1 => ?_)
  · skip
    have c_1 : j < 0 := (nI_ltI (a := j) (b := 0) (by omega) (by omega)).mp c_1
    omega
  · skip
    have c_1 : ¬ j < 0 := fun z9 => c_1 ((nI_ltI (a := j) (b := 0) (by omega) (by omega)).mpr z9)
    refine lv_iload_n S.1 S.2.1 dX5_at_4 rfl (lv_at hl 1 rfl) ?_
    refine lv_aload_n S.1 S.2.1 dX5_at_5 rfl (lv_at hl 0 rfl) ?_
    refine ua_len S hK Z hk hs dX5_at_6 ?_
    refine lv_icmp_ge (tgt := 16) S.1 S.2.1 dX5_at_7 (by decide) (fun c_2 => ?_) (fun c_2 => ?_)
    · skip
      have c_2 : n ≤ j := (nI_leI (a := n) (b := j) (by omega) (by omega)).mp c_2
      refine lv_iconst (v := 0) S.1 S.2.1 dX5_at_16 (by decide) ?_
      refine uret_i S hK Z hre hlk dX5_at_17 ?_
      exact ⟨by rw [h0 j (by omega)]; rfl, rfl⟩
    · skip
      have c_2 : ¬ n ≤ j := fun z9 => c_2 ((nI_leI (a := n) (b := j) (by omega) (by omega)).mpr z9)
      refine lv_aload_n S.1 S.2.1 dX5_at_10 rfl (lv_at hl 0 rfl) ?_
      refine lv_iload_n S.1 S.2.1 dX5_at_11 rfl (lv_at hl 1 rfl) ?_
      refine ua_ild S hK Z j hk hs rfl (by omega) dX5_at_12 ?_
      refine lv_goto (tgt := 17) S.1 S.2.1 dX5_at_13 (by decide) ?_
      refine uret_i S hK Z hre hlk dX5_at_17 ?_
      exact ⟨hf j, rfl⟩
set_option maxHeartbeats 4000000 in
set_option maxRecDepth 100000 in
theorem c_X8_copy (l : Launch) (G : uG) (q f : Nat) (hq : uIsS q) (hf : uIsS f) (hne : f ≠ q) (M : uM) : CTv l G yX8_copy wsX8_copy 2 43 [.ref (G.2.2 q), .ref (G.2.2 f)] M (fun M2 => M2 = u1 (uCpy (uCpy M (f + 1) (q + 1) 8) (f + 2) (q + 2) 8) q 2 ((uCpy (uCpy M (f + 1) (q + 1) 8) (f + 2) (q + 2) 8).1 f 2)) := by
  refine ustart_v (cc := cX8_copy) (maxL := 2) (ret := none) (own := RX8) rfl (by decide) rfl (Nat.le_of_ble_eq_true rfl) ?_
  intro xp xe xs xm xa xb xt xc xA ls S hK hA Z hre hlk hl
  have hl : lv_has ls 2 [(0, .ref (G.2.2 q)), (1, .ref (G.2.2 f))] := hl
  refine lv_aload_n S.1 S.2.1 dX8_copy_0 rfl (lv_at hl 1 rfl) ?_
  refine ug_r S hK Z (j := 0) (f + 1) (uS_lt 0 hf (by decide)) (uS_0 hf) rfl rfl (by decide) iX8_copy_X8 qX8_copy_9 dX8_copy_1 ?_
  refine lv_aload_n S.1 S.2.1 dX8_copy_4 rfl (lv_at hl 0 rfl) ?_
  refine ug_r S hK Z (j := 0) (q + 1) (uS_lt 0 hq (by decide)) (uS_0 hq) rfl rfl (by decide) iX8_copy_X8 qX8_copy_9 dX8_copy_5 ?_
  refine ud_Sv (As := [.ref (G.2.2 (f + 1)), .ref (G.2.2 (q + 1))]) (rest := []) S hK hA Z (c_X5_copy l G (f + 1) (q + 1) 8 (uS_lt 1 hf (by decide)) (uS_lt 1 hq (by decide)) (uS_1 hf) (uS_1 hq) (by omega) M) (va_cwS 2 S.2.2.2.2 gX8_copy_X5_copy rfl rfl rfl (by decide +kernel) ⟨Nat.le_of_ble_eq_true rfl, Nat.le_of_ble_eq_true rfl⟩) rfl hl.1 rfl (Nat.le_of_ble_eq_true rfl) dX8_copy_8 ⟨Nat.zero_le _, Nat.zero_le _⟩ (fun H locs Z => ?_)
  refine lv_aload_n S.1 S.2.1 dX8_copy_11 rfl (lv_at hl 1 rfl) ?_
  refine ug_r S hK Z (j := 1) (f + 2) (uS_lt 0 hf (by decide)) (uS_0 hf) rfl rfl (by decide) iX8_copy_X8 qX8_copy_13 dX8_copy_12 ?_
  refine lv_aload_n S.1 S.2.1 dX8_copy_15 rfl (lv_at hl 0 rfl) ?_
  refine ug_r S hK Z (j := 1) (q + 2) (uS_lt 0 hq (by decide)) (uS_0 hq) rfl rfl (by decide) iX8_copy_X8 qX8_copy_13 dX8_copy_16 ?_
  refine ud_Sv (As := [.ref (G.2.2 (f + 2)), .ref (G.2.2 (q + 2))]) (rest := []) S hK hA Z (c_X5_copy l G (f + 2) (q + 2) 8 (uS_lt 2 hf (by decide)) (uS_lt 2 hq (by decide)) (uS_2 hf) (uS_2 hq) (by omega) (uCpy M (f + 1) (q + 1) 8)) (va_cwS 2 S.2.2.2.2 gX8_copy_X5_copy rfl rfl rfl (by decide +kernel) ⟨Nat.le_of_ble_eq_true rfl, Nat.le_of_ble_eq_true rfl⟩) rfl hl.1 rfl (Nat.le_of_ble_eq_true rfl) dX8_copy_19 ⟨Nat.zero_le _, Nat.zero_le _⟩ (fun H locs Z => ?_)
  refine lv_aload_n S.1 S.2.1 dX8_copy_22 rfl (lv_at hl 0 rfl) ?_
  refine lv_aload_n S.1 S.2.1 dX8_copy_23 rfl (lv_at hl 1 rfl) ?_
  refine ug_i S hK Z (j := 2) (uS_lt 0 hf (by decide)) (uS_0 hf) rfl rfl (by decide) iX8_copy_X8 qX8_copy_16 dX8_copy_24 ?_
  refine up_i S hK Z (j := 2) (uS_lt 0 hq (by decide)) (uS_0 hq) rfl rfl (by decide) iX8_copy_X8 tyX8_ok nmX8 qX8_copy_16 rfl rfl rfl dX8_copy_27 (fun H locs Z => ?_)
  refine uret_v S hK Z hre hlk dX8_copy_30 ?_
  exact rfl
set_option maxHeartbeats 4000000 in
set_option maxRecDepth 100000 in
theorem c_X10_copy (l : Launch) (G : uG) (b f : Nat) (hb : uIsW b) (hf : uIsW f) (hd : f + 10 ≤ b ∨ b + 10 ≤ f) (M : uM) (w1 w : Nat → Nat → Nat) (hr : uRd M f w) (h1 : ∀ j i, ¬ wIn j i → w1 j i = 0) (hz : ∀ j i, ¬ wIn j i → w j i = 0) : CTv l G yX10_copy wsX10_copy 3 64 [.ref (G.2.2 b), .ref (G.2.2 f)] (uPW M b w1) (fun M2 => M2 = uPW M b w) := by
  refine ustart_v (cc := cX10_copy) (maxL := 2) (ret := none) (own := RX10) rfl (by decide) rfl (Nat.le_of_ble_eq_true rfl) ?_
  intro xp xe xs xm xa xb xt xc xA ls S hK hA Z hre hlk hl
  have hl : lv_has ls 2 [(0, .ref (G.2.2 b)), (1, .ref (G.2.2 f))] := hl
  refine lv_aload_n S.1 S.2.1 dX10_copy_0 rfl (lv_at hl 1 rfl) ?_
  refine ug_r S hK Z (j := 0) (f + 1) (uW_lt 0 hf (by decide)) (uW_0 hf) rfl rfl (by decide) iX10_copy_X10 qX10_copy_9 dX10_copy_1 ?_
  refine lv_aload_n S.1 S.2.1 dX10_copy_4 rfl (lv_at hl 0 rfl) ?_
  refine ug_r S hK Z (j := 0) (b + 1) (uW_lt 0 hb (by decide)) (uW_0 hb) rfl rfl (by decide) iX10_copy_X10 qX10_copy_9 dX10_copy_5 ?_
  refine ud_Sv (As := [.ref (G.2.2 (f + 1)), .ref (G.2.2 (b + 1))]) (rest := []) S hK hA Z (c_X5_copy l G (f + 1) (b + 1) 12 (uW_lt 1 hf (by decide)) (uW_lt 1 hb (by decide)) (uW_1 hf) (uW_1 hb) (by omega) (uPW M b w1)) (va_cwS 2 S.2.2.2.2 gX10_copy_X5_copy rfl rfl rfl (by decide +kernel) ⟨Nat.le_of_ble_eq_true rfl, Nat.le_of_ble_eq_true rfl⟩) rfl hl.1 rfl (Nat.le_of_ble_eq_true rfl) dX10_copy_8 ⟨Nat.zero_le _, Nat.zero_le _⟩ (fun H locs Z => ?_)
  have Z := uZ_eq (uPW_cp (w1 := w1) 12 (j := 1) (by decide) hr hd) Z
  refine lv_aload_n S.1 S.2.1 dX10_copy_11 rfl (lv_at hl 1 rfl) ?_
  refine ug_r S hK Z (j := 1) (f + 2) (uW_lt 0 hf (by decide)) (uW_0 hf) rfl rfl (by decide) iX10_copy_X10 qX10_copy_15 dX10_copy_12 ?_
  refine lv_aload_n S.1 S.2.1 dX10_copy_15 rfl (lv_at hl 0 rfl) ?_
  refine ug_r S hK Z (j := 1) (b + 2) (uW_lt 0 hb (by decide)) (uW_0 hb) rfl rfl (by decide) iX10_copy_X10 qX10_copy_15 dX10_copy_16 ?_
  refine ud_Sv (As := [.ref (G.2.2 (f + 2)), .ref (G.2.2 (b + 2))]) (rest := []) S hK hA Z (c_X5_copy l G (f + 2) (b + 2) 12 (uW_lt 2 hf (by decide)) (uW_lt 2 hb (by decide)) (uW_2 hf) (uW_2 hb) (by omega) (uPW M b (wcp w1 w 1 12))) (va_cwS 2 S.2.2.2.2 gX10_copy_X5_copy rfl rfl rfl (by decide +kernel) ⟨Nat.le_of_ble_eq_true rfl, Nat.le_of_ble_eq_true rfl⟩) rfl hl.1 rfl (Nat.le_of_ble_eq_true rfl) dX10_copy_19 ⟨Nat.zero_le _, Nat.zero_le _⟩ (fun H locs Z => ?_)
  have Z := uZ_eq (uPW_cp (w1 := (wcp w1 w 1 12)) 12 (j := 2) (by decide) hr hd) Z
  refine lv_aload_n S.1 S.2.1 dX10_copy_22 rfl (lv_at hl 1 rfl) ?_
  refine ug_r S hK Z (j := 2) (f + 3) (uW_lt 0 hf (by decide)) (uW_0 hf) rfl rfl (by decide) iX10_copy_X10 qX10_copy_18 dX10_copy_23 ?_
  refine lv_aload_n S.1 S.2.1 dX10_copy_26 rfl (lv_at hl 0 rfl) ?_
  refine ug_r S hK Z (j := 2) (b + 3) (uW_lt 0 hb (by decide)) (uW_0 hb) rfl rfl (by decide) iX10_copy_X10 qX10_copy_18 dX10_copy_27 ?_
  refine ud_Sv (As := [.ref (G.2.2 (f + 3)), .ref (G.2.2 (b + 3))]) (rest := []) S hK hA Z (c_X5_copy l G (f + 3) (b + 3) 12 (uW_lt 3 hf (by decide)) (uW_lt 3 hb (by decide)) (uW_3 hf) (uW_3 hb) (by omega) (uPW M b (wcp (wcp w1 w 1 12) w 2 12))) (va_cwS 2 S.2.2.2.2 gX10_copy_X5_copy rfl rfl rfl (by decide +kernel) ⟨Nat.le_of_ble_eq_true rfl, Nat.le_of_ble_eq_true rfl⟩) rfl hl.1 rfl (Nat.le_of_ble_eq_true rfl) dX10_copy_30 ⟨Nat.zero_le _, Nat.zero_le _⟩ (fun H locs Z => ?_)
  have Z := uZ_eq (uPW_cp (w1 := (wcp (wcp w1 w 1 12) w 2 12)) 12 (j := 3) (by decide) hr hd) Z
  refine lv_aload_n S.1 S.2.1 dX10_copy_33 rfl (lv_at hl 1 rfl) ?_
  refine ug_r S hK Z (j := 3) (f + 4) (uW_lt 0 hf (by decide)) (uW_0 hf) rfl rfl (by decide) iX10_copy_X10 qX10_copy_21 dX10_copy_34 ?_
  refine lv_aload_n S.1 S.2.1 dX10_copy_37 rfl (lv_at hl 0 rfl) ?_
  refine ug_r S hK Z (j := 3) (b + 4) (uW_lt 0 hb (by decide)) (uW_0 hb) rfl rfl (by decide) iX10_copy_X10 qX10_copy_21 dX10_copy_38 ?_
  refine ud_Sv (As := [.ref (G.2.2 (f + 4)), .ref (G.2.2 (b + 4))]) (rest := []) S hK hA Z (c_X5_copy l G (f + 4) (b + 4) 12 (uW_lt 4 hf (by decide)) (uW_lt 4 hb (by decide)) (uW_4 hf) (uW_4 hb) (by omega) (uPW M b (wcp (wcp (wcp w1 w 1 12) w 2 12) w 3 12))) (va_cwS 2 S.2.2.2.2 gX10_copy_X5_copy rfl rfl rfl (by decide +kernel) ⟨Nat.le_of_ble_eq_true rfl, Nat.le_of_ble_eq_true rfl⟩) rfl hl.1 rfl (Nat.le_of_ble_eq_true rfl) dX10_copy_41 ⟨Nat.zero_le _, Nat.zero_le _⟩ (fun H locs Z => ?_)
  have Z := uZ_eq (uPW_cp (w1 := (wcp (wcp (wcp w1 w 1 12) w 2 12) w 3 12)) 12 (j := 4) (by decide) hr hd) Z
  refine lv_aload_n S.1 S.2.1 dX10_copy_44 rfl (lv_at hl 1 rfl) ?_
  refine ug_r S hK Z (j := 4) (f + 5) (uW_lt 0 hf (by decide)) (uW_0 hf) rfl rfl (by decide) iX10_copy_X10 qX10_copy_24 dX10_copy_45 ?_
  refine lv_aload_n S.1 S.2.1 dX10_copy_48 rfl (lv_at hl 0 rfl) ?_
  refine ug_r S hK Z (j := 4) (b + 5) (uW_lt 0 hb (by decide)) (uW_0 hb) rfl rfl (by decide) iX10_copy_X10 qX10_copy_24 dX10_copy_49 ?_
  refine ud_Sv (As := [.ref (G.2.2 (f + 5)), .ref (G.2.2 (b + 5))]) (rest := []) S hK hA Z (c_X5_copy l G (f + 5) (b + 5) 8 (uW_lt 5 hf (by decide)) (uW_lt 5 hb (by decide)) (uW_5 hf) (uW_5 hb) (by omega) (uPW M b (wcp (wcp (wcp (wcp w1 w 1 12) w 2 12) w 3 12) w 4 12))) (va_cwS 2 S.2.2.2.2 gX10_copy_X5_copy rfl rfl rfl (by decide +kernel) ⟨Nat.le_of_ble_eq_true rfl, Nat.le_of_ble_eq_true rfl⟩) rfl hl.1 rfl (Nat.le_of_ble_eq_true rfl) dX10_copy_52 ⟨Nat.zero_le _, Nat.zero_le _⟩ (fun H locs Z => ?_)
  have Z := uZ_eq (uPW_cp (w1 := (wcp (wcp (wcp (wcp w1 w 1 12) w 2 12) w 3 12) w 4 12)) 8 (j := 5) (by decide) hr hd) Z
  refine lv_aload_n S.1 S.2.1 dX10_copy_55 rfl (lv_at hl 1 rfl) ?_
  refine ug_r S hK Z (j := 5) (f + 6) (uW_lt 0 hf (by decide)) (uW_0 hf) rfl rfl (by decide) iX10_copy_X10 qX10_copy_27 dX10_copy_56 ?_
  refine lv_aload_n S.1 S.2.1 dX10_copy_59 rfl (lv_at hl 0 rfl) ?_
  refine ug_r S hK Z (j := 5) (b + 6) (uW_lt 0 hb (by decide)) (uW_0 hb) rfl rfl (by decide) iX10_copy_X10 qX10_copy_27 dX10_copy_60 ?_
  refine ud_Sv (As := [.ref (G.2.2 (f + 6)), .ref (G.2.2 (b + 6))]) (rest := []) S hK hA Z (c_X5_copy l G (f + 6) (b + 6) 8 (uW_lt 6 hf (by decide)) (uW_lt 6 hb (by decide)) (uW_6 hf) (uW_6 hb) (by omega) (uPW M b (wcp (wcp (wcp (wcp (wcp w1 w 1 12) w 2 12) w 3 12) w 4 12) w 5 8))) (va_cwS 2 S.2.2.2.2 gX10_copy_X5_copy rfl rfl rfl (by decide +kernel) ⟨Nat.le_of_ble_eq_true rfl, Nat.le_of_ble_eq_true rfl⟩) rfl hl.1 rfl (Nat.le_of_ble_eq_true rfl) dX10_copy_63 ⟨Nat.zero_le _, Nat.zero_le _⟩ (fun H locs Z => ?_)
  have Z := uZ_eq (uPW_cp (w1 := (wcp (wcp (wcp (wcp (wcp w1 w 1 12) w 2 12) w 3 12) w 4 12) w 5 8)) 8 (j := 6) (by decide) hr hd) Z
  refine lv_aload_n S.1 S.2.1 dX10_copy_66 rfl (lv_at hl 0 rfl) ?_
  refine ug_r S hK Z (j := 6) (b + 7) (uW_lt 0 hb (by decide)) (uW_0 hb) rfl rfl (by decide) iX10_copy_X10 qX10_copy_33 dX10_copy_67 ?_
  refine lv_aload_n S.1 S.2.1 dX10_copy_70 rfl (lv_at hl 1 rfl) ?_
  refine ug_r S hK Z (j := 6) (f + 7) (uW_lt 0 hf (by decide)) (uW_0 hf) rfl rfl (by decide) iX10_copy_X10 qX10_copy_33 dX10_copy_71 ?_
  refine ud_Vv (As := [.ref (G.2.2 (f + 7))]) (rest := []) S hK hA Z (c_X8_copy l G (b + 7) (f + 7) (uW_S hb) (uW_S hf) (by omega) (uPW M b (wcp (wcp (wcp (wcp (wcp (wcp w1 w 1 12) w 2 12) w 3 12) w 4 12) w 5 8) w 6 8))) (cwV 1 S.2.2.2.2 gX10_copy_X8_copy rfl rfl rfl (by decide +kernel) ⟨Nat.le_of_ble_eq_true rfl, Nat.le_of_ble_eq_true rfl⟩) (uS_lt 0 (uW_S hb) (by decide)) (uS_0 (uW_S hb)) rfl rfl hl.1 rfl (Nat.le_of_ble_eq_true rfl) dX10_copy_74 ⟨Nat.zero_le _, Nat.zero_le _⟩ (fun H locs Z => ?_)
  have Z := uZ_eq (uPW_scp (w1 := (wcp (wcp (wcp (wcp (wcp (wcp w1 w 1 12) w 2 12) w 3 12) w 4 12) w 5 8) w 6 8)) hr hd) Z
  refine lv_aload_n S.1 S.2.1 dX10_copy_77 rfl (lv_at hl 0 rfl) ?_
  refine lv_aload_n S.1 S.2.1 dX10_copy_78 rfl (lv_at hl 1 rfl) ?_
  refine ug_i S hK Z (j := 7) (uW_lt 0 hf (by decide)) (uW_0 hf) rfl rfl (by decide) iX10_copy_X10 qX10_copy_37 dX10_copy_79 ?_
  refine utop (y := (nI (w 0 7))) (uPW_ov (wu (wcp (wcp (wcp (wcp (wcp (wcp (wcp (wcp w1 w 1 12) w 2 12) w 3 12) w 4 12) w 5 8) w 6 8) w 8 8) w 9 8) 7 2 (w 7 2)) (j := 0) 7 (by decide) hr hd) ?_
  refine up_i S hK Z (j := 7) (uW_lt 0 hb (by decide)) (uW_0 hb) rfl rfl (by decide) iX10_copy_X10 tyX10_ok nmX10 qX10_copy_37 rfl rfl rfl dX10_copy_82 (fun H locs Z => ?_)
  have Z := uZ_eq (uPW_s M b (wu (wcp (wcp (wcp (wcp (wcp (wcp (wcp (wcp w1 w 1 12) w 2 12) w 3 12) w 4 12) w 5 8) w 6 8) w 8 8) w 9 8) 7 2 (w 7 2)) 7 (w 0 7) (j := 0) (by decide)) Z
  refine lv_aload_n S.1 S.2.1 dX10_copy_85 rfl (lv_at hl 0 rfl) ?_
  refine lv_aload_n S.1 S.2.1 dX10_copy_86 rfl (lv_at hl 1 rfl) ?_
  refine ug_i S hK Z (j := 8) (uW_lt 0 hf (by decide)) (uW_0 hf) rfl rfl (by decide) iX10_copy_X10 qX10_copy_41 dX10_copy_87 ?_
  refine utop (y := (nI (w 0 8))) (uPW_ov (wu (wu (wcp (wcp (wcp (wcp (wcp (wcp (wcp (wcp w1 w 1 12) w 2 12) w 3 12) w 4 12) w 5 8) w 6 8) w 8 8) w 9 8) 7 2 (w 7 2)) 0 7 (w 0 7)) (j := 0) 8 (by decide) hr hd) ?_
  refine up_i S hK Z (j := 8) (uW_lt 0 hb (by decide)) (uW_0 hb) rfl rfl (by decide) iX10_copy_X10 tyX10_ok nmX10 qX10_copy_41 rfl rfl rfl dX10_copy_90 (fun H locs Z => ?_)
  have Z := uZ_eq (uPW_s M b (wu (wu (wcp (wcp (wcp (wcp (wcp (wcp (wcp (wcp w1 w 1 12) w 2 12) w 3 12) w 4 12) w 5 8) w 6 8) w 8 8) w 9 8) 7 2 (w 7 2)) 0 7 (w 0 7)) 8 (w 0 8) (j := 0) (by decide)) Z
  refine uret_v S hK Z hre hlk dX10_copy_93 ?_
  exact congrArg (uPW M b) (wAll_eq h1 hz)
set_option maxHeartbeats 4000000 in
set_option maxRecDepth 100000 in
theorem c_X3_signAt (l : Launch) (G : uG) (j : Nat) (hj : j < 2147483648) (M : uM) (s : Nat → Nat) (n : Nat) (hp : pdAt M s n) (ho : pdOk s n) : CTi l G yX3_signAt wsX3_signAt 1 21 [.ref (G.2.2 21), .int (nI j)] M (fun r M2 => r = nI (s j) ∧ M2 = M) := by
  refine ustart_i (cc := cX3_signAt) (maxL := 2) (ret := (some .int)) (own := RX3) rfl (by decide) rfl (Nat.le_of_ble_eq_true rfl) ?_
  intro xp xe xs xm xa xb xt xc xA ls S hK hA Z hre hlk hl
  have hl : lv_has ls 2 [(0, .ref (G.2.2 21)), (1, .int (nI j))] := hl
  refine lv_aload_n S.1 S.2.1 dX3_signAt_0 rfl (lv_at hl 0 rfl) ?_
  refine ug_r S hK Z (j := 0) 22 (by decide) rfl rfl rfl (by decide) iX3_signAt_X3 qX3_signAt_11 dX3_signAt_1 ?_
  refine lv_iload_n S.1 S.2.1 dX3_signAt_4 rfl (lv_at hl 1 rfl) ?_
  refine ud_Si (As := [.ref (G.2.2 22), .int (nI j)]) (rest := []) S hK hA Z (c_X5_atz l G 22 60 j (by decide) rfl s hj M hp.1 ho.2.1) (va_cwS 2 S.2.2.2.2 gX3_signAt_X5_at rfl rfl rfl (by decide +kernel) ⟨Nat.le_of_ble_eq_true rfl, Nat.le_of_ble_eq_true rfl⟩) rfl hl.1 rfl (Nat.le_of_ble_eq_true rfl) dX3_signAt_5 ⟨Nat.zero_le _, Nat.zero_le _⟩ (fun H locs Z => ?_)
  refine uret_i S hK Z hre hlk dX3_signAt_8 ?_
  exact ⟨rfl, rfl⟩
set_option maxHeartbeats 4000000 in
set_option maxRecDepth 100000 in
theorem c_X3_dueBehind_0 (l : Launch) (G : uG) (c0 : Nat) (hc : c0 < 127) (M : uM) : CTi l G yX3_dueBehind wsX3_dueBehind 1 22 [.int 0, .int (nI c0)] M (fun r M2 => r = nI (cDue 0 c0) ∧ M2 = M) := by
  refine ustart_i (cc := cX3_dueBehind) (maxL := 4) (ret := (some .int)) (own := RX3) rfl (by decide) rfl (Nat.le_of_ble_eq_true rfl) ?_
  intro xp xe xs xm xa xb xt xc xA ls S hK hA Z hre hlk hl
  have hl : lv_has ls 4 [(0, .int 0), (1, .int (nI c0))] := hl
  refine lv_iload_n S.1 S.2.1 dX3_dueBehind_0 rfl (lv_at hl 1 rfl) ?_
  refine lv_bipush (v := 65) S.1 S.2.1 dX3_dueBehind_1 (by decide) ?_
  refine lv_bipush (v := 72) S.1 S.2.1 dX3_dueBehind_3 (by decide) ?_
  refine uc_Si (As := [.int (nI c0), .int 65, .int 72]) (rest := []) S hK hA Z (c_X5_withinN l G c0 65 72 (by omega) (by omega) (by omega) M) (va_cwS 3 S.2.2.2.2 gX3_dueBehind_X5_within rfl rfl rfl (by decide +kernel) ⟨Nat.le_of_ble_eq_true rfl, Nat.le_of_ble_eq_true rfl⟩) rfl hl.1 rfl (Nat.le_of_ble_eq_true rfl) dX3_dueBehind_5 ⟨Nat.zero_le _, Nat.zero_le _⟩ (fun r_1 M_1 H locs hp Z => ?_)
  obtain ⟨⟨rfl, w_1⟩ | ⟨rfl, w_1⟩, hM_1⟩ := hp
  · skip
    rw [hM_1] at Z
    refine lv_istore_n (lv' := [(2, .int 1), (0, .int 0), (1, .int (nI c0))]) S.1 S.2.1 dX3_dueBehind_8 rfl hl (by decide) rfl (fun ls hl => ?_)
    refine lv_iload_n S.1 S.2.1 dX3_dueBehind_9 rfl (lv_at hl 2 rfl) ?_
    refine lv_bipush (v := 97) S.1 S.2.1 dX3_dueBehind_10 (by decide) ?_
    refine lv_bipush (v := 108) S.1 S.2.1 dX3_dueBehind_12 (by decide) ?_
    refine uc_Si (As := [.int (nI c0), .int 97, .int 108]) (rest := []) S hK hA Z (c_X5_withinN l G c0 97 108 (by omega) (by omega) (by omega) M) (va_cwS 3 S.2.2.2.2 gX3_dueBehind_X5_within rfl rfl rfl (by decide +kernel) ⟨Nat.le_of_ble_eq_true rfl, Nat.le_of_ble_eq_true rfl⟩) rfl hl.1 rfl (Nat.le_of_ble_eq_true rfl) dX3_dueBehind_14 ⟨Nat.zero_le _, Nat.zero_le _⟩ (fun r_2 M_2 H locs hp Z => ?_)
    obtain ⟨⟨rfl, w_2⟩ | ⟨rfl, w_2⟩, hM_2⟩ := hp
    · skip
      rw [hM_2] at Z
      refine lv_istore_n (lv' := [(3, .int 1), (2, .int 1), (0, .int 0), (1, .int (nI c0))]) S.1 S.2.1 dX3_dueBehind_17 rfl hl (by decide) rfl (fun ls hl => ?_)
      refine lv_iload_n S.1 S.2.1 dX3_dueBehind_18 rfl (lv_at hl 2 rfl) ?_
      refine lv_tableIn (tgt := 48) S.1 S.2.1 dX3_dueBehind_19 (by decide) (by decide) rfl (by decide) ?_
      refine lv_iload_n S.1 S.2.1 dX3_dueBehind_48 rfl (lv_at hl 3 rfl) ?_
      refine lv_bipush (v := 46) S.1 S.2.1 dX3_dueBehind_49 (by decide) ?_
      refine lv_icmp_ne (tgt := 56) S.1 S.2.1 dX3_dueBehind_51 (by decide) (fun c_3 => ?_) (fun c_3 => ?_)
      · skip
        have c_3 : ¬ c0 = 46 := fun z9 => c_3 ((nI_eq (a := c0) (b := 46) (by omega) (by omega)).mpr z9)
        refine lv_iload_n S.1 S.2.1 dX3_dueBehind_56 rfl (lv_at hl 1 rfl) ?_
        refine lv_if_eq (tgt := 64) S.1 S.2.1 dX3_dueBehind_57 (by decide) (fun c => absurd c (by decide)) (fun _ => ?_)
        refine lv_iconst (v := 1) S.1 S.2.1 dX3_dueBehind_60 (by decide) ?_
        refine lv_goto (tgt := 65) S.1 S.2.1 dX3_dueBehind_61 (by decide) ?_
        refine uret_i S hK Z hre hlk dX3_dueBehind_65 ?_
        refine ⟨congrArg nI (show 1 = cDue 0 c0 from ?_), rfl⟩
        unfold cDue
        repeat' split
        all_goals omega
      · skip
        have c_3 : c0 = 46 := (nI_eq (a := c0) (b := 46) (by omega) (by omega)).mp c_3
        refine lv_iconst (v := 0) S.1 S.2.1 dX3_dueBehind_54 (by decide) ?_
        refine uret_i S hK Z hre hlk dX3_dueBehind_55 ?_
        refine ⟨congrArg nI (show 0 = cDue 0 c0 from ?_), rfl⟩
        unfold cDue
        repeat' split
        all_goals omega
    · skip
      rw [hM_2] at Z
      refine lv_istore_n (lv' := [(3, .int 0), (2, .int 1), (0, .int 0), (1, .int (nI c0))]) S.1 S.2.1 dX3_dueBehind_17 rfl hl (by decide) rfl (fun ls hl => ?_)
      refine lv_iload_n S.1 S.2.1 dX3_dueBehind_18 rfl (lv_at hl 2 rfl) ?_
      refine lv_tableIn (tgt := 48) S.1 S.2.1 dX3_dueBehind_19 (by decide) (by decide) rfl (by decide) ?_
      refine lv_iload_n S.1 S.2.1 dX3_dueBehind_48 rfl (lv_at hl 3 rfl) ?_
      refine lv_bipush (v := 46) S.1 S.2.1 dX3_dueBehind_49 (by decide) ?_
      refine lv_icmp_ne (tgt := 56) S.1 S.2.1 dX3_dueBehind_51 (by decide) (fun c_5 => ?_) (fun c_5 => ?_)
      · skip
        have c_5 : ¬ c0 = 46 := fun z9 => c_5 ((nI_eq (a := c0) (b := 46) (by omega) (by omega)).mpr z9)
        refine lv_iload_n S.1 S.2.1 dX3_dueBehind_56 rfl (lv_at hl 1 rfl) ?_
        refine lv_if_eq (tgt := 64) S.1 S.2.1 dX3_dueBehind_57 (by decide) (fun c => absurd c (by decide)) (fun _ => ?_)
        refine lv_iconst (v := 1) S.1 S.2.1 dX3_dueBehind_60 (by decide) ?_
        refine lv_goto (tgt := 65) S.1 S.2.1 dX3_dueBehind_61 (by decide) ?_
        refine uret_i S hK Z hre hlk dX3_dueBehind_65 ?_
        refine ⟨congrArg nI (show 1 = cDue 0 c0 from ?_), rfl⟩
        unfold cDue
        repeat' split
        all_goals omega
      · skip
        have c_5 : c0 = 46 := (nI_eq (a := c0) (b := 46) (by omega) (by omega)).mp c_5
        refine lv_iconst (v := 0) S.1 S.2.1 dX3_dueBehind_54 (by decide) ?_
        refine uret_i S hK Z hre hlk dX3_dueBehind_55 ?_
        refine ⟨congrArg nI (show 0 = cDue 0 c0 from ?_), rfl⟩
        unfold cDue
        repeat' split
        all_goals omega
  · skip
    rw [hM_1] at Z
    refine lv_istore_n (lv' := [(2, .int 0), (0, .int 0), (1, .int (nI c0))]) S.1 S.2.1 dX3_dueBehind_8 rfl hl (by decide) rfl (fun ls hl => ?_)
    refine lv_iload_n S.1 S.2.1 dX3_dueBehind_9 rfl (lv_at hl 2 rfl) ?_
    refine lv_bipush (v := 97) S.1 S.2.1 dX3_dueBehind_10 (by decide) ?_
    refine lv_bipush (v := 108) S.1 S.2.1 dX3_dueBehind_12 (by decide) ?_
    refine uc_Si (As := [.int (nI c0), .int 97, .int 108]) (rest := []) S hK hA Z (c_X5_withinN l G c0 97 108 (by omega) (by omega) (by omega) M) (va_cwS 3 S.2.2.2.2 gX3_dueBehind_X5_within rfl rfl rfl (by decide +kernel) ⟨Nat.le_of_ble_eq_true rfl, Nat.le_of_ble_eq_true rfl⟩) rfl hl.1 rfl (Nat.le_of_ble_eq_true rfl) dX3_dueBehind_14 ⟨Nat.zero_le _, Nat.zero_le _⟩ (fun r_7 M_7 H locs hp Z => ?_)
    obtain ⟨⟨rfl, w_7⟩ | ⟨rfl, w_7⟩, hM_7⟩ := hp
    · skip
      rw [hM_7] at Z
      refine lv_istore_n (lv' := [(3, .int 1), (2, .int 0), (0, .int 0), (1, .int (nI c0))]) S.1 S.2.1 dX3_dueBehind_17 rfl hl (by decide) rfl (fun ls hl => ?_)
      refine lv_iload_n S.1 S.2.1 dX3_dueBehind_18 rfl (lv_at hl 2 rfl) ?_
      refine lv_tableIn (tgt := 48) S.1 S.2.1 dX3_dueBehind_19 (by decide) (by decide) rfl (by decide) ?_
      refine lv_iload_n S.1 S.2.1 dX3_dueBehind_48 rfl (lv_at hl 3 rfl) ?_
      refine lv_bipush (v := 46) S.1 S.2.1 dX3_dueBehind_49 (by decide) ?_
      refine lv_icmp_ne (tgt := 56) S.1 S.2.1 dX3_dueBehind_51 (by decide) (fun c_8 => ?_) (fun c_8 => ?_)
      · skip
        have c_8 : ¬ c0 = 46 := fun z9 => c_8 ((nI_eq (a := c0) (b := 46) (by omega) (by omega)).mpr z9)
        refine lv_iload_n S.1 S.2.1 dX3_dueBehind_56 rfl (lv_at hl 1 rfl) ?_
        refine lv_if_eq (tgt := 64) S.1 S.2.1 dX3_dueBehind_57 (by decide) (fun _ => ?_) (fun c => absurd c (by decide))
        refine lv_iconst (v := 4) S.1 S.2.1 dX3_dueBehind_64 (by decide) ?_
        refine uret_i S hK Z hre hlk dX3_dueBehind_65 ?_
        refine ⟨congrArg nI (show 4 = cDue 0 c0 from ?_), rfl⟩
        unfold cDue
        repeat' split
        all_goals omega
      · skip
        have c_8 : c0 = 46 := (nI_eq (a := c0) (b := 46) (by omega) (by omega)).mp c_8
        refine lv_iconst (v := 0) S.1 S.2.1 dX3_dueBehind_54 (by decide) ?_
        refine uret_i S hK Z hre hlk dX3_dueBehind_55 ?_
        refine ⟨congrArg nI (show 0 = cDue 0 c0 from ?_), rfl⟩
        unfold cDue
        repeat' split
        all_goals omega
    · skip
      rw [hM_7] at Z
      refine lv_istore_n (lv' := [(3, .int 0), (2, .int 0), (0, .int 0), (1, .int (nI c0))]) S.1 S.2.1 dX3_dueBehind_17 rfl hl (by decide) rfl (fun ls hl => ?_)
      refine lv_iload_n S.1 S.2.1 dX3_dueBehind_18 rfl (lv_at hl 2 rfl) ?_
      refine lv_tableIn (tgt := 48) S.1 S.2.1 dX3_dueBehind_19 (by decide) (by decide) rfl (by decide) ?_
      refine lv_iload_n S.1 S.2.1 dX3_dueBehind_48 rfl (lv_at hl 3 rfl) ?_
      refine lv_bipush (v := 46) S.1 S.2.1 dX3_dueBehind_49 (by decide) ?_
      refine lv_icmp_ne (tgt := 56) S.1 S.2.1 dX3_dueBehind_51 (by decide) (fun c_10 => ?_) (fun c_10 => ?_)
      · skip
        have c_10 : ¬ c0 = 46 := fun z9 => c_10 ((nI_eq (a := c0) (b := 46) (by omega) (by omega)).mpr z9)
        refine lv_iload_n S.1 S.2.1 dX3_dueBehind_56 rfl (lv_at hl 1 rfl) ?_
        refine lv_if_eq (tgt := 64) S.1 S.2.1 dX3_dueBehind_57 (by decide) (fun _ => ?_) (fun c => absurd c (by decide))
        refine lv_iconst (v := 4) S.1 S.2.1 dX3_dueBehind_64 (by decide) ?_
        refine uret_i S hK Z hre hlk dX3_dueBehind_65 ?_
        refine ⟨congrArg nI (show 4 = cDue 0 c0 from ?_), rfl⟩
        unfold cDue
        repeat' split
        all_goals omega
      · skip
        have c_10 : c0 = 46 := (nI_eq (a := c0) (b := 46) (by omega) (by omega)).mp c_10
        refine lv_iconst (v := 0) S.1 S.2.1 dX3_dueBehind_54 (by decide) ?_
        refine uret_i S hK Z hre hlk dX3_dueBehind_55 ?_
        refine ⟨congrArg nI (show 0 = cDue 0 c0 from ?_), rfl⟩
        unfold cDue
        repeat' split
        all_goals omega
set_option maxHeartbeats 4000000 in
set_option maxRecDepth 100000 in
theorem c_X3_dueBehind_1 (l : Launch) (G : uG) (c0 : Nat) (hc : c0 < 127) (M : uM) : CTi l G yX3_dueBehind wsX3_dueBehind 1 22 [.int 1, .int (nI c0)] M (fun r M2 => r = nI (cDue 1 c0) ∧ M2 = M) := by
  refine ustart_i (cc := cX3_dueBehind) (maxL := 4) (ret := (some .int)) (own := RX3) rfl (by decide) rfl (Nat.le_of_ble_eq_true rfl) ?_
  intro xp xe xs xm xa xb xt xc xA ls S hK hA Z hre hlk hl
  have hl : lv_has ls 4 [(0, .int 1), (1, .int (nI c0))] := hl
  refine lv_iload_n S.1 S.2.1 dX3_dueBehind_0 rfl (lv_at hl 1 rfl) ?_
  refine lv_bipush (v := 65) S.1 S.2.1 dX3_dueBehind_1 (by decide) ?_
  refine lv_bipush (v := 72) S.1 S.2.1 dX3_dueBehind_3 (by decide) ?_
  refine uc_Si (As := [.int (nI c0), .int 65, .int 72]) (rest := []) S hK hA Z (c_X5_withinN l G c0 65 72 (by omega) (by omega) (by omega) M) (va_cwS 3 S.2.2.2.2 gX3_dueBehind_X5_within rfl rfl rfl (by decide +kernel) ⟨Nat.le_of_ble_eq_true rfl, Nat.le_of_ble_eq_true rfl⟩) rfl hl.1 rfl (Nat.le_of_ble_eq_true rfl) dX3_dueBehind_5 ⟨Nat.zero_le _, Nat.zero_le _⟩ (fun r_1 M_1 H locs hp Z => ?_)
  obtain ⟨⟨rfl, w_1⟩ | ⟨rfl, w_1⟩, hM_1⟩ := hp
  · skip
    rw [hM_1] at Z
    refine lv_istore_n (lv' := [(2, .int 1), (0, .int 1), (1, .int (nI c0))]) S.1 S.2.1 dX3_dueBehind_8 rfl hl (by decide) rfl (fun ls hl => ?_)
    refine lv_iload_n S.1 S.2.1 dX3_dueBehind_9 rfl (lv_at hl 2 rfl) ?_
    refine lv_bipush (v := 97) S.1 S.2.1 dX3_dueBehind_10 (by decide) ?_
    refine lv_bipush (v := 108) S.1 S.2.1 dX3_dueBehind_12 (by decide) ?_
    refine uc_Si (As := [.int (nI c0), .int 97, .int 108]) (rest := []) S hK hA Z (c_X5_withinN l G c0 97 108 (by omega) (by omega) (by omega) M) (va_cwS 3 S.2.2.2.2 gX3_dueBehind_X5_within rfl rfl rfl (by decide +kernel) ⟨Nat.le_of_ble_eq_true rfl, Nat.le_of_ble_eq_true rfl⟩) rfl hl.1 rfl (Nat.le_of_ble_eq_true rfl) dX3_dueBehind_14 ⟨Nat.zero_le _, Nat.zero_le _⟩ (fun r_2 M_2 H locs hp Z => ?_)
    obtain ⟨⟨rfl, w_2⟩ | ⟨rfl, w_2⟩, hM_2⟩ := hp
    · skip
      rw [hM_2] at Z
      refine lv_istore_n (lv' := [(3, .int 1), (2, .int 1), (0, .int 1), (1, .int (nI c0))]) S.1 S.2.1 dX3_dueBehind_17 rfl hl (by decide) rfl (fun ls hl => ?_)
      refine lv_iload_n S.1 S.2.1 dX3_dueBehind_18 rfl (lv_at hl 2 rfl) ?_
      refine lv_tableIn (tgt := 66) S.1 S.2.1 dX3_dueBehind_19 (by decide) (by decide) rfl (by decide) ?_
      refine lv_iload_n S.1 S.2.1 dX3_dueBehind_66 rfl (lv_at hl 3 rfl) ?_
      refine lv_bipush (v := 36) S.1 S.2.1 dX3_dueBehind_67 (by decide) ?_
      refine lv_icmp_eq (tgt := 78) S.1 S.2.1 dX3_dueBehind_69 (by decide) (fun c_3 => ?_) (fun c_3 => ?_)
      · skip
        have c_3 : c0 = 36 := (nI_eq (a := c0) (b := 36) (by omega) (by omega)).mp c_3
        refine lv_iconst (v := 2) S.1 S.2.1 dX3_dueBehind_78 (by decide) ?_
        refine uret_i S hK Z hre hlk dX3_dueBehind_79 ?_
        refine ⟨congrArg nI (show 2 = cDue 1 c0 from ?_), rfl⟩
        unfold cDue
        repeat' split
        all_goals omega
      · skip
        have c_3 : ¬ c0 = 36 := fun z9 => c_3 ((nI_eq (a := c0) (b := 36) (by omega) (by omega)).mpr z9)
        refine lv_iload_n S.1 S.2.1 dX3_dueBehind_72 rfl (lv_at hl 3 rfl) ?_
        refine lv_bipush (v := 42) S.1 S.2.1 dX3_dueBehind_73 (by decide) ?_
        refine lv_icmp_ne (tgt := 80) S.1 S.2.1 dX3_dueBehind_75 (by decide) (fun c_4 => ?_) (fun c_4 => ?_)
        · skip
          have c_4 : ¬ c0 = 42 := fun z9 => c_4 ((nI_eq (a := c0) (b := 42) (by omega) (by omega)).mpr z9)
          refine lv_iload_n S.1 S.2.1 dX3_dueBehind_80 rfl (lv_at hl 0 rfl) ?_
          refine lv_if_ne (tgt := 90) S.1 S.2.1 dX3_dueBehind_81 (by decide) (fun _ => ?_) (fun c => absurd c (by decide))
          refine lv_iconst (v := 0) S.1 S.2.1 dX3_dueBehind_90 (by decide) ?_
          refine lv_goto (tgt := 95) S.1 S.2.1 dX3_dueBehind_91 (by decide) ?_
          refine uret_i S hK Z hre hlk dX3_dueBehind_95 ?_
          refine ⟨congrArg nI (show 0 = cDue 1 c0 from ?_), rfl⟩
          unfold cDue
          repeat' split
          all_goals omega
        · skip
          have c_4 : c0 = 42 := (nI_eq (a := c0) (b := 42) (by omega) (by omega)).mp c_4
          refine lv_iconst (v := 2) S.1 S.2.1 dX3_dueBehind_78 (by decide) ?_
          refine uret_i S hK Z hre hlk dX3_dueBehind_79 ?_
          refine ⟨congrArg nI (show 2 = cDue 1 c0 from ?_), rfl⟩
          unfold cDue
          repeat' split
          all_goals omega
    · skip
      rw [hM_2] at Z
      refine lv_istore_n (lv' := [(3, .int 0), (2, .int 1), (0, .int 1), (1, .int (nI c0))]) S.1 S.2.1 dX3_dueBehind_17 rfl hl (by decide) rfl (fun ls hl => ?_)
      refine lv_iload_n S.1 S.2.1 dX3_dueBehind_18 rfl (lv_at hl 2 rfl) ?_
      refine lv_tableIn (tgt := 66) S.1 S.2.1 dX3_dueBehind_19 (by decide) (by decide) rfl (by decide) ?_
      refine lv_iload_n S.1 S.2.1 dX3_dueBehind_66 rfl (lv_at hl 3 rfl) ?_
      refine lv_bipush (v := 36) S.1 S.2.1 dX3_dueBehind_67 (by decide) ?_
      refine lv_icmp_eq (tgt := 78) S.1 S.2.1 dX3_dueBehind_69 (by decide) (fun c_6 => ?_) (fun c_6 => ?_)
      · skip
        have c_6 : c0 = 36 := (nI_eq (a := c0) (b := 36) (by omega) (by omega)).mp c_6
        refine lv_iconst (v := 2) S.1 S.2.1 dX3_dueBehind_78 (by decide) ?_
        refine uret_i S hK Z hre hlk dX3_dueBehind_79 ?_
        refine ⟨congrArg nI (show 2 = cDue 1 c0 from ?_), rfl⟩
        unfold cDue
        repeat' split
        all_goals omega
      · skip
        have c_6 : ¬ c0 = 36 := fun z9 => c_6 ((nI_eq (a := c0) (b := 36) (by omega) (by omega)).mpr z9)
        refine lv_iload_n S.1 S.2.1 dX3_dueBehind_72 rfl (lv_at hl 3 rfl) ?_
        refine lv_bipush (v := 42) S.1 S.2.1 dX3_dueBehind_73 (by decide) ?_
        refine lv_icmp_ne (tgt := 80) S.1 S.2.1 dX3_dueBehind_75 (by decide) (fun c_7 => ?_) (fun c_7 => ?_)
        · skip
          have c_7 : ¬ c0 = 42 := fun z9 => c_7 ((nI_eq (a := c0) (b := 42) (by omega) (by omega)).mpr z9)
          refine lv_iload_n S.1 S.2.1 dX3_dueBehind_80 rfl (lv_at hl 0 rfl) ?_
          refine lv_if_ne (tgt := 90) S.1 S.2.1 dX3_dueBehind_81 (by decide) (fun c => absurd c (by decide)) (fun _ => ?_)
          refine lv_iload_n S.1 S.2.1 dX3_dueBehind_84 rfl (lv_at hl 3 rfl) ?_
          refine lv_bipush (v := 35) S.1 S.2.1 dX3_dueBehind_85 (by decide) ?_
          refine lv_icmp_ne (tgt := 94) S.1 S.2.1 dX3_dueBehind_87 (by decide) (fun c_9 => ?_) (fun c_9 => ?_)
          · skip
            have c_9 : ¬ c0 = 35 := fun z9 => c_9 ((nI_eq (a := c0) (b := 35) (by omega) (by omega)).mpr z9)
            refine lv_iconst (v := 4) S.1 S.2.1 dX3_dueBehind_94 (by decide) ?_
            refine uret_i S hK Z hre hlk dX3_dueBehind_95 ?_
            refine ⟨congrArg nI (show 4 = cDue 1 c0 from ?_), rfl⟩
            unfold cDue
            repeat' split
            all_goals omega
          · skip
            have c_9 : c0 = 35 := (nI_eq (a := c0) (b := 35) (by omega) (by omega)).mp c_9
            refine lv_iconst (v := 0) S.1 S.2.1 dX3_dueBehind_90 (by decide) ?_
            refine lv_goto (tgt := 95) S.1 S.2.1 dX3_dueBehind_91 (by decide) ?_
            refine uret_i S hK Z hre hlk dX3_dueBehind_95 ?_
            refine ⟨congrArg nI (show 0 = cDue 1 c0 from ?_), rfl⟩
            unfold cDue
            repeat' split
            all_goals omega
        · skip
          have c_7 : c0 = 42 := (nI_eq (a := c0) (b := 42) (by omega) (by omega)).mp c_7
          refine lv_iconst (v := 2) S.1 S.2.1 dX3_dueBehind_78 (by decide) ?_
          refine uret_i S hK Z hre hlk dX3_dueBehind_79 ?_
          refine ⟨congrArg nI (show 2 = cDue 1 c0 from ?_), rfl⟩
          unfold cDue
          repeat' split
          all_goals omega
  · skip
    rw [hM_1] at Z
    refine lv_istore_n (lv' := [(2, .int 0), (0, .int 1), (1, .int (nI c0))]) S.1 S.2.1 dX3_dueBehind_8 rfl hl (by decide) rfl (fun ls hl => ?_)
    refine lv_iload_n S.1 S.2.1 dX3_dueBehind_9 rfl (lv_at hl 2 rfl) ?_
    refine lv_bipush (v := 97) S.1 S.2.1 dX3_dueBehind_10 (by decide) ?_
    refine lv_bipush (v := 108) S.1 S.2.1 dX3_dueBehind_12 (by decide) ?_
    refine uc_Si (As := [.int (nI c0), .int 97, .int 108]) (rest := []) S hK hA Z (c_X5_withinN l G c0 97 108 (by omega) (by omega) (by omega) M) (va_cwS 3 S.2.2.2.2 gX3_dueBehind_X5_within rfl rfl rfl (by decide +kernel) ⟨Nat.le_of_ble_eq_true rfl, Nat.le_of_ble_eq_true rfl⟩) rfl hl.1 rfl (Nat.le_of_ble_eq_true rfl) dX3_dueBehind_14 ⟨Nat.zero_le _, Nat.zero_le _⟩ (fun r_10 M_10 H locs hp Z => ?_)
    obtain ⟨⟨rfl, w_10⟩ | ⟨rfl, w_10⟩, hM_10⟩ := hp
    · skip
      rw [hM_10] at Z
      refine lv_istore_n (lv' := [(3, .int 1), (2, .int 0), (0, .int 1), (1, .int (nI c0))]) S.1 S.2.1 dX3_dueBehind_17 rfl hl (by decide) rfl (fun ls hl => ?_)
      refine lv_iload_n S.1 S.2.1 dX3_dueBehind_18 rfl (lv_at hl 2 rfl) ?_
      refine lv_tableIn (tgt := 66) S.1 S.2.1 dX3_dueBehind_19 (by decide) (by decide) rfl (by decide) ?_
      refine lv_iload_n S.1 S.2.1 dX3_dueBehind_66 rfl (lv_at hl 3 rfl) ?_
      refine lv_bipush (v := 36) S.1 S.2.1 dX3_dueBehind_67 (by decide) ?_
      refine lv_icmp_eq (tgt := 78) S.1 S.2.1 dX3_dueBehind_69 (by decide) (fun c_11 => ?_) (fun c_11 => ?_)
      · skip
        have c_11 : c0 = 36 := (nI_eq (a := c0) (b := 36) (by omega) (by omega)).mp c_11
        refine lv_iconst (v := 2) S.1 S.2.1 dX3_dueBehind_78 (by decide) ?_
        refine uret_i S hK Z hre hlk dX3_dueBehind_79 ?_
        refine ⟨congrArg nI (show 2 = cDue 1 c0 from ?_), rfl⟩
        unfold cDue
        repeat' split
        all_goals omega
      · skip
        have c_11 : ¬ c0 = 36 := fun z9 => c_11 ((nI_eq (a := c0) (b := 36) (by omega) (by omega)).mpr z9)
        refine lv_iload_n S.1 S.2.1 dX3_dueBehind_72 rfl (lv_at hl 3 rfl) ?_
        refine lv_bipush (v := 42) S.1 S.2.1 dX3_dueBehind_73 (by decide) ?_
        refine lv_icmp_ne (tgt := 80) S.1 S.2.1 dX3_dueBehind_75 (by decide) (fun c_12 => ?_) (fun c_12 => ?_)
        · skip
          have c_12 : ¬ c0 = 42 := fun z9 => c_12 ((nI_eq (a := c0) (b := 42) (by omega) (by omega)).mpr z9)
          refine lv_iload_n S.1 S.2.1 dX3_dueBehind_80 rfl (lv_at hl 0 rfl) ?_
          refine lv_if_ne (tgt := 90) S.1 S.2.1 dX3_dueBehind_81 (by decide) (fun _ => ?_) (fun c => absurd c (by decide))
          refine lv_iconst (v := 0) S.1 S.2.1 dX3_dueBehind_90 (by decide) ?_
          refine lv_goto (tgt := 95) S.1 S.2.1 dX3_dueBehind_91 (by decide) ?_
          refine uret_i S hK Z hre hlk dX3_dueBehind_95 ?_
          refine ⟨congrArg nI (show 0 = cDue 1 c0 from ?_), rfl⟩
          unfold cDue
          repeat' split
          all_goals omega
        · skip
          have c_12 : c0 = 42 := (nI_eq (a := c0) (b := 42) (by omega) (by omega)).mp c_12
          refine lv_iconst (v := 2) S.1 S.2.1 dX3_dueBehind_78 (by decide) ?_
          refine uret_i S hK Z hre hlk dX3_dueBehind_79 ?_
          refine ⟨congrArg nI (show 2 = cDue 1 c0 from ?_), rfl⟩
          unfold cDue
          repeat' split
          all_goals omega
    · skip
      rw [hM_10] at Z
      refine lv_istore_n (lv' := [(3, .int 0), (2, .int 0), (0, .int 1), (1, .int (nI c0))]) S.1 S.2.1 dX3_dueBehind_17 rfl hl (by decide) rfl (fun ls hl => ?_)
      refine lv_iload_n S.1 S.2.1 dX3_dueBehind_18 rfl (lv_at hl 2 rfl) ?_
      refine lv_tableIn (tgt := 66) S.1 S.2.1 dX3_dueBehind_19 (by decide) (by decide) rfl (by decide) ?_
      refine lv_iload_n S.1 S.2.1 dX3_dueBehind_66 rfl (lv_at hl 3 rfl) ?_
      refine lv_bipush (v := 36) S.1 S.2.1 dX3_dueBehind_67 (by decide) ?_
      refine lv_icmp_eq (tgt := 78) S.1 S.2.1 dX3_dueBehind_69 (by decide) (fun c_14 => ?_) (fun c_14 => ?_)
      · skip
        have c_14 : c0 = 36 := (nI_eq (a := c0) (b := 36) (by omega) (by omega)).mp c_14
        refine lv_iconst (v := 2) S.1 S.2.1 dX3_dueBehind_78 (by decide) ?_
        refine uret_i S hK Z hre hlk dX3_dueBehind_79 ?_
        refine ⟨congrArg nI (show 2 = cDue 1 c0 from ?_), rfl⟩
        unfold cDue
        repeat' split
        all_goals omega
      · skip
        have c_14 : ¬ c0 = 36 := fun z9 => c_14 ((nI_eq (a := c0) (b := 36) (by omega) (by omega)).mpr z9)
        refine lv_iload_n S.1 S.2.1 dX3_dueBehind_72 rfl (lv_at hl 3 rfl) ?_
        refine lv_bipush (v := 42) S.1 S.2.1 dX3_dueBehind_73 (by decide) ?_
        refine lv_icmp_ne (tgt := 80) S.1 S.2.1 dX3_dueBehind_75 (by decide) (fun c_15 => ?_) (fun c_15 => ?_)
        · skip
          have c_15 : ¬ c0 = 42 := fun z9 => c_15 ((nI_eq (a := c0) (b := 42) (by omega) (by omega)).mpr z9)
          refine lv_iload_n S.1 S.2.1 dX3_dueBehind_80 rfl (lv_at hl 0 rfl) ?_
          refine lv_if_ne (tgt := 90) S.1 S.2.1 dX3_dueBehind_81 (by decide) (fun c => absurd c (by decide)) (fun _ => ?_)
          refine lv_iload_n S.1 S.2.1 dX3_dueBehind_84 rfl (lv_at hl 3 rfl) ?_
          refine lv_bipush (v := 35) S.1 S.2.1 dX3_dueBehind_85 (by decide) ?_
          refine lv_icmp_ne (tgt := 94) S.1 S.2.1 dX3_dueBehind_87 (by decide) (fun c_17 => ?_) (fun c_17 => ?_)
          · skip
            have c_17 : ¬ c0 = 35 := fun z9 => c_17 ((nI_eq (a := c0) (b := 35) (by omega) (by omega)).mpr z9)
            refine lv_iconst (v := 4) S.1 S.2.1 dX3_dueBehind_94 (by decide) ?_
            refine uret_i S hK Z hre hlk dX3_dueBehind_95 ?_
            refine ⟨congrArg nI (show 4 = cDue 1 c0 from ?_), rfl⟩
            unfold cDue
            repeat' split
            all_goals omega
          · skip
            have c_17 : c0 = 35 := (nI_eq (a := c0) (b := 35) (by omega) (by omega)).mp c_17
            refine lv_iconst (v := 0) S.1 S.2.1 dX3_dueBehind_90 (by decide) ?_
            refine lv_goto (tgt := 95) S.1 S.2.1 dX3_dueBehind_91 (by decide) ?_
            refine uret_i S hK Z hre hlk dX3_dueBehind_95 ?_
            refine ⟨congrArg nI (show 0 = cDue 1 c0 from ?_), rfl⟩
            unfold cDue
            repeat' split
            all_goals omega
        · skip
          have c_15 : c0 = 42 := (nI_eq (a := c0) (b := 42) (by omega) (by omega)).mp c_15
          refine lv_iconst (v := 2) S.1 S.2.1 dX3_dueBehind_78 (by decide) ?_
          refine uret_i S hK Z hre hlk dX3_dueBehind_79 ?_
          refine ⟨congrArg nI (show 2 = cDue 1 c0 from ?_), rfl⟩
          unfold cDue
          repeat' split
          all_goals omega
set_option maxHeartbeats 4000000 in
set_option maxRecDepth 100000 in
theorem c_X3_dueBehind_2 (l : Launch) (G : uG) (c0 : Nat) (hc : c0 < 127) (M : uM) : CTi l G yX3_dueBehind wsX3_dueBehind 1 22 [.int 2, .int (nI c0)] M (fun r M2 => r = nI (cDue 2 c0) ∧ M2 = M) := by
  refine ustart_i (cc := cX3_dueBehind) (maxL := 4) (ret := (some .int)) (own := RX3) rfl (by decide) rfl (Nat.le_of_ble_eq_true rfl) ?_
  intro xp xe xs xm xa xb xt xc xA ls S hK hA Z hre hlk hl
  have hl : lv_has ls 4 [(0, .int 2), (1, .int (nI c0))] := hl
  refine lv_iload_n S.1 S.2.1 dX3_dueBehind_0 rfl (lv_at hl 1 rfl) ?_
  refine lv_bipush (v := 65) S.1 S.2.1 dX3_dueBehind_1 (by decide) ?_
  refine lv_bipush (v := 72) S.1 S.2.1 dX3_dueBehind_3 (by decide) ?_
  refine uc_Si (As := [.int (nI c0), .int 65, .int 72]) (rest := []) S hK hA Z (c_X5_withinN l G c0 65 72 (by omega) (by omega) (by omega) M) (va_cwS 3 S.2.2.2.2 gX3_dueBehind_X5_within rfl rfl rfl (by decide +kernel) ⟨Nat.le_of_ble_eq_true rfl, Nat.le_of_ble_eq_true rfl⟩) rfl hl.1 rfl (Nat.le_of_ble_eq_true rfl) dX3_dueBehind_5 ⟨Nat.zero_le _, Nat.zero_le _⟩ (fun r_1 M_1 H locs hp Z => ?_)
  obtain ⟨⟨rfl, w_1⟩ | ⟨rfl, w_1⟩, hM_1⟩ := hp
  · skip
    rw [hM_1] at Z
    refine lv_istore_n (lv' := [(2, .int 1), (0, .int 2), (1, .int (nI c0))]) S.1 S.2.1 dX3_dueBehind_8 rfl hl (by decide) rfl (fun ls hl => ?_)
    refine lv_iload_n S.1 S.2.1 dX3_dueBehind_9 rfl (lv_at hl 2 rfl) ?_
    refine lv_bipush (v := 97) S.1 S.2.1 dX3_dueBehind_10 (by decide) ?_
    refine lv_bipush (v := 108) S.1 S.2.1 dX3_dueBehind_12 (by decide) ?_
    refine uc_Si (As := [.int (nI c0), .int 97, .int 108]) (rest := []) S hK hA Z (c_X5_withinN l G c0 97 108 (by omega) (by omega) (by omega) M) (va_cwS 3 S.2.2.2.2 gX3_dueBehind_X5_within rfl rfl rfl (by decide +kernel) ⟨Nat.le_of_ble_eq_true rfl, Nat.le_of_ble_eq_true rfl⟩) rfl hl.1 rfl (Nat.le_of_ble_eq_true rfl) dX3_dueBehind_14 ⟨Nat.zero_le _, Nat.zero_le _⟩ (fun r_2 M_2 H locs hp Z => ?_)
    obtain ⟨⟨rfl, w_2⟩ | ⟨rfl, w_2⟩, hM_2⟩ := hp
    · skip
      rw [hM_2] at Z
      refine lv_istore_n (lv' := [(3, .int 1), (2, .int 1), (0, .int 2), (1, .int (nI c0))]) S.1 S.2.1 dX3_dueBehind_17 rfl hl (by decide) rfl (fun ls hl => ?_)
      refine lv_iload_n S.1 S.2.1 dX3_dueBehind_18 rfl (lv_at hl 2 rfl) ?_
      refine lv_tableIn (tgt := 96) S.1 S.2.1 dX3_dueBehind_19 (by decide) (by decide) rfl (by decide) ?_
      refine lv_iload_n S.1 S.2.1 dX3_dueBehind_96 rfl (lv_at hl 0 rfl) ?_
      refine lv_if_eq (tgt := 104) S.1 S.2.1 dX3_dueBehind_97 (by decide) (fun c => absurd c (by decide)) (fun _ => ?_)
      refine lv_iconst (v := 3) S.1 S.2.1 dX3_dueBehind_100 (by decide) ?_
      refine lv_goto (tgt := 105) S.1 S.2.1 dX3_dueBehind_101 (by decide) ?_
      refine uret_i S hK Z hre hlk dX3_dueBehind_105 ?_
      refine ⟨congrArg nI (show 3 = cDue 2 c0 from ?_), rfl⟩
      unfold cDue
      repeat' split
      all_goals omega
    · skip
      rw [hM_2] at Z
      refine lv_istore_n (lv' := [(3, .int 0), (2, .int 1), (0, .int 2), (1, .int (nI c0))]) S.1 S.2.1 dX3_dueBehind_17 rfl hl (by decide) rfl (fun ls hl => ?_)
      refine lv_iload_n S.1 S.2.1 dX3_dueBehind_18 rfl (lv_at hl 2 rfl) ?_
      refine lv_tableIn (tgt := 96) S.1 S.2.1 dX3_dueBehind_19 (by decide) (by decide) rfl (by decide) ?_
      refine lv_iload_n S.1 S.2.1 dX3_dueBehind_96 rfl (lv_at hl 0 rfl) ?_
      refine lv_if_eq (tgt := 104) S.1 S.2.1 dX3_dueBehind_97 (by decide) (fun _ => ?_) (fun c => absurd c (by decide))
      refine lv_iconst (v := 4) S.1 S.2.1 dX3_dueBehind_104 (by decide) ?_
      refine uret_i S hK Z hre hlk dX3_dueBehind_105 ?_
      refine ⟨congrArg nI (show 4 = cDue 2 c0 from ?_), rfl⟩
      unfold cDue
      repeat' split
      all_goals omega
  · skip
    rw [hM_1] at Z
    refine lv_istore_n (lv' := [(2, .int 0), (0, .int 2), (1, .int (nI c0))]) S.1 S.2.1 dX3_dueBehind_8 rfl hl (by decide) rfl (fun ls hl => ?_)
    refine lv_iload_n S.1 S.2.1 dX3_dueBehind_9 rfl (lv_at hl 2 rfl) ?_
    refine lv_bipush (v := 97) S.1 S.2.1 dX3_dueBehind_10 (by decide) ?_
    refine lv_bipush (v := 108) S.1 S.2.1 dX3_dueBehind_12 (by decide) ?_
    refine uc_Si (As := [.int (nI c0), .int 97, .int 108]) (rest := []) S hK hA Z (c_X5_withinN l G c0 97 108 (by omega) (by omega) (by omega) M) (va_cwS 3 S.2.2.2.2 gX3_dueBehind_X5_within rfl rfl rfl (by decide +kernel) ⟨Nat.le_of_ble_eq_true rfl, Nat.le_of_ble_eq_true rfl⟩) rfl hl.1 rfl (Nat.le_of_ble_eq_true rfl) dX3_dueBehind_14 ⟨Nat.zero_le _, Nat.zero_le _⟩ (fun r_5 M_5 H locs hp Z => ?_)
    obtain ⟨⟨rfl, w_5⟩ | ⟨rfl, w_5⟩, hM_5⟩ := hp
    · skip
      rw [hM_5] at Z
      refine lv_istore_n (lv' := [(3, .int 1), (2, .int 0), (0, .int 2), (1, .int (nI c0))]) S.1 S.2.1 dX3_dueBehind_17 rfl hl (by decide) rfl (fun ls hl => ?_)
      refine lv_iload_n S.1 S.2.1 dX3_dueBehind_18 rfl (lv_at hl 2 rfl) ?_
      refine lv_tableIn (tgt := 96) S.1 S.2.1 dX3_dueBehind_19 (by decide) (by decide) rfl (by decide) ?_
      refine lv_iload_n S.1 S.2.1 dX3_dueBehind_96 rfl (lv_at hl 0 rfl) ?_
      refine lv_if_eq (tgt := 104) S.1 S.2.1 dX3_dueBehind_97 (by decide) (fun c => absurd c (by decide)) (fun _ => ?_)
      refine lv_iconst (v := 3) S.1 S.2.1 dX3_dueBehind_100 (by decide) ?_
      refine lv_goto (tgt := 105) S.1 S.2.1 dX3_dueBehind_101 (by decide) ?_
      refine uret_i S hK Z hre hlk dX3_dueBehind_105 ?_
      refine ⟨congrArg nI (show 3 = cDue 2 c0 from ?_), rfl⟩
      unfold cDue
      repeat' split
      all_goals omega
    · skip
      rw [hM_5] at Z
      refine lv_istore_n (lv' := [(3, .int 0), (2, .int 0), (0, .int 2), (1, .int (nI c0))]) S.1 S.2.1 dX3_dueBehind_17 rfl hl (by decide) rfl (fun ls hl => ?_)
      refine lv_iload_n S.1 S.2.1 dX3_dueBehind_18 rfl (lv_at hl 2 rfl) ?_
      refine lv_tableIn (tgt := 96) S.1 S.2.1 dX3_dueBehind_19 (by decide) (by decide) rfl (by decide) ?_
      refine lv_iload_n S.1 S.2.1 dX3_dueBehind_96 rfl (lv_at hl 0 rfl) ?_
      refine lv_if_eq (tgt := 104) S.1 S.2.1 dX3_dueBehind_97 (by decide) (fun _ => ?_) (fun c => absurd c (by decide))
      refine lv_iconst (v := 4) S.1 S.2.1 dX3_dueBehind_104 (by decide) ?_
      refine uret_i S hK Z hre hlk dX3_dueBehind_105 ?_
      refine ⟨congrArg nI (show 4 = cDue 2 c0 from ?_), rfl⟩
      unfold cDue
      repeat' split
      all_goals omega
set_option maxHeartbeats 4000000 in
set_option maxRecDepth 100000 in
theorem c_X3_dueBehind_3 (l : Launch) (G : uG) (c0 : Nat) (hc : c0 < 127) (M : uM) : CTi l G yX3_dueBehind wsX3_dueBehind 1 22 [.int 3, .int (nI c0)] M (fun r M2 => r = nI (cDue 3 c0) ∧ M2 = M) := by
  refine ustart_i (cc := cX3_dueBehind) (maxL := 4) (ret := (some .int)) (own := RX3) rfl (by decide) rfl (Nat.le_of_ble_eq_true rfl) ?_
  intro xp xe xs xm xa xb xt xc xA ls S hK hA Z hre hlk hl
  have hl : lv_has ls 4 [(0, .int 3), (1, .int (nI c0))] := hl
  refine lv_iload_n S.1 S.2.1 dX3_dueBehind_0 rfl (lv_at hl 1 rfl) ?_
  refine lv_bipush (v := 65) S.1 S.2.1 dX3_dueBehind_1 (by decide) ?_
  refine lv_bipush (v := 72) S.1 S.2.1 dX3_dueBehind_3 (by decide) ?_
  refine uc_Si (As := [.int (nI c0), .int 65, .int 72]) (rest := []) S hK hA Z (c_X5_withinN l G c0 65 72 (by omega) (by omega) (by omega) M) (va_cwS 3 S.2.2.2.2 gX3_dueBehind_X5_within rfl rfl rfl (by decide +kernel) ⟨Nat.le_of_ble_eq_true rfl, Nat.le_of_ble_eq_true rfl⟩) rfl hl.1 rfl (Nat.le_of_ble_eq_true rfl) dX3_dueBehind_5 ⟨Nat.zero_le _, Nat.zero_le _⟩ (fun r_1 M_1 H locs hp Z => ?_)
  obtain ⟨⟨rfl, w_1⟩ | ⟨rfl, w_1⟩, hM_1⟩ := hp
  · skip
    rw [hM_1] at Z
    refine lv_istore_n (lv' := [(2, .int 1), (0, .int 3), (1, .int (nI c0))]) S.1 S.2.1 dX3_dueBehind_8 rfl hl (by decide) rfl (fun ls hl => ?_)
    refine lv_iload_n S.1 S.2.1 dX3_dueBehind_9 rfl (lv_at hl 2 rfl) ?_
    refine lv_bipush (v := 97) S.1 S.2.1 dX3_dueBehind_10 (by decide) ?_
    refine lv_bipush (v := 108) S.1 S.2.1 dX3_dueBehind_12 (by decide) ?_
    refine uc_Si (As := [.int (nI c0), .int 97, .int 108]) (rest := []) S hK hA Z (c_X5_withinN l G c0 97 108 (by omega) (by omega) (by omega) M) (va_cwS 3 S.2.2.2.2 gX3_dueBehind_X5_within rfl rfl rfl (by decide +kernel) ⟨Nat.le_of_ble_eq_true rfl, Nat.le_of_ble_eq_true rfl⟩) rfl hl.1 rfl (Nat.le_of_ble_eq_true rfl) dX3_dueBehind_14 ⟨Nat.zero_le _, Nat.zero_le _⟩ (fun r_2 M_2 H locs hp Z => ?_)
    obtain ⟨⟨rfl, w_2⟩ | ⟨rfl, w_2⟩, hM_2⟩ := hp
    · skip
      rw [hM_2] at Z
      refine lv_istore_n (lv' := [(3, .int 1), (2, .int 1), (0, .int 3), (1, .int (nI c0))]) S.1 S.2.1 dX3_dueBehind_17 rfl hl (by decide) rfl (fun ls hl => ?_)
      refine lv_iload_n S.1 S.2.1 dX3_dueBehind_18 rfl (lv_at hl 2 rfl) ?_
      refine lv_tableIn (tgt := 106) S.1 S.2.1 dX3_dueBehind_19 (by decide) (by decide) rfl (by decide) ?_
      refine lv_iload_n S.1 S.2.1 dX3_dueBehind_106 rfl (lv_at hl 1 rfl) ?_
      refine lv_if_eq (tgt := 114) S.1 S.2.1 dX3_dueBehind_107 (by decide) (fun c => absurd c (by decide)) (fun _ => ?_)
      refine lv_iconst (v := 0) S.1 S.2.1 dX3_dueBehind_110 (by decide) ?_
      refine lv_goto (tgt := 115) S.1 S.2.1 dX3_dueBehind_111 (by decide) ?_
      refine uret_i S hK Z hre hlk dX3_dueBehind_115 ?_
      refine ⟨congrArg nI (show 0 = cDue 3 c0 from ?_), rfl⟩
      unfold cDue
      repeat' split
      all_goals omega
    · skip
      rw [hM_2] at Z
      refine lv_istore_n (lv' := [(3, .int 0), (2, .int 1), (0, .int 3), (1, .int (nI c0))]) S.1 S.2.1 dX3_dueBehind_17 rfl hl (by decide) rfl (fun ls hl => ?_)
      refine lv_iload_n S.1 S.2.1 dX3_dueBehind_18 rfl (lv_at hl 2 rfl) ?_
      refine lv_tableIn (tgt := 106) S.1 S.2.1 dX3_dueBehind_19 (by decide) (by decide) rfl (by decide) ?_
      refine lv_iload_n S.1 S.2.1 dX3_dueBehind_106 rfl (lv_at hl 1 rfl) ?_
      refine lv_if_eq (tgt := 114) S.1 S.2.1 dX3_dueBehind_107 (by decide) (fun c => absurd c (by decide)) (fun _ => ?_)
      refine lv_iconst (v := 0) S.1 S.2.1 dX3_dueBehind_110 (by decide) ?_
      refine lv_goto (tgt := 115) S.1 S.2.1 dX3_dueBehind_111 (by decide) ?_
      refine uret_i S hK Z hre hlk dX3_dueBehind_115 ?_
      refine ⟨congrArg nI (show 0 = cDue 3 c0 from ?_), rfl⟩
      unfold cDue
      repeat' split
      all_goals omega
  · skip
    rw [hM_1] at Z
    refine lv_istore_n (lv' := [(2, .int 0), (0, .int 3), (1, .int (nI c0))]) S.1 S.2.1 dX3_dueBehind_8 rfl hl (by decide) rfl (fun ls hl => ?_)
    refine lv_iload_n S.1 S.2.1 dX3_dueBehind_9 rfl (lv_at hl 2 rfl) ?_
    refine lv_bipush (v := 97) S.1 S.2.1 dX3_dueBehind_10 (by decide) ?_
    refine lv_bipush (v := 108) S.1 S.2.1 dX3_dueBehind_12 (by decide) ?_
    refine uc_Si (As := [.int (nI c0), .int 97, .int 108]) (rest := []) S hK hA Z (c_X5_withinN l G c0 97 108 (by omega) (by omega) (by omega) M) (va_cwS 3 S.2.2.2.2 gX3_dueBehind_X5_within rfl rfl rfl (by decide +kernel) ⟨Nat.le_of_ble_eq_true rfl, Nat.le_of_ble_eq_true rfl⟩) rfl hl.1 rfl (Nat.le_of_ble_eq_true rfl) dX3_dueBehind_14 ⟨Nat.zero_le _, Nat.zero_le _⟩ (fun r_5 M_5 H locs hp Z => ?_)
    obtain ⟨⟨rfl, w_5⟩ | ⟨rfl, w_5⟩, hM_5⟩ := hp
    · skip
      rw [hM_5] at Z
      refine lv_istore_n (lv' := [(3, .int 1), (2, .int 0), (0, .int 3), (1, .int (nI c0))]) S.1 S.2.1 dX3_dueBehind_17 rfl hl (by decide) rfl (fun ls hl => ?_)
      refine lv_iload_n S.1 S.2.1 dX3_dueBehind_18 rfl (lv_at hl 2 rfl) ?_
      refine lv_tableIn (tgt := 106) S.1 S.2.1 dX3_dueBehind_19 (by decide) (by decide) rfl (by decide) ?_
      refine lv_iload_n S.1 S.2.1 dX3_dueBehind_106 rfl (lv_at hl 1 rfl) ?_
      refine lv_if_eq (tgt := 114) S.1 S.2.1 dX3_dueBehind_107 (by decide) (fun _ => ?_) (fun c => absurd c (by decide))
      refine lv_iconst (v := 4) S.1 S.2.1 dX3_dueBehind_114 (by decide) ?_
      refine uret_i S hK Z hre hlk dX3_dueBehind_115 ?_
      refine ⟨congrArg nI (show 4 = cDue 3 c0 from ?_), rfl⟩
      unfold cDue
      repeat' split
      all_goals omega
    · skip
      rw [hM_5] at Z
      refine lv_istore_n (lv' := [(3, .int 0), (2, .int 0), (0, .int 3), (1, .int (nI c0))]) S.1 S.2.1 dX3_dueBehind_17 rfl hl (by decide) rfl (fun ls hl => ?_)
      refine lv_iload_n S.1 S.2.1 dX3_dueBehind_18 rfl (lv_at hl 2 rfl) ?_
      refine lv_tableIn (tgt := 106) S.1 S.2.1 dX3_dueBehind_19 (by decide) (by decide) rfl (by decide) ?_
      refine lv_iload_n S.1 S.2.1 dX3_dueBehind_106 rfl (lv_at hl 1 rfl) ?_
      refine lv_if_eq (tgt := 114) S.1 S.2.1 dX3_dueBehind_107 (by decide) (fun _ => ?_) (fun c => absurd c (by decide))
      refine lv_iconst (v := 4) S.1 S.2.1 dX3_dueBehind_114 (by decide) ?_
      refine uret_i S hK Z hre hlk dX3_dueBehind_115 ?_
      refine ⟨congrArg nI (show 4 = cDue 3 c0 from ?_), rfl⟩
      unfold cDue
      repeat' split
      all_goals omega
set_option maxHeartbeats 4000000 in
set_option maxRecDepth 100000 in
theorem c_X3_dueBehind_4 (l : Launch) (G : uG) (c0 : Nat) (hc : c0 < 127) (M : uM) : CTi l G yX3_dueBehind wsX3_dueBehind 1 22 [.int 4, .int (nI c0)] M (fun r M2 => r = nI (cDue 4 c0) ∧ M2 = M) := by
  refine ustart_i (cc := cX3_dueBehind) (maxL := 4) (ret := (some .int)) (own := RX3) rfl (by decide) rfl (Nat.le_of_ble_eq_true rfl) ?_
  intro xp xe xs xm xa xb xt xc xA ls S hK hA Z hre hlk hl
  have hl : lv_has ls 4 [(0, .int 4), (1, .int (nI c0))] := hl
  refine lv_iload_n S.1 S.2.1 dX3_dueBehind_0 rfl (lv_at hl 1 rfl) ?_
  refine lv_bipush (v := 65) S.1 S.2.1 dX3_dueBehind_1 (by decide) ?_
  refine lv_bipush (v := 72) S.1 S.2.1 dX3_dueBehind_3 (by decide) ?_
  refine uc_Si (As := [.int (nI c0), .int 65, .int 72]) (rest := []) S hK hA Z (c_X5_withinN l G c0 65 72 (by omega) (by omega) (by omega) M) (va_cwS 3 S.2.2.2.2 gX3_dueBehind_X5_within rfl rfl rfl (by decide +kernel) ⟨Nat.le_of_ble_eq_true rfl, Nat.le_of_ble_eq_true rfl⟩) rfl hl.1 rfl (Nat.le_of_ble_eq_true rfl) dX3_dueBehind_5 ⟨Nat.zero_le _, Nat.zero_le _⟩ (fun r_1 M_1 H locs hp Z => ?_)
  obtain ⟨⟨rfl, w_1⟩ | ⟨rfl, w_1⟩, hM_1⟩ := hp
  · skip
    rw [hM_1] at Z
    refine lv_istore_n (lv' := [(2, .int 1), (0, .int 4), (1, .int (nI c0))]) S.1 S.2.1 dX3_dueBehind_8 rfl hl (by decide) rfl (fun ls hl => ?_)
    refine lv_iload_n S.1 S.2.1 dX3_dueBehind_9 rfl (lv_at hl 2 rfl) ?_
    refine lv_bipush (v := 97) S.1 S.2.1 dX3_dueBehind_10 (by decide) ?_
    refine lv_bipush (v := 108) S.1 S.2.1 dX3_dueBehind_12 (by decide) ?_
    refine uc_Si (As := [.int (nI c0), .int 97, .int 108]) (rest := []) S hK hA Z (c_X5_withinN l G c0 97 108 (by omega) (by omega) (by omega) M) (va_cwS 3 S.2.2.2.2 gX3_dueBehind_X5_within rfl rfl rfl (by decide +kernel) ⟨Nat.le_of_ble_eq_true rfl, Nat.le_of_ble_eq_true rfl⟩) rfl hl.1 rfl (Nat.le_of_ble_eq_true rfl) dX3_dueBehind_14 ⟨Nat.zero_le _, Nat.zero_le _⟩ (fun r_2 M_2 H locs hp Z => ?_)
    obtain ⟨⟨rfl, w_2⟩ | ⟨rfl, w_2⟩, hM_2⟩ := hp
    · skip
      rw [hM_2] at Z
      refine lv_istore_n (lv' := [(3, .int 1), (2, .int 1), (0, .int 4), (1, .int (nI c0))]) S.1 S.2.1 dX3_dueBehind_17 rfl hl (by decide) rfl (fun ls hl => ?_)
      refine lv_iload_n S.1 S.2.1 dX3_dueBehind_18 rfl (lv_at hl 2 rfl) ?_
      refine lv_tableOut (tgt := 116) S.1 S.2.1 dX3_dueBehind_19 (by decide) (by decide) ?_
      refine lv_iconst (v := 4) S.1 S.2.1 dX3_dueBehind_116 (by decide) ?_
      refine uret_i S hK Z hre hlk dX3_dueBehind_117 ?_
      refine ⟨congrArg nI (show 4 = cDue 4 c0 from ?_), rfl⟩
      unfold cDue
      repeat' split
      all_goals omega
    · skip
      rw [hM_2] at Z
      refine lv_istore_n (lv' := [(3, .int 0), (2, .int 1), (0, .int 4), (1, .int (nI c0))]) S.1 S.2.1 dX3_dueBehind_17 rfl hl (by decide) rfl (fun ls hl => ?_)
      refine lv_iload_n S.1 S.2.1 dX3_dueBehind_18 rfl (lv_at hl 2 rfl) ?_
      refine lv_tableOut (tgt := 116) S.1 S.2.1 dX3_dueBehind_19 (by decide) (by decide) ?_
      refine lv_iconst (v := 4) S.1 S.2.1 dX3_dueBehind_116 (by decide) ?_
      refine uret_i S hK Z hre hlk dX3_dueBehind_117 ?_
      refine ⟨congrArg nI (show 4 = cDue 4 c0 from ?_), rfl⟩
      unfold cDue
      repeat' split
      all_goals omega
  · skip
    rw [hM_1] at Z
    refine lv_istore_n (lv' := [(2, .int 0), (0, .int 4), (1, .int (nI c0))]) S.1 S.2.1 dX3_dueBehind_8 rfl hl (by decide) rfl (fun ls hl => ?_)
    refine lv_iload_n S.1 S.2.1 dX3_dueBehind_9 rfl (lv_at hl 2 rfl) ?_
    refine lv_bipush (v := 97) S.1 S.2.1 dX3_dueBehind_10 (by decide) ?_
    refine lv_bipush (v := 108) S.1 S.2.1 dX3_dueBehind_12 (by decide) ?_
    refine uc_Si (As := [.int (nI c0), .int 97, .int 108]) (rest := []) S hK hA Z (c_X5_withinN l G c0 97 108 (by omega) (by omega) (by omega) M) (va_cwS 3 S.2.2.2.2 gX3_dueBehind_X5_within rfl rfl rfl (by decide +kernel) ⟨Nat.le_of_ble_eq_true rfl, Nat.le_of_ble_eq_true rfl⟩) rfl hl.1 rfl (Nat.le_of_ble_eq_true rfl) dX3_dueBehind_14 ⟨Nat.zero_le _, Nat.zero_le _⟩ (fun r_3 M_3 H locs hp Z => ?_)
    obtain ⟨⟨rfl, w_3⟩ | ⟨rfl, w_3⟩, hM_3⟩ := hp
    · skip
      rw [hM_3] at Z
      refine lv_istore_n (lv' := [(3, .int 1), (2, .int 0), (0, .int 4), (1, .int (nI c0))]) S.1 S.2.1 dX3_dueBehind_17 rfl hl (by decide) rfl (fun ls hl => ?_)
      refine lv_iload_n S.1 S.2.1 dX3_dueBehind_18 rfl (lv_at hl 2 rfl) ?_
      refine lv_tableOut (tgt := 116) S.1 S.2.1 dX3_dueBehind_19 (by decide) (by decide) ?_
      refine lv_iconst (v := 4) S.1 S.2.1 dX3_dueBehind_116 (by decide) ?_
      refine uret_i S hK Z hre hlk dX3_dueBehind_117 ?_
      refine ⟨congrArg nI (show 4 = cDue 4 c0 from ?_), rfl⟩
      unfold cDue
      repeat' split
      all_goals omega
    · skip
      rw [hM_3] at Z
      refine lv_istore_n (lv' := [(3, .int 0), (2, .int 0), (0, .int 4), (1, .int (nI c0))]) S.1 S.2.1 dX3_dueBehind_17 rfl hl (by decide) rfl (fun ls hl => ?_)
      refine lv_iload_n S.1 S.2.1 dX3_dueBehind_18 rfl (lv_at hl 2 rfl) ?_
      refine lv_tableOut (tgt := 116) S.1 S.2.1 dX3_dueBehind_19 (by decide) (by decide) ?_
      refine lv_iconst (v := 4) S.1 S.2.1 dX3_dueBehind_116 (by decide) ?_
      refine uret_i S hK Z hre hlk dX3_dueBehind_117 ?_
      refine ⟨congrArg nI (show 4 = cDue 4 c0 from ?_), rfl⟩
      unfold cDue
      repeat' split
      all_goals omega
theorem c_X3_dueBehind (l : Launch) (G : uG) (d c0 : Nat) (hd : d ≤ 4) (hc : c0 < 127) (M : uM) : CTi l G yX3_dueBehind wsX3_dueBehind 1 22 [.int (nI d), .int (nI c0)] M (fun r M2 => r = nI (cDue d c0) ∧ M2 = M) := by
  rcases (show d = 0 ∨ d = 1 ∨ d = 2 ∨ d = 3 ∨ d = 4 by omega) with rfl | rfl | rfl | rfl | rfl
  · exact c_X3_dueBehind_0 l G c0 hc M
  · exact c_X3_dueBehind_1 l G c0 hc M
  · exact c_X3_dueBehind_2 l G c0 hc M
  · exact c_X3_dueBehind_3 l G c0 hc M
  · exact c_X3_dueBehind_4 l G c0 hc M
set_option maxHeartbeats 4000000 in
set_option maxRecDepth 100000 in
theorem c_X3_faultPlace (l : Launch) (G : uG) (M : uM) (s : Nat → Nat) (n : Nat) (hp : pdAt M s n) (ho : pdOk s n) : CTi l G yX3_faultPlace wsX3_faultPlace 2 45 [.ref (G.2.2 21)] M (fun r M2 => r = cFault s n ∧ M2 = M) := by
  have hn60 := ho.1
  refine ustart_i (cc := cX3_faultPlace) (maxL := 3) (ret := (some .int)) (own := RX3) rfl (by decide) rfl (Nat.le_of_ble_eq_true rfl) ?_
  intro xp xe xs xm xa xb xt xc xA ls S hK hA Z hre hlk hl
  have hl : lv_has ls 3 [(0, .ref (G.2.2 21))] := hl
  refine lv_iconst (v := 0) S.1 S.2.1 dX3_faultPlace_0 (by decide) ?_
  refine lv_istore_n (lv' := [(1, .int 0), (0, .ref (G.2.2 21))]) S.1 S.2.1 dX3_faultPlace_1 rfl hl (by decide) rfl (fun ls hl => ?_)
  refine lv_iconst (v := 0) S.1 S.2.1 dX3_faultPlace_2 (by decide) ?_
  refine lv_istore_n (lv' := [(2, .int 0), (1, .int 0), (0, .ref (G.2.2 21))]) S.1 S.2.1 dX3_faultPlace_3 rfl hl (by decide) rfl (fun ls hl => ?_)
  have LP4 : ∀ (fU : Nat) (d : Nat) (i : Nat), (n < i + fU) → (i ≤ n) → (d = cRun s i) → (cFa s i = none) → ∀ (H : Heap) (locs : List Loc) (ls : Array Slot), uZ G xA M xs.heap H locs → lv_has ls 3 [(2, .int (nI i)), (1, .int (nI d)), (0, .ref (G.2.2 21))] → W xp l xe (uRm 2 45) xs xm xa xb xt xc H locs 0 0 (MQ xb (va_Qi (fun r M2 => r = cFault s n ∧ M2 = M) (fun M' t => uB G M' t) xA) xa xs 0 0 xA) (F0 xm 4 ls []) := by
    intro fU
    induction fU with
    | zero =>
      intro d i hfl i1 i2 i3 H locs ls Z hl
      exfalso
      omega
    | succ fU ih4 =>
      intro d i hfl i1 i2 i3 H locs ls Z hl
      have i4 : d ≤ 4 := by rw [i2]; exact cRun_le s i
      have i5 := cDue_le d (s i)
      refine lv_iload_n S.1 S.2.1 dX3_faultPlace_4 rfl (lv_at hl 0 rfl) ?_
      refine lv_aload_n S.1 S.2.1 dX3_faultPlace_5 rfl (lv_at hl 2 rfl) ?_
      refine ug_i S hK Z (j := 1) (by decide) rfl rfl rfl (by decide) iX3_faultPlace_X3 qX3_faultPlace_15 dX3_faultPlace_6 ?_
      refine utop (y := (nI n)) hp.2 ?_
      refine lv_icmp_ge (tgt := 35) S.1 S.2.1 dX3_faultPlace_9 (by decide) (fun c_1 => ?_) (fun c_1 => ?_)
      · skip
        have c_1 : n ≤ i := (nI_leI (a := n) (b := i) (by omega) (by omega)).mp c_1
        refine lv_iload_n S.1 S.2.1 dX3_faultPlace_35 rfl (lv_at hl 1 rfl) ?_
        refine lv_if_ne (tgt := 44) S.1 S.2.1 dX3_faultPlace_36 (by decide) (fun c_2 => ?_) (fun c_2 => ?_)
        · skip
          have c_2 : ¬ d = 0 := fun z9 => c_2 ((nI_eq (a := d) (b := 0) (by omega) (by omega)).mpr z9)
          refine lv_aload_n S.1 S.2.1 dX3_faultPlace_44 rfl (lv_at hl 2 rfl) ?_
          refine ug_i S hK Z (j := 1) (by decide) rfl rfl rfl (by decide) iX3_faultPlace_X3 qX3_faultPlace_15 dX3_faultPlace_45 ?_
          refine utop (y := (nI n)) hp.2 ?_
          refine uret_i S hK Z hre hlk dX3_faultPlace_48 ?_
          refine ⟨?_, rfl⟩
          obtain rfl : i = n := by omega
          unfold cFault
          rw [i3]
          dsimp only
          rw [if_neg (by omega)]
        · skip
          have c_2 : d = 0 := (nI_eq (a := d) (b := 0) (by omega) (by omega)).mp c_2
          refine lv_bipush (v := (-6)) S.1 S.2.1 dX3_faultPlace_39 (by decide) ?_
          refine lv_goto (tgt := 48) S.1 S.2.1 dX3_faultPlace_41 (by decide) ?_
          refine uret_i S hK Z hre hlk dX3_faultPlace_48 ?_
          refine ⟨?_, rfl⟩
          obtain rfl : i = n := by omega
          unfold cFault
          rw [i3]
          dsimp only
          rw [if_pos (by omega)]
      · skip
        have c_1 : ¬ n ≤ i := fun z9 => c_1 ((nI_leI (a := n) (b := i) (by omega) (by omega)).mpr z9)
        refine lv_iload_n S.1 S.2.1 dX3_faultPlace_12 rfl (lv_at hl 1 rfl) ?_
        refine lv_aload_n S.1 S.2.1 dX3_faultPlace_13 rfl (lv_at hl 2 rfl) ?_
        refine lv_iload_n S.1 S.2.1 dX3_faultPlace_14 rfl (lv_at hl 0 rfl) ?_
        refine ud_Vi (As := [.int (nI i)]) (rest := [.int (nI d)]) S hK hA Z (c_X3_signAt l G i (by omega) M s n hp ho) (cwV 1 S.2.2.2.2 gX3_faultPlace_X3_signAt rfl rfl rfl (by decide +kernel) ⟨Nat.le_of_ble_eq_true rfl, Nat.le_of_ble_eq_true rfl⟩) (by decide) rfl rfl rfl hl.1 rfl (Nat.le_of_ble_eq_true rfl) dX3_faultPlace_15 ⟨Nat.zero_le _, Nat.zero_le _⟩ (fun H locs Z => ?_)
        refine ud_Si (As := [.int (nI d), .int (nI (s i))]) (rest := []) S hK hA Z (c_X3_dueBehind l G d (s i) (by omega) (ho.2.2 _) M) (va_cwS 2 S.2.2.2.2 gX3_faultPlace_X3_dueBehind rfl rfl rfl (by decide +kernel) ⟨Nat.le_of_ble_eq_true rfl, Nat.le_of_ble_eq_true rfl⟩) rfl hl.1 rfl (Nat.le_of_ble_eq_true rfl) dX3_faultPlace_18 ⟨Nat.zero_le _, Nat.zero_le _⟩ (fun H locs Z => ?_)
        refine lv_istore_n (lv' := [(1, .int (nI (cDue d (s i)))), (2, .int (nI i)), (0, .ref (G.2.2 21))]) S.1 S.2.1 dX3_faultPlace_21 rfl hl (by decide) rfl (fun ls hl => ?_)
        refine lv_iload_n S.1 S.2.1 dX3_faultPlace_22 rfl (lv_at hl 0 rfl) ?_
        refine lv_iconst (v := 4) S.1 S.2.1 dX3_faultPlace_23 (by decide) ?_
        refine lv_icmp_ne (tgt := 29) S.1 S.2.1 dX3_faultPlace_24 (by decide) (fun c_5 => ?_) (fun c_5 => ?_)
        · skip
          have c_5 : ¬ (cDue d (s i)) = 4 := fun z9 => c_5 ((nI_eq (a := (cDue d (s i))) (b := 4) (by omega) (by omega)).mpr z9)
          refine lv_iinc (v := (nI (i + 1))) (lv' := [(2, .int (nI (i + 1))), (1, .int (nI (cDue d (s i)))), (0, .ref (G.2.2 21))]) S.1 S.2.1 dX3_faultPlace_29 hl (k := 1) rfl (u_inc1 i) (by decide) rfl (fun ls hl => ?_)
          refine lv_goto (tgt := 4) S.1 S.2.1 dX3_faultPlace_32 (by decide) ?_
          exact ih4 (cDue d (s i)) (i + 1) (by omega) (by omega) (by rw [cRun, ← i2]) (by exact cFa_go i3 (by rw [cRun, ← i2]; assumption)) _ _ _ Z (lv_sub hl [0, 1, 2] rfl)
        · skip
          have c_5 : (cDue d (s i)) = 4 := (nI_eq (a := (cDue d (s i))) (b := 4) (by omega) (by omega)).mp c_5
          refine lv_iload_n S.1 S.2.1 dX3_faultPlace_27 rfl (lv_at hl 1 rfl) ?_
          refine uret_i S hK Z hre hlk dX3_faultPlace_28 ?_
          refine ⟨?_, rfl⟩
          unfold cFault
          rw [cFa_up (cFa_at i3 (by rw [cRun, ← i2]; assumption)) n (by omega)]
  exact LP4 (n + 1) 0 0 (by omega) (by omega) (by rfl) (by rfl) _ _ _ Z (lv_sub hl [0, 1, 2] rfl)
set_option maxHeartbeats 4000000 in
set_option maxRecDepth 100000 in
theorem c_X3_kindAt (l : Launch) (G : uG) (p0 : Nat) (hj : p0 < 1000) (M : uM) (s : Nat → Nat) (n : Nat) (hp : pdAt M s n) (ho : pdOk s n) : CTi l G yX3_kindAt wsX3_kindAt 2 42 [.ref (G.2.2 21), .int (nI p0)] M (fun r M2 => r = nI (pKind s p0) ∧ M2 = M) := by
  have hs1 := ho.2.2 p0
  have hs2 := ho.2.2 (p0 + 1)
  refine ustart_i (cc := cX3_kindAt) (maxL := 2) (ret := (some .int)) (own := RX3) rfl (by decide) rfl (Nat.le_of_ble_eq_true rfl) ?_
  intro xp xe xs xm xa xb xt xc xA ls S hK hA Z hre hlk hl
  have hl : lv_has ls 2 [(0, .ref (G.2.2 21)), (1, .int (nI p0))] := hl
  refine lv_aload_n S.1 S.2.1 dX3_kindAt_0 rfl (lv_at hl 0 rfl) ?_
  refine lv_iload_n S.1 S.2.1 dX3_kindAt_1 rfl (lv_at hl 1 rfl) ?_
  refine ud_Vi (As := [.int (nI p0)]) (rest := []) S hK hA Z (c_X3_signAt l G p0 (by omega) M s n hp ho) (cwV 1 S.2.2.2.2 gX3_kindAt_X3_signAt rfl rfl rfl (by decide +kernel) ⟨Nat.le_of_ble_eq_true rfl, Nat.le_of_ble_eq_true rfl⟩) (by decide) rfl rfl rfl hl.1 rfl (Nat.le_of_ble_eq_true rfl) dX3_kindAt_2 ⟨Nat.zero_le _, Nat.zero_le _⟩ (fun H locs Z => ?_)
  refine lv_bipush (v := 46) S.1 S.2.1 dX3_kindAt_5 (by decide) ?_
  refine lv_icmp_ne (tgt := 12) S.1 S.2.1 dX3_kindAt_7 (by decide) (fun c_2 => ?_) (fun c_2 => ?_)
  · skip
    have c_2 : ¬ (s p0) = 46 := fun z9 => c_2 ((nI_eq (a := (s p0)) (b := 46) (by omega) (by omega)).mpr z9)
    have a0 := c_2
    refine lv_aload_n S.1 S.2.1 dX3_kindAt_12 rfl (lv_at hl 0 rfl) ?_
    refine lv_iload_n S.1 S.2.1 dX3_kindAt_13 rfl (lv_at hl 1 rfl) ?_
    refine lv_iconst (v := 1) S.1 S.2.1 dX3_kindAt_14 (by decide) ?_
    refine lv_iadd S.1 S.2.1 dX3_kindAt_15 ?_
    refine utop (nI_add p0 1) ?_
    refine ud_Vi (As := [.int (nI (p0 + 1))]) (rest := []) S hK hA Z (c_X3_signAt l G (p0 + 1) (by omega) M s n hp ho) (cwV 1 S.2.2.2.2 gX3_kindAt_X3_signAt rfl rfl rfl (by decide +kernel) ⟨Nat.le_of_ble_eq_true rfl, Nat.le_of_ble_eq_true rfl⟩) (by decide) rfl rfl rfl hl.1 rfl (Nat.le_of_ble_eq_true rfl) dX3_kindAt_16 ⟨Nat.zero_le _, Nat.zero_le _⟩ (fun H locs Z => ?_)
    by_cases k_4 : (nI (s (p0 + 1))) = 35
    · skip
      refine utop k_4 ?_
      have k_4 : (s (p0 + 1)) = 35 := (nI_eq (a := (s (p0 + 1))) (b := 35) (by omega) (by omega)).mp k_4
      refine lv_lookup (tgt := 52) (off := 33) S.1 S.2.1 dX3_kindAt_19 (by decide) (by decide) (by decide) ?_
      refine lv_iconst (v := 3) S.1 S.2.1 dX3_kindAt_52 (by decide) ?_
      refine uret_i S hK Z hre hlk dX3_kindAt_53 ?_
      refine ⟨congrArg nI (show 3 = pKind s p0 from ?_), rfl⟩
      unfold pKind
      repeat' split
      all_goals omega
    · skip
      have jk_4 : ¬ (s (p0 + 1)) = 35 := fun z9 => k_4 ((nI_eq (a := (s (p0 + 1))) (b := 35) (by omega) (by omega)).mpr z9)
      by_cases k_5 : (nI (s (p0 + 1))) = 36
      · skip
        refine utop k_5 ?_
        have k_5 : (s (p0 + 1)) = 36 := (nI_eq (a := (s (p0 + 1))) (b := 36) (by omega) (by omega)).mp k_5
        refine lv_lookup (tgt := 54) (off := 35) S.1 S.2.1 dX3_kindAt_19 (by decide) (by decide) (by decide) ?_
        refine lv_iconst (v := 1) S.1 S.2.1 dX3_kindAt_54 (by decide) ?_
        refine uret_i S hK Z hre hlk dX3_kindAt_55 ?_
        refine ⟨congrArg nI (show 1 = pKind s p0 from ?_), rfl⟩
        unfold pKind
        repeat' split
        all_goals omega
      · skip
        have jk_5 : ¬ (s (p0 + 1)) = 36 := fun z9 => k_5 ((nI_eq (a := (s (p0 + 1))) (b := 36) (by omega) (by omega)).mpr z9)
        by_cases k_6 : (nI (s (p0 + 1))) = 42
        · skip
          refine utop k_6 ?_
          have k_6 : (s (p0 + 1)) = 42 := (nI_eq (a := (s (p0 + 1))) (b := 42) (by omega) (by omega)).mp k_6
          refine lv_lookup (tgt := 56) (off := 37) S.1 S.2.1 dX3_kindAt_19 (by decide) (by decide) (by decide) ?_
          refine lv_iconst (v := 2) S.1 S.2.1 dX3_kindAt_56 (by decide) ?_
          refine uret_i S hK Z hre hlk dX3_kindAt_57 ?_
          refine ⟨congrArg nI (show 2 = pKind s p0 from ?_), rfl⟩
          unfold pKind
          repeat' split
          all_goals omega
        · skip
          have jk_6 : ¬ (s (p0 + 1)) = 42 := fun z9 => k_6 ((nI_eq (a := (s (p0 + 1))) (b := 42) (by omega) (by omega)).mpr z9)
          have tk_4 := lv_neT k_4 (show (35 : Int32).toInt = 35 from by decide)
          have tk_5 := lv_neT k_5 (show (36 : Int32).toInt = 36 from by decide)
          have tk_6 := lv_neT k_6 (show (42 : Int32).toInt = 42 from by decide)
          refine lv_lookup (tgt := 58) (off := 39) S.1 S.2.1 dX3_kindAt_19 (by decide) ((lv_osw k_4 (by decide)).trans ((lv_osw k_5 (by decide)).trans ((lv_osw k_6 (by decide)).trans rfl))) (by decide) ?_
          refine lv_iconst (v := 0) S.1 S.2.1 dX3_kindAt_58 (by decide) ?_
          refine uret_i S hK Z hre hlk dX3_kindAt_59 ?_
          refine ⟨congrArg nI (show 0 = pKind s p0 from ?_), rfl⟩
          unfold pKind
          repeat' split
          all_goals omega
  · skip
    have c_2 : (s p0) = 46 := (nI_eq (a := (s p0)) (b := 46) (by omega) (by omega)).mp c_2
    have a0 := c_2
    refine lv_iconst (v := 4) S.1 S.2.1 dX3_kindAt_10 (by decide) ?_
    refine uret_i S hK Z hre hlk dX3_kindAt_11 ?_
    refine ⟨congrArg nI (show 4 = pKind s p0 from ?_), rfl⟩
    unfold pKind
    repeat' split
    all_goals omega
set_option maxHeartbeats 4000000 in
set_option maxRecDepth 100000 in
theorem c_X3_lengthOf (l : Launch) (G : uG) (kd : Nat) (hk : kd ≤ 4) (M : uM) : CTi l G yX3_lengthOf wsX3_lengthOf 0 0 [.int (nI kd)] M (fun r M2 => r = nI (pLen kd) ∧ M2 = M) := by
  refine ustart_i (cc := cX3_lengthOf) (maxL := 1) (ret := (some .int)) (own := RX3) rfl (by decide) rfl (Nat.le_of_ble_eq_true rfl) ?_
  intro xp xe xs xm xa xb xt xc xA ls S hK hA Z hre hlk hl
  have hl : lv_has ls 1 [(0, .int (nI kd))] := hl
  refine lv_iload_n S.1 S.2.1 dX3_lengthOf_0 rfl (lv_at hl 0 rfl) ?_
  refine lv_iconst (v := 4) S.1 S.2.1 dX3_lengthOf_1 (by decide) ?_
  refine lv_icmp_ne (tgt := 7) S.1 S.2.1 dX3_lengthOf_2 (by decide) (fun c_1 => ?_) (fun c_1 => ?_)
  · skip
    have c_1 : ¬ kd = 4 := fun z9 => c_1 ((nI_eq (a := kd) (b := 4) (by omega) (by omega)).mpr z9)
    refine lv_iload_n S.1 S.2.1 dX3_lengthOf_7 rfl (lv_at hl 0 rfl) ?_
    refine lv_iconst (v := 1) S.1 S.2.1 dX3_lengthOf_8 (by decide) ?_
    refine lv_icmp_eq (tgt := 17) S.1 S.2.1 dX3_lengthOf_9 (by decide) (fun c_2 => ?_) (fun c_2 => ?_)
    · skip
      have c_2 : kd = 1 := (nI_eq (a := kd) (b := 1) (by omega) (by omega)).mp c_2
      refine lv_iconst (v := 4) S.1 S.2.1 dX3_lengthOf_17 (by decide) ?_
      refine lv_goto (tgt := 22) S.1 S.2.1 dX3_lengthOf_18 (by decide) ?_
      refine uret_i S hK Z hre hlk dX3_lengthOf_22 ?_
      refine ⟨congrArg nI (show 4 = pLen kd from ?_), rfl⟩
      unfold pLen
      repeat' split
      all_goals omega
    · skip
      have c_2 : ¬ kd = 1 := fun z9 => c_2 ((nI_eq (a := kd) (b := 1) (by omega) (by omega)).mpr z9)
      refine lv_iload_n S.1 S.2.1 dX3_lengthOf_12 rfl (lv_at hl 0 rfl) ?_
      refine lv_iconst (v := 2) S.1 S.2.1 dX3_lengthOf_13 (by decide) ?_
      refine lv_icmp_ne (tgt := 21) S.1 S.2.1 dX3_lengthOf_14 (by decide) (fun c_3 => ?_) (fun c_3 => ?_)
      · skip
        have c_3 : ¬ kd = 2 := fun z9 => c_3 ((nI_eq (a := kd) (b := 2) (by omega) (by omega)).mpr z9)
        refine lv_iconst (v := 2) S.1 S.2.1 dX3_lengthOf_21 (by decide) ?_
        refine uret_i S hK Z hre hlk dX3_lengthOf_22 ?_
        refine ⟨congrArg nI (show 2 = pLen kd from ?_), rfl⟩
        unfold pLen
        repeat' split
        all_goals omega
      · skip
        have c_3 : kd = 2 := (nI_eq (a := kd) (b := 2) (by omega) (by omega)).mp c_3
        refine lv_iconst (v := 4) S.1 S.2.1 dX3_lengthOf_17 (by decide) ?_
        refine lv_goto (tgt := 22) S.1 S.2.1 dX3_lengthOf_18 (by decide) ?_
        refine uret_i S hK Z hre hlk dX3_lengthOf_22 ?_
        refine ⟨congrArg nI (show 4 = pLen kd from ?_), rfl⟩
        unfold pLen
        repeat' split
        all_goals omega
  · skip
    have c_1 : kd = 4 := (nI_eq (a := kd) (b := 4) (by omega) (by omega)).mp c_1
    refine lv_iconst (v := 1) S.1 S.2.1 dX3_lengthOf_5 (by decide) ?_
    refine uret_i S hK Z hre hlk dX3_lengthOf_6 ?_
    refine ⟨congrArg nI (show 1 = pLen kd from ?_), rfl⟩
    unfold pLen
    repeat' split
    all_goals omega
set_option maxHeartbeats 4000000 in
set_option maxRecDepth 100000 in
theorem c_X9_noteSale (l : Launch) (G : uG) (t pr : Nat) (M : uM) (w : Nat → Nat → Nat) (a : Nat) (fl wy : Int32) (sl : Nat) (fs ft : Int32) (cm : Nat) (hs : sl < 1000) : CTv l G yX9_noteSale wsX9_noteSale 0 0 [.ref (G.2.2 23), .int (nI t), .int (nI pr)] (uPW (uTn M a fl wy sl fs ft cm) 24 w) (fun M2 => M2 = tM M (w, a, fl, wy, sl + 1, (if sl = 0 then nI a else fs), (if sl = 0 then nI t else ft), cm + pr)) := by
  refine ustart_v (cc := cX9_noteSale) (maxL := 3) (ret := none) (own := RX9) rfl (by decide) rfl (Nat.le_of_ble_eq_true rfl) ?_
  intro xp xe xs xm xa xb xt xc xA ls S hK hA Z hre hlk hl
  have hl : lv_has ls 3 [(0, .ref (G.2.2 23)), (1, .int (nI t)), (2, .int (nI pr))] := hl
  refine lv_aload_n S.1 S.2.1 dX9_noteSale_0 rfl (lv_at hl 0 rfl) ?_
  refine ug_i S hK Z (j := 4) (by decide) rfl rfl rfl (by decide) iX9_noteSale_X9 qX9_noteSale_61 dX9_noteSale_1 ?_
  refine utop (y := (nI sl)) (uPW_o (uTn M a fl wy sl fs ft cm) 24 w 4 (a := 23) (Or.inl (by decide))) ?_
  refine lv_if_ne (tgt := 20) S.1 S.2.1 dX9_noteSale_4 (by decide) (fun c_1 => ?_) (fun c_1 => ?_)
  · skip
    have c_1 : ¬ sl = 0 := fun z9 => c_1 ((nI_eq (a := sl) (b := 0) (by omega) (by omega)).mpr z9)
    refine lv_aload_n S.1 S.2.1 dX9_noteSale_20 rfl (lv_at hl 0 rfl) ?_
    refine lv_dup S.1 S.2.1 dX9_noteSale_21 rfl ?_
    refine ug_i S hK Z (j := 4) (by decide) rfl rfl rfl (by decide) iX9_noteSale_X9 qX9_noteSale_61 dX9_noteSale_22 ?_
    refine utop (y := (nI sl)) (uPW_o (uTn M a fl wy sl fs ft cm) 24 w 4 (a := 23) (Or.inl (by decide))) ?_
    refine lv_iconst (v := 1) S.1 S.2.1 dX9_noteSale_25 (by decide) ?_
    refine lv_iadd S.1 S.2.1 dX9_noteSale_26 ?_
    refine utop (nI_add sl 1) ?_
    refine up_i S hK Z (j := 4) (by decide) rfl rfl rfl (by decide) iX9_noteSale_X9 tyX9_ok nmX9 qX9_noteSale_61 rfl rfl rfl dX9_noteSale_27 (fun H locs Z => ?_)
    have Z := uZ_eq ((uPW_c (uTn M a fl wy sl fs ft cm) 24 w 4 (nI (sl + 1)) (a := 23) (Or.inl (by decide))).trans (congrArg (fun X => uPW X 24 w) (uTn_s4 M a fl wy sl fs ft cm (sl + 1)))) Z
    refine lv_aload_n S.1 S.2.1 dX9_noteSale_30 rfl (lv_at hl 0 rfl) ?_
    refine lv_dup S.1 S.2.1 dX9_noteSale_31 rfl ?_
    refine ug_i S hK Z (j := 7) (by decide) rfl rfl rfl (by decide) iX9_noteSale_X9 qX9_noteSale_70 dX9_noteSale_32 ?_
    refine utop (y := (nI cm)) (uPW_o (uTn M a fl wy (sl + 1) fs ft cm) 24 w 7 (a := 23) (Or.inl (by decide))) ?_
    refine lv_iload_n S.1 S.2.1 dX9_noteSale_35 rfl (lv_at hl 2 rfl) ?_
    refine lv_iadd S.1 S.2.1 dX9_noteSale_36 ?_
    refine utop (nI_add cm pr) ?_
    refine up_i S hK Z (j := 7) (by decide) rfl rfl rfl (by decide) iX9_noteSale_X9 tyX9_ok nmX9 qX9_noteSale_70 rfl rfl rfl dX9_noteSale_37 (fun H locs Z => ?_)
    have Z := uZ_eq ((uPW_c (uTn M a fl wy (sl + 1) fs ft cm) 24 w 7 (nI (cm + pr)) (a := 23) (Or.inl (by decide))).trans (congrArg (fun X => uPW X 24 w) (uTn_s7 M a fl wy (sl + 1) fs ft cm (cm + pr)))) Z
    refine uret_v S hK Z hre hlk dX9_noteSale_40 ?_
    rw [if_neg (by assumption), if_neg (by assumption)] <;> rfl
  · skip
    have c_1 : sl = 0 := (nI_eq (a := sl) (b := 0) (by omega) (by omega)).mp c_1
    refine lv_aload_n S.1 S.2.1 dX9_noteSale_7 rfl (lv_at hl 0 rfl) ?_
    refine lv_aload_n S.1 S.2.1 dX9_noteSale_8 rfl (lv_at hl 0 rfl) ?_
    refine ug_i S hK Z (j := 1) (by decide) rfl rfl rfl (by decide) iX9_noteSale_X9 qX9_noteSale_55 dX9_noteSale_9 ?_
    refine utop (y := (nI a)) (uPW_o (uTn M a fl wy sl fs ft cm) 24 w 1 (a := 23) (Or.inl (by decide))) ?_
    refine up_i S hK Z (j := 5) (by decide) rfl rfl rfl (by decide) iX9_noteSale_X9 tyX9_ok nmX9 qX9_noteSale_64 rfl rfl rfl dX9_noteSale_12 (fun H locs Z => ?_)
    have Z := uZ_eq ((uPW_c (uTn M a fl wy sl fs ft cm) 24 w 5 (nI a) (a := 23) (Or.inl (by decide))).trans (congrArg (fun X => uPW X 24 w) (uTn_s5 M a fl wy sl fs ft cm (nI a)))) Z
    refine lv_aload_n S.1 S.2.1 dX9_noteSale_15 rfl (lv_at hl 0 rfl) ?_
    refine lv_iload_n S.1 S.2.1 dX9_noteSale_16 rfl (lv_at hl 1 rfl) ?_
    refine up_i S hK Z (j := 6) (by decide) rfl rfl rfl (by decide) iX9_noteSale_X9 tyX9_ok nmX9 qX9_noteSale_67 rfl rfl rfl dX9_noteSale_17 (fun H locs Z => ?_)
    have Z := uZ_eq ((uPW_c (uTn M a fl wy sl (nI a) ft cm) 24 w 6 (nI t) (a := 23) (Or.inl (by decide))).trans (congrArg (fun X => uPW X 24 w) (uTn_s6 M a fl wy sl (nI a) ft cm (nI t)))) Z
    refine lv_aload_n S.1 S.2.1 dX9_noteSale_20 rfl (lv_at hl 0 rfl) ?_
    refine lv_dup S.1 S.2.1 dX9_noteSale_21 rfl ?_
    refine ug_i S hK Z (j := 4) (by decide) rfl rfl rfl (by decide) iX9_noteSale_X9 qX9_noteSale_61 dX9_noteSale_22 ?_
    refine utop (y := (nI sl)) (uPW_o (uTn M a fl wy sl (nI a) (nI t) cm) 24 w 4 (a := 23) (Or.inl (by decide))) ?_
    refine lv_iconst (v := 1) S.1 S.2.1 dX9_noteSale_25 (by decide) ?_
    refine lv_iadd S.1 S.2.1 dX9_noteSale_26 ?_
    refine utop (nI_add sl 1) ?_
    refine up_i S hK Z (j := 4) (by decide) rfl rfl rfl (by decide) iX9_noteSale_X9 tyX9_ok nmX9 qX9_noteSale_61 rfl rfl rfl dX9_noteSale_27 (fun H locs Z => ?_)
    have Z := uZ_eq ((uPW_c (uTn M a fl wy sl (nI a) (nI t) cm) 24 w 4 (nI (sl + 1)) (a := 23) (Or.inl (by decide))).trans (congrArg (fun X => uPW X 24 w) (uTn_s4 M a fl wy sl (nI a) (nI t) cm (sl + 1)))) Z
    refine lv_aload_n S.1 S.2.1 dX9_noteSale_30 rfl (lv_at hl 0 rfl) ?_
    refine lv_dup S.1 S.2.1 dX9_noteSale_31 rfl ?_
    refine ug_i S hK Z (j := 7) (by decide) rfl rfl rfl (by decide) iX9_noteSale_X9 qX9_noteSale_70 dX9_noteSale_32 ?_
    refine utop (y := (nI cm)) (uPW_o (uTn M a fl wy (sl + 1) (nI a) (nI t) cm) 24 w 7 (a := 23) (Or.inl (by decide))) ?_
    refine lv_iload_n S.1 S.2.1 dX9_noteSale_35 rfl (lv_at hl 2 rfl) ?_
    refine lv_iadd S.1 S.2.1 dX9_noteSale_36 ?_
    refine utop (nI_add cm pr) ?_
    refine up_i S hK Z (j := 7) (by decide) rfl rfl rfl (by decide) iX9_noteSale_X9 tyX9_ok nmX9 qX9_noteSale_70 rfl rfl rfl dX9_noteSale_37 (fun H locs Z => ?_)
    have Z := uZ_eq ((uPW_c (uTn M a fl wy (sl + 1) (nI a) (nI t) cm) 24 w 7 (nI (cm + pr)) (a := 23) (Or.inl (by decide))).trans (congrArg (fun X => uPW X 24 w) (uTn_s7 M a fl wy (sl + 1) (nI a) (nI t) cm (cm + pr)))) Z
    refine uret_v S hK Z hre hlk dX9_noteSale_40 ?_
    rw [if_pos (by assumption), if_pos (by assumption)] <;> rfl
set_option maxHeartbeats 4000000 in
set_option maxRecDepth 100000 in
theorem c_X9_begin (l : Launch) (G : uG) (M : uM) (w : Nat → Nat → Nat) (a : Nat) (fl wy : Int32) (sl : Nat) (fs ft : Int32) (cm : Nat) (w0 : Nat → Nat → Nat) (hr : uRd M 1 w0) (h1 : ∀ j i, ¬ wIn j i → w j i = 0) (hz : ∀ j i, ¬ wIn j i → w0 j i = 0) : CTv l G yX9_begin wsX9_begin 4 85 [.ref (G.2.2 23), .ref (G.2.2 1)] (uPW (uTn M a fl wy sl fs ft cm) 24 w) (fun M2 => M2 = tM M (w0, 0, -6, -6, 0, -6, -6, 0)) := by
  refine ustart_v (cc := cX9_begin) (maxL := 2) (ret := none) (own := RX9) rfl (by decide) rfl (Nat.le_of_ble_eq_true rfl) ?_
  intro xp xe xs xm xa xb xt xc xA ls S hK hA Z hre hlk hl
  have hl : lv_has ls 2 [(0, .ref (G.2.2 23)), (1, .ref (G.2.2 1))] := hl
  refine lv_aload_n S.1 S.2.1 dX9_begin_0 rfl (lv_at hl 0 rfl) ?_
  refine ug_r S hK Z (j := 0) 24 (by decide) rfl rfl rfl (by decide) iX9_begin_X9 qX9_begin_12 dX9_begin_1 ?_
  refine lv_aload_n S.1 S.2.1 dX9_begin_4 rfl (lv_at hl 1 rfl) ?_
  refine ud_Vv (As := [.ref (G.2.2 1)]) (rest := []) S hK hA Z (c_X10_copy l G 24 1 (by unfold uIsW; omega) (by unfold uIsW; omega) (Or.inl (by decide)) (uTn M a fl wy sl fs ft cm) w w0 (uRd_Tn (Or.inl (by decide)) hr _ _ _ _ _ _ _) h1 hz) (cwV 1 S.2.2.2.2 gX9_begin_X10_copy rfl rfl rfl (by decide +kernel) ⟨Nat.le_of_ble_eq_true rfl, Nat.le_of_ble_eq_true rfl⟩) (by decide) rfl rfl rfl hl.1 rfl (Nat.le_of_ble_eq_true rfl) dX9_begin_5 ⟨Nat.zero_le _, Nat.zero_le _⟩ (fun H locs Z => ?_)
  refine lv_aload_n S.1 S.2.1 dX9_begin_8 rfl (lv_at hl 0 rfl) ?_
  refine lv_iconst (v := 0) S.1 S.2.1 dX9_begin_9 (by decide) ?_
  refine up_i S hK Z (j := 1) (by decide) rfl rfl rfl (by decide) iX9_begin_X9 tyX9_ok nmX9 qX9_begin_55 rfl rfl rfl dX9_begin_10 (fun H locs Z => ?_)
  have Z := uZ_eq ((uPW_c (uTn M a fl wy sl fs ft cm) 24 w0 1 (nI 0) (a := 23) (Or.inl (by decide))).trans (congrArg (fun X => uPW X 24 w0) (uTn_s1 M a fl wy sl fs ft cm 0))) Z
  refine lv_aload_n S.1 S.2.1 dX9_begin_13 rfl (lv_at hl 0 rfl) ?_
  refine lv_bipush (v := (-6)) S.1 S.2.1 dX9_begin_14 (by decide) ?_
  refine up_i S hK Z (j := 2) (by decide) rfl rfl rfl (by decide) iX9_begin_X9 tyX9_ok nmX9 qX9_begin_32 rfl rfl rfl dX9_begin_16 (fun H locs Z => ?_)
  have Z := uZ_eq ((uPW_c (uTn M 0 fl wy sl fs ft cm) 24 w0 2 (-6) (a := 23) (Or.inl (by decide))).trans (congrArg (fun X => uPW X 24 w0) (uTn_s2 M 0 fl wy sl fs ft cm (-6)))) Z
  refine lv_aload_n S.1 S.2.1 dX9_begin_19 rfl (lv_at hl 0 rfl) ?_
  refine lv_bipush (v := (-6)) S.1 S.2.1 dX9_begin_20 (by decide) ?_
  refine up_i S hK Z (j := 3) (by decide) rfl rfl rfl (by decide) iX9_begin_X9 tyX9_ok nmX9 qX9_begin_58 rfl rfl rfl dX9_begin_22 (fun H locs Z => ?_)
  have Z := uZ_eq ((uPW_c (uTn M 0 (-6) wy sl fs ft cm) 24 w0 3 (-6) (a := 23) (Or.inl (by decide))).trans (congrArg (fun X => uPW X 24 w0) (uTn_s3 M 0 (-6) wy sl fs ft cm (-6)))) Z
  refine lv_aload_n S.1 S.2.1 dX9_begin_25 rfl (lv_at hl 0 rfl) ?_
  refine lv_iconst (v := 0) S.1 S.2.1 dX9_begin_26 (by decide) ?_
  refine up_i S hK Z (j := 4) (by decide) rfl rfl rfl (by decide) iX9_begin_X9 tyX9_ok nmX9 qX9_begin_61 rfl rfl rfl dX9_begin_27 (fun H locs Z => ?_)
  have Z := uZ_eq ((uPW_c (uTn M 0 (-6) (-6) sl fs ft cm) 24 w0 4 (nI 0) (a := 23) (Or.inl (by decide))).trans (congrArg (fun X => uPW X 24 w0) (uTn_s4 M 0 (-6) (-6) sl fs ft cm 0))) Z
  refine lv_aload_n S.1 S.2.1 dX9_begin_30 rfl (lv_at hl 0 rfl) ?_
  refine lv_bipush (v := (-6)) S.1 S.2.1 dX9_begin_31 (by decide) ?_
  refine up_i S hK Z (j := 5) (by decide) rfl rfl rfl (by decide) iX9_begin_X9 tyX9_ok nmX9 qX9_begin_64 rfl rfl rfl dX9_begin_33 (fun H locs Z => ?_)
  have Z := uZ_eq ((uPW_c (uTn M 0 (-6) (-6) 0 fs ft cm) 24 w0 5 (-6) (a := 23) (Or.inl (by decide))).trans (congrArg (fun X => uPW X 24 w0) (uTn_s5 M 0 (-6) (-6) 0 fs ft cm (-6)))) Z
  refine lv_aload_n S.1 S.2.1 dX9_begin_36 rfl (lv_at hl 0 rfl) ?_
  refine lv_bipush (v := (-6)) S.1 S.2.1 dX9_begin_37 (by decide) ?_
  refine up_i S hK Z (j := 6) (by decide) rfl rfl rfl (by decide) iX9_begin_X9 tyX9_ok nmX9 qX9_begin_67 rfl rfl rfl dX9_begin_39 (fun H locs Z => ?_)
  have Z := uZ_eq ((uPW_c (uTn M 0 (-6) (-6) 0 (-6) ft cm) 24 w0 6 (-6) (a := 23) (Or.inl (by decide))).trans (congrArg (fun X => uPW X 24 w0) (uTn_s6 M 0 (-6) (-6) 0 (-6) ft cm (-6)))) Z
  refine lv_aload_n S.1 S.2.1 dX9_begin_42 rfl (lv_at hl 0 rfl) ?_
  refine lv_iconst (v := 0) S.1 S.2.1 dX9_begin_43 (by decide) ?_
  refine up_i S hK Z (j := 7) (by decide) rfl rfl rfl (by decide) iX9_begin_X9 tyX9_ok nmX9 qX9_begin_70 rfl rfl rfl dX9_begin_44 (fun H locs Z => ?_)
  have Z := uZ_eq ((uPW_c (uTn M 0 (-6) (-6) 0 (-6) (-6) cm) 24 w0 7 (nI 0) (a := 23) (Or.inl (by decide))).trans (congrArg (fun X => uPW X 24 w0) (uTn_s7 M 0 (-6) (-6) 0 (-6) (-6) cm 0))) Z
  refine uret_v S hK Z hre hlk dX9_begin_47 ?_
  exact rfl
set_option maxHeartbeats 4000000 in
set_option maxRecDepth 100000 in
theorem c_X9_tryAct_0 (l : Launch) (G : uG) (s : Nat → Nat) (n p0 : Nat) (M : uM) (w : Nat → Nat → Nat) (a : Nat) (fl wy : Int32) (sl : Nat) (fs ft : Int32) (cm : Nat) (hp : pdAt M s n) (ho : pdOk s n) (hw : wOk w) (hs : sl < 1000) (hq : p0 < 1000) (hv : 65 ≤ s p0 ∧ s p0 ≤ 72 ∧ 97 ≤ s (p0 + 1) ∧ s (p0 + 1) ≤ 108) : CTv l G yX9_tryAct wsX9_tryAct 4 93 [.ref (G.2.2 23), .int 0, .ref (G.2.2 21), .int (nI p0)] (uPW (uTn M a fl wy sl fs ft cm) 24 w) (fun M2 => M2 = tM M (tStep (w, a, fl, wy, sl, fs, ft, cm) 0 (s p0 - 65) (s (p0 + 1) - 97) (s (p0 + 3) - 65))) := by
  have hs0 := ho.2.2 p0
  have hs3 := ho.2.2 (p0 + 3)
  have hs1 := ho.2.2 (p0 + 1)
  obtain ⟨hw1, hw2, hw3, -, -⟩ := hw.1 (s (p0 + 1) - 97) (by omega)
  refine ustart_v (cc := cX9_tryAct) (maxL := 9) (ret := none) (own := RX9) rfl (by decide) rfl (Nat.le_of_ble_eq_true rfl) ?_
  intro xp xe xs xm xa xb xt xc xA ls S hK hA Z hre hlk hl
  have hl : lv_has ls 9 [(0, .ref (G.2.2 23)), (1, .int 0), (2, .ref (G.2.2 21)), (3, .int (nI p0))] := hl
  refine lv_aload_n S.1 S.2.1 dX9_tryAct_0 rfl (lv_at hl 2 rfl) ?_
  refine lv_iload_n S.1 S.2.1 dX9_tryAct_1 rfl (lv_at hl 3 rfl) ?_
  refine ud_Vi (As := [.int (nI p0)]) (rest := []) S hK hA Z (c_X3_signAt l G p0 (by omega) (uPW (uTn M a fl wy sl fs ft cm) 24 w) s n (pdAt_Tn hp _ _ _ _ _ _ _ _) ho) (cwV 1 S.2.2.2.2 gX9_tryAct_X3_signAt rfl rfl rfl (by decide +kernel) ⟨Nat.le_of_ble_eq_true rfl, Nat.le_of_ble_eq_true rfl⟩) (by decide) rfl rfl rfl hl.1 rfl (Nat.le_of_ble_eq_true rfl) dX9_tryAct_2 ⟨Nat.zero_le _, Nat.zero_le _⟩ (fun H locs Z => ?_)
  refine lv_bipush (v := 65) S.1 S.2.1 dX9_tryAct_5 (by decide) ?_
  refine lv_isub S.1 S.2.1 dX9_tryAct_7 ?_
  refine utop (pk_sub (a := (s p0)) (b := 65) (by omega)) ?_
  refine lv_istore (lv' := [(4, .int (nI ((s p0) - 65))), (0, .ref (G.2.2 23)), (1, .int 0), (2, .ref (G.2.2 21)), (3, .int (nI p0))]) S.1 S.2.1 dX9_tryAct_8 hl (by decide) rfl (fun ls hl => ?_)
  refine lv_aload_n S.1 S.2.1 dX9_tryAct_10 rfl (lv_at hl 3 rfl) ?_
  refine lv_iload_n S.1 S.2.1 dX9_tryAct_11 rfl (lv_at hl 2 rfl) ?_
  refine lv_if_ne (tgt := 21) S.1 S.2.1 dX9_tryAct_12 (by decide) (fun c => absurd c (by decide)) (fun _ => ?_)
  refine lv_iload_n S.1 S.2.1 dX9_tryAct_15 rfl (lv_at hl 4 rfl) ?_
  refine lv_iconst (v := 1) S.1 S.2.1 dX9_tryAct_16 (by decide) ?_
  refine lv_iadd S.1 S.2.1 dX9_tryAct_17 ?_
  refine utop (nI_add p0 1) ?_
  refine lv_goto (tgt := 24) S.1 S.2.1 dX9_tryAct_18 (by decide) ?_
  refine ud_Vi (As := [.int (nI (p0 + 1))]) (rest := []) S hK hA Z (c_X3_signAt l G (p0 + 1) (by omega) (uPW (uTn M a fl wy sl fs ft cm) 24 w) s n (pdAt_Tn hp _ _ _ _ _ _ _ _) ho) (cwV 1 S.2.2.2.2 gX9_tryAct_X3_signAt rfl rfl rfl (by decide +kernel) ⟨Nat.le_of_ble_eq_true rfl, Nat.le_of_ble_eq_true rfl⟩) (by decide) rfl rfl rfl hl.1 rfl (Nat.le_of_ble_eq_true rfl) dX9_tryAct_24 ⟨Nat.zero_le _, Nat.zero_le _⟩ (fun H locs Z => ?_)
  refine lv_bipush (v := 97) S.1 S.2.1 dX9_tryAct_27 (by decide) ?_
  refine lv_isub S.1 S.2.1 dX9_tryAct_29 ?_
  refine utop (pk_sub (a := (s (p0 + 1))) (b := 97) (by omega)) ?_
  refine lv_istore (lv' := [(5, .int (nI ((s (p0 + 1)) - 97))), (4, .int (nI ((s p0) - 65))), (0, .ref (G.2.2 23)), (1, .int 0), (2, .ref (G.2.2 21)), (3, .int (nI p0))]) S.1 S.2.1 dX9_tryAct_30 hl (by decide) rfl (fun ls hl => ?_)
  refine lv_aload_n S.1 S.2.1 dX9_tryAct_32 rfl (lv_at hl 4 rfl) ?_
  refine lv_iload_n S.1 S.2.1 dX9_tryAct_33 rfl (lv_at hl 5 rfl) ?_
  refine lv_iconst (v := 3) S.1 S.2.1 dX9_tryAct_34 (by decide) ?_
  refine lv_iadd S.1 S.2.1 dX9_tryAct_35 ?_
  refine utop (nI_add p0 3) ?_
  refine ud_Vi (As := [.int (nI (p0 + 3))]) (rest := []) S hK hA Z (c_X3_signAt l G (p0 + 3) (by omega) (uPW (uTn M a fl wy sl fs ft cm) 24 w) s n (pdAt_Tn hp _ _ _ _ _ _ _ _) ho) (cwV 1 S.2.2.2.2 gX9_tryAct_X3_signAt rfl rfl rfl (by decide +kernel) ⟨Nat.le_of_ble_eq_true rfl, Nat.le_of_ble_eq_true rfl⟩) (by decide) rfl rfl rfl hl.1 rfl (Nat.le_of_ble_eq_true rfl) dX9_tryAct_36 ⟨Nat.zero_le _, Nat.zero_le _⟩ (fun H locs Z => ?_)
  refine lv_bipush (v := 65) S.1 S.2.1 dX9_tryAct_39 (by decide) ?_
  refine lv_isub S.1 S.2.1 dX9_tryAct_41 ?_
  refine lv_istore (lv' := [(6, .int ((nI (s (p0 + 3))) - 65)), (5, .int (nI ((s (p0 + 1)) - 97))), (4, .int (nI ((s p0) - 65))), (0, .ref (G.2.2 23)), (1, .int 0), (2, .ref (G.2.2 21)), (3, .int (nI p0))]) S.1 S.2.1 dX9_tryAct_42 hl (by decide) rfl (fun ls hl => ?_)
  refine lv_aload_n S.1 S.2.1 dX9_tryAct_44 rfl (lv_at hl 3 rfl) ?_
  refine ug_r S hK Z (j := 0) 24 (by decide) rfl rfl rfl (by decide) iX9_tryAct_X9 qX9_tryAct_12 dX9_tryAct_45 ?_
  refine lv_iload S.1 S.2.1 dX9_tryAct_48 (lv_at hl 1 rfl) ?_
  refine uc_Vi (As := [.int (nI ((s (p0 + 1)) - 97))]) (rest := []) S hK hA Z (c_X10_priceOf l G 24 (by unfold uIsW; omega) (uTn M a fl wy sl fs ft cm) w ((s (p0 + 1)) - 97) (by omega) (by omega) (by omega)) (cwV 1 S.2.2.2.2 gX9_tryAct_X10_priceOf rfl rfl rfl (by decide +kernel) ⟨Nat.le_of_ble_eq_true rfl, Nat.le_of_ble_eq_true rfl⟩) (by decide) rfl rfl rfl hl.1 rfl (Nat.le_of_ble_eq_true rfl) dX9_tryAct_50 ⟨Nat.zero_le _, Nat.zero_le _⟩ (fun r_5 M_5 H locs hp Z => ?_)
  obtain ⟨p_5, hM_5⟩ := hp
  rw [hM_5] at Z
  refine lv_istore (lv' := [(7, .int (r_5)), (6, .int ((nI (s (p0 + 3))) - 65)), (5, .int (nI ((s (p0 + 1)) - 97))), (4, .int (nI ((s p0) - 65))), (0, .ref (G.2.2 23)), (1, .int 0), (2, .ref (G.2.2 21)), (3, .int (nI p0))]) S.1 S.2.1 dX9_tryAct_53 hl (by decide) rfl (fun ls hl => ?_)
  refine lv_aload_n S.1 S.2.1 dX9_tryAct_55 rfl (lv_at hl 4 rfl) ?_
  refine ug_r S hK Z (j := 0) 24 (by decide) rfl rfl rfl (by decide) iX9_tryAct_X9 qX9_tryAct_12 dX9_tryAct_56 ?_
  refine lv_iload_n S.1 S.2.1 dX9_tryAct_59 rfl (lv_at hl 5 rfl) ?_
  refine lv_iload S.1 S.2.1 dX9_tryAct_60 (lv_at hl 3 rfl) ?_
  refine lv_iload S.1 S.2.1 dX9_tryAct_62 (lv_at hl 2 rfl) ?_
  refine lv_iload S.1 S.2.1 dX9_tryAct_64 (lv_at hl 1 rfl) ?_
  refine ud_Vi (As := [.int 0, .int (nI ((s p0) - 65)), .int (nI ((s (p0 + 1)) - 97)), .int ((nI (s (p0 + 3))) - 65)]) (rest := []) S hK hA Z (c_X10_act0 l G 24 (by unfold uIsW; omega) (uTn M a fl wy sl fs ft cm) w (s p0 - 65) (s (p0 + 1) - 97) (s (p0 + 3) - 65) ((nI (s (p0 + 3))) - 65) (by omega) (by omega) hw) (cwV 4 S.2.2.2.2 gX9_tryAct_X10_act rfl rfl rfl (by decide +kernel) ⟨Nat.le_of_ble_eq_true rfl, Nat.le_of_ble_eq_true rfl⟩) (by decide) rfl rfl rfl hl.1 rfl (Nat.le_of_ble_eq_true rfl) dX9_tryAct_66 ⟨Nat.zero_le _, Nat.zero_le _⟩ (fun H locs Z => ?_)
  have hac := ac_le w 0 (s p0 - 65) (s (p0 + 1) - 97) (s (p0 + 3) - 65)
  refine lv_istore (lv' := [(8, .int (nI ((ac w 0 (s p0 - 65) (s (p0 + 1) - 97) (s (p0 + 3) - 65)).1))), (7, .int (r_5)), (6, .int ((nI (s (p0 + 3))) - 65)), (5, .int (nI ((s (p0 + 1)) - 97))), (4, .int (nI ((s p0) - 65))), (0, .ref (G.2.2 23)), (1, .int 0), (2, .ref (G.2.2 21)), (3, .int (nI p0))]) S.1 S.2.1 dX9_tryAct_69 hl (by decide) rfl (fun ls hl => ?_)
  refine lv_iload S.1 S.2.1 dX9_tryAct_71 (lv_at hl 0 rfl) ?_
  refine lv_if_eq (tgt := 91) S.1 S.2.1 dX9_tryAct_73 (by decide) (fun c_7 => ?_) (fun c_7 => ?_)
  · skip
    have c_7 : ((ac w 0 (s p0 - 65) (s (p0 + 1) - 97) (s (p0 + 3) - 65)).1) = 0 := (nI_eq (a := ((ac w 0 (s p0 - 65) (s (p0 + 1) - 97) (s (p0 + 3) - 65)).1)) (b := 0) (by omega) (by omega)).mp c_7
    refine lv_iload_n S.1 S.2.1 dX9_tryAct_91 rfl (lv_at hl 6 rfl) ?_
    refine lv_iconst (v := 1) S.1 S.2.1 dX9_tryAct_92 (by decide) ?_
    refine lv_icmp_ne (tgt := 104) S.1 S.2.1 dX9_tryAct_93 (by decide) (fun _ => ?_) (fun c => absurd c (by decide))
    refine lv_aload_n S.1 S.2.1 dX9_tryAct_104 rfl (lv_at hl 5 rfl) ?_
    refine lv_dup S.1 S.2.1 dX9_tryAct_105 rfl ?_
    refine ug_i S hK Z (j := 1) (by decide) rfl rfl rfl (by decide) iX9_tryAct_X9 qX9_tryAct_55 dX9_tryAct_106 ?_
    refine utop (y := (nI a)) (uPW_o (uTn M a fl wy sl fs ft cm) 24 ((ac w 0 (s p0 - 65) (s (p0 + 1) - 97) (s (p0 + 3) - 65)).2) 1 (a := 23) (Or.inl (by decide))) ?_
    refine lv_iconst (v := 1) S.1 S.2.1 dX9_tryAct_109 (by decide) ?_
    refine lv_iadd S.1 S.2.1 dX9_tryAct_110 ?_
    refine utop (nI_add a 1) ?_
    refine up_i S hK Z (j := 1) (by decide) rfl rfl rfl (by decide) iX9_tryAct_X9 tyX9_ok nmX9 qX9_tryAct_55 rfl rfl rfl dX9_tryAct_111 (fun H locs Z => ?_)
    have Z := uZ_eq ((uPW_c (uTn M a fl wy sl fs ft cm) 24 ((ac w 0 (s p0 - 65) (s (p0 + 1) - 97) (s (p0 + 3) - 65)).2) 1 (nI (a + 1)) (a := 23) (Or.inl (by decide))).trans (congrArg (fun X => uPW X 24 ((ac w 0 (s p0 - 65) (s (p0 + 1) - 97) (s (p0 + 3) - 65)).2)) (uTn_s1 M a fl wy sl fs ft cm (a + 1)))) Z
    refine uret_v S hK Z hre hlk dX9_tryAct_114 ?_
    exact (congrArg (tM M) (tStep_ok (x := (w, a, fl, wy, sl, fs, ft, cm)) (kd := 0) (k := s p0 - 65) (t := (s (p0 + 1) - 97)) (q := s (p0 + 3) - 65) (show (ac w 0 (s p0 - 65) (s (p0 + 1) - 97) (s (p0 + 3) - 65)).1 = 0 by assumption))).symm
  · skip
    have c_7 : ¬ ((ac w 0 (s p0 - 65) (s (p0 + 1) - 97) (s (p0 + 3) - 65)).1) = 0 := fun z9 => c_7 ((nI_eq (a := ((ac w 0 (s p0 - 65) (s (p0 + 1) - 97) (s (p0 + 3) - 65)).1)) (b := 0) (by omega) (by omega)).mpr z9)
    refine lv_aload_n S.1 S.2.1 dX9_tryAct_76 rfl (lv_at hl 5 rfl) ?_
    refine lv_aload_n S.1 S.2.1 dX9_tryAct_77 rfl (lv_at hl 5 rfl) ?_
    refine ug_i S hK Z (j := 1) (by decide) rfl rfl rfl (by decide) iX9_tryAct_X9 qX9_tryAct_55 dX9_tryAct_78 ?_
    refine utop (y := (nI a)) (uPW_o (uTn M a fl wy sl fs ft cm) 24 ((ac w 0 (s p0 - 65) (s (p0 + 1) - 97) (s (p0 + 3) - 65)).2) 1 (a := 23) (Or.inl (by decide))) ?_
    refine up_i S hK Z (j := 2) (by decide) rfl rfl rfl (by decide) iX9_tryAct_X9 tyX9_ok nmX9 qX9_tryAct_32 rfl rfl rfl dX9_tryAct_81 (fun H locs Z => ?_)
    have Z := uZ_eq ((uPW_c (uTn M a fl wy sl fs ft cm) 24 ((ac w 0 (s p0 - 65) (s (p0 + 1) - 97) (s (p0 + 3) - 65)).2) 2 (nI a) (a := 23) (Or.inl (by decide))).trans (congrArg (fun X => uPW X 24 ((ac w 0 (s p0 - 65) (s (p0 + 1) - 97) (s (p0 + 3) - 65)).2)) (uTn_s2 M a fl wy sl fs ft cm (nI a)))) Z
    refine lv_aload_n S.1 S.2.1 dX9_tryAct_84 rfl (lv_at hl 5 rfl) ?_
    refine lv_iload S.1 S.2.1 dX9_tryAct_85 (lv_at hl 0 rfl) ?_
    refine up_i S hK Z (j := 3) (by decide) rfl rfl rfl (by decide) iX9_tryAct_X9 tyX9_ok nmX9 qX9_tryAct_58 rfl rfl rfl dX9_tryAct_87 (fun H locs Z => ?_)
    have Z := uZ_eq ((uPW_c (uTn M a (nI a) wy sl fs ft cm) 24 ((ac w 0 (s p0 - 65) (s (p0 + 1) - 97) (s (p0 + 3) - 65)).2) 3 (nI ((ac w 0 (s p0 - 65) (s (p0 + 1) - 97) (s (p0 + 3) - 65)).1)) (a := 23) (Or.inl (by decide))).trans (congrArg (fun X => uPW X 24 ((ac w 0 (s p0 - 65) (s (p0 + 1) - 97) (s (p0 + 3) - 65)).2)) (uTn_s3 M a (nI a) wy sl fs ft cm (nI ((ac w 0 (s p0 - 65) (s (p0 + 1) - 97) (s (p0 + 3) - 65)).1))))) Z
    refine uret_v S hK Z hre hlk dX9_tryAct_90 ?_
    exact (congrArg (tM M) (tStep_no (x := (w, a, fl, wy, sl, fs, ft, cm)) (kd := 0) (k := s p0 - 65) (t := (s (p0 + 1) - 97)) (q := s (p0 + 3) - 65) (show ¬ (ac w 0 (s p0 - 65) (s (p0 + 1) - 97) (s (p0 + 3) - 65)).1 = 0 by assumption))).symm
set_option maxHeartbeats 4000000 in
set_option maxRecDepth 100000 in
theorem c_X9_tryAct_1 (l : Launch) (G : uG) (s : Nat → Nat) (n p0 : Nat) (M : uM) (w : Nat → Nat → Nat) (a : Nat) (fl wy : Int32) (sl : Nat) (fs ft : Int32) (cm : Nat) (hp : pdAt M s n) (ho : pdOk s n) (hw : wOk w) (hs : sl < 1000) (hq : p0 < 1000) (hv : 65 ≤ s p0 ∧ s p0 ≤ 72 ∧ 97 ≤ s (p0 + 2) ∧ s (p0 + 2) ≤ 108 ∧ 65 ≤ s (p0 + 3) ∧ s (p0 + 3) ≤ 72) : CTv l G yX9_tryAct wsX9_tryAct 4 93 [.ref (G.2.2 23), .int 1, .ref (G.2.2 21), .int (nI p0)] (uPW (uTn M a fl wy sl fs ft cm) 24 w) (fun M2 => M2 = tM M (tStep (w, a, fl, wy, sl, fs, ft, cm) 1 (s p0 - 65) (s (p0 + 2) - 97) (s (p0 + 3) - 65))) := by
  have hs0 := ho.2.2 p0
  have hs3 := ho.2.2 (p0 + 3)
  have hs1 := ho.2.2 (p0 + 2)
  obtain ⟨hw1, hw2, hw3, -, -⟩ := hw.1 (s (p0 + 2) - 97) (by omega)
  refine ustart_v (cc := cX9_tryAct) (maxL := 9) (ret := none) (own := RX9) rfl (by decide) rfl (Nat.le_of_ble_eq_true rfl) ?_
  intro xp xe xs xm xa xb xt xc xA ls S hK hA Z hre hlk hl
  have hl : lv_has ls 9 [(0, .ref (G.2.2 23)), (1, .int 1), (2, .ref (G.2.2 21)), (3, .int (nI p0))] := hl
  refine lv_aload_n S.1 S.2.1 dX9_tryAct_0 rfl (lv_at hl 2 rfl) ?_
  refine lv_iload_n S.1 S.2.1 dX9_tryAct_1 rfl (lv_at hl 3 rfl) ?_
  refine ud_Vi (As := [.int (nI p0)]) (rest := []) S hK hA Z (c_X3_signAt l G p0 (by omega) (uPW (uTn M a fl wy sl fs ft cm) 24 w) s n (pdAt_Tn hp _ _ _ _ _ _ _ _) ho) (cwV 1 S.2.2.2.2 gX9_tryAct_X3_signAt rfl rfl rfl (by decide +kernel) ⟨Nat.le_of_ble_eq_true rfl, Nat.le_of_ble_eq_true rfl⟩) (by decide) rfl rfl rfl hl.1 rfl (Nat.le_of_ble_eq_true rfl) dX9_tryAct_2 ⟨Nat.zero_le _, Nat.zero_le _⟩ (fun H locs Z => ?_)
  refine lv_bipush (v := 65) S.1 S.2.1 dX9_tryAct_5 (by decide) ?_
  refine lv_isub S.1 S.2.1 dX9_tryAct_7 ?_
  refine utop (pk_sub (a := (s p0)) (b := 65) (by omega)) ?_
  refine lv_istore (lv' := [(4, .int (nI ((s p0) - 65))), (0, .ref (G.2.2 23)), (1, .int 1), (2, .ref (G.2.2 21)), (3, .int (nI p0))]) S.1 S.2.1 dX9_tryAct_8 hl (by decide) rfl (fun ls hl => ?_)
  refine lv_aload_n S.1 S.2.1 dX9_tryAct_10 rfl (lv_at hl 3 rfl) ?_
  refine lv_iload_n S.1 S.2.1 dX9_tryAct_11 rfl (lv_at hl 2 rfl) ?_
  refine lv_if_ne (tgt := 21) S.1 S.2.1 dX9_tryAct_12 (by decide) (fun _ => ?_) (fun c => absurd c (by decide))
  refine lv_iload_n S.1 S.2.1 dX9_tryAct_21 rfl (lv_at hl 4 rfl) ?_
  refine lv_iconst (v := 2) S.1 S.2.1 dX9_tryAct_22 (by decide) ?_
  refine lv_iadd S.1 S.2.1 dX9_tryAct_23 ?_
  refine utop (nI_add p0 2) ?_
  refine ud_Vi (As := [.int (nI (p0 + 2))]) (rest := []) S hK hA Z (c_X3_signAt l G (p0 + 2) (by omega) (uPW (uTn M a fl wy sl fs ft cm) 24 w) s n (pdAt_Tn hp _ _ _ _ _ _ _ _) ho) (cwV 1 S.2.2.2.2 gX9_tryAct_X3_signAt rfl rfl rfl (by decide +kernel) ⟨Nat.le_of_ble_eq_true rfl, Nat.le_of_ble_eq_true rfl⟩) (by decide) rfl rfl rfl hl.1 rfl (Nat.le_of_ble_eq_true rfl) dX9_tryAct_24 ⟨Nat.zero_le _, Nat.zero_le _⟩ (fun H locs Z => ?_)
  refine lv_bipush (v := 97) S.1 S.2.1 dX9_tryAct_27 (by decide) ?_
  refine lv_isub S.1 S.2.1 dX9_tryAct_29 ?_
  refine utop (pk_sub (a := (s (p0 + 2))) (b := 97) (by omega)) ?_
  refine lv_istore (lv' := [(5, .int (nI ((s (p0 + 2)) - 97))), (4, .int (nI ((s p0) - 65))), (0, .ref (G.2.2 23)), (1, .int 1), (2, .ref (G.2.2 21)), (3, .int (nI p0))]) S.1 S.2.1 dX9_tryAct_30 hl (by decide) rfl (fun ls hl => ?_)
  refine lv_aload_n S.1 S.2.1 dX9_tryAct_32 rfl (lv_at hl 4 rfl) ?_
  refine lv_iload_n S.1 S.2.1 dX9_tryAct_33 rfl (lv_at hl 5 rfl) ?_
  refine lv_iconst (v := 3) S.1 S.2.1 dX9_tryAct_34 (by decide) ?_
  refine lv_iadd S.1 S.2.1 dX9_tryAct_35 ?_
  refine utop (nI_add p0 3) ?_
  refine ud_Vi (As := [.int (nI (p0 + 3))]) (rest := []) S hK hA Z (c_X3_signAt l G (p0 + 3) (by omega) (uPW (uTn M a fl wy sl fs ft cm) 24 w) s n (pdAt_Tn hp _ _ _ _ _ _ _ _) ho) (cwV 1 S.2.2.2.2 gX9_tryAct_X3_signAt rfl rfl rfl (by decide +kernel) ⟨Nat.le_of_ble_eq_true rfl, Nat.le_of_ble_eq_true rfl⟩) (by decide) rfl rfl rfl hl.1 rfl (Nat.le_of_ble_eq_true rfl) dX9_tryAct_36 ⟨Nat.zero_le _, Nat.zero_le _⟩ (fun H locs Z => ?_)
  refine lv_bipush (v := 65) S.1 S.2.1 dX9_tryAct_39 (by decide) ?_
  refine lv_isub S.1 S.2.1 dX9_tryAct_41 ?_
  refine utop (pk_sub (a := (s (p0 + 3))) (b := 65) (by omega)) ?_
  refine lv_istore (lv' := [(6, .int (nI ((s (p0 + 3)) - 65))), (5, .int (nI ((s (p0 + 2)) - 97))), (4, .int (nI ((s p0) - 65))), (0, .ref (G.2.2 23)), (1, .int 1), (2, .ref (G.2.2 21)), (3, .int (nI p0))]) S.1 S.2.1 dX9_tryAct_42 hl (by decide) rfl (fun ls hl => ?_)
  refine lv_aload_n S.1 S.2.1 dX9_tryAct_44 rfl (lv_at hl 3 rfl) ?_
  refine ug_r S hK Z (j := 0) 24 (by decide) rfl rfl rfl (by decide) iX9_tryAct_X9 qX9_tryAct_12 dX9_tryAct_45 ?_
  refine lv_iload S.1 S.2.1 dX9_tryAct_48 (lv_at hl 1 rfl) ?_
  refine uc_Vi (As := [.int (nI ((s (p0 + 2)) - 97))]) (rest := []) S hK hA Z (c_X10_priceOf l G 24 (by unfold uIsW; omega) (uTn M a fl wy sl fs ft cm) w ((s (p0 + 2)) - 97) (by omega) (by omega) (by omega)) (cwV 1 S.2.2.2.2 gX9_tryAct_X10_priceOf rfl rfl rfl (by decide +kernel) ⟨Nat.le_of_ble_eq_true rfl, Nat.le_of_ble_eq_true rfl⟩) (by decide) rfl rfl rfl hl.1 rfl (Nat.le_of_ble_eq_true rfl) dX9_tryAct_50 ⟨Nat.zero_le _, Nat.zero_le _⟩ (fun r_5 M_5 H locs hp Z => ?_)
  obtain ⟨p_5, hM_5⟩ := hp
  rw [hM_5] at Z
  refine lv_istore (lv' := [(7, .int (r_5)), (6, .int (nI ((s (p0 + 3)) - 65))), (5, .int (nI ((s (p0 + 2)) - 97))), (4, .int (nI ((s p0) - 65))), (0, .ref (G.2.2 23)), (1, .int 1), (2, .ref (G.2.2 21)), (3, .int (nI p0))]) S.1 S.2.1 dX9_tryAct_53 hl (by decide) rfl (fun ls hl => ?_)
  refine lv_aload_n S.1 S.2.1 dX9_tryAct_55 rfl (lv_at hl 4 rfl) ?_
  refine ug_r S hK Z (j := 0) 24 (by decide) rfl rfl rfl (by decide) iX9_tryAct_X9 qX9_tryAct_12 dX9_tryAct_56 ?_
  refine lv_iload_n S.1 S.2.1 dX9_tryAct_59 rfl (lv_at hl 5 rfl) ?_
  refine lv_iload S.1 S.2.1 dX9_tryAct_60 (lv_at hl 3 rfl) ?_
  refine lv_iload S.1 S.2.1 dX9_tryAct_62 (lv_at hl 2 rfl) ?_
  refine lv_iload S.1 S.2.1 dX9_tryAct_64 (lv_at hl 1 rfl) ?_
  refine ud_Vi (As := [.int 1, .int (nI ((s p0) - 65)), .int (nI ((s (p0 + 2)) - 97)), .int (nI ((s (p0 + 3)) - 65))]) (rest := []) S hK hA Z (c_X10_act1 l G 24 (by unfold uIsW; omega) (uTn M a fl wy sl fs ft cm) w (s p0 - 65) (s (p0 + 2) - 97) (s (p0 + 3) - 65) (by omega) (by omega) (by omega) hw) (cwV 4 S.2.2.2.2 gX9_tryAct_X10_act rfl rfl rfl (by decide +kernel) ⟨Nat.le_of_ble_eq_true rfl, Nat.le_of_ble_eq_true rfl⟩) (by decide) rfl rfl rfl hl.1 rfl (Nat.le_of_ble_eq_true rfl) dX9_tryAct_66 ⟨Nat.zero_le _, Nat.zero_le _⟩ (fun H locs Z => ?_)
  have hac := ac_le w 1 (s p0 - 65) (s (p0 + 2) - 97) (s (p0 + 3) - 65)
  refine lv_istore (lv' := [(8, .int (nI ((ac w 1 (s p0 - 65) (s (p0 + 2) - 97) (s (p0 + 3) - 65)).1))), (7, .int (r_5)), (6, .int (nI ((s (p0 + 3)) - 65))), (5, .int (nI ((s (p0 + 2)) - 97))), (4, .int (nI ((s p0) - 65))), (0, .ref (G.2.2 23)), (1, .int 1), (2, .ref (G.2.2 21)), (3, .int (nI p0))]) S.1 S.2.1 dX9_tryAct_69 hl (by decide) rfl (fun ls hl => ?_)
  refine lv_iload S.1 S.2.1 dX9_tryAct_71 (lv_at hl 0 rfl) ?_
  refine lv_if_eq (tgt := 91) S.1 S.2.1 dX9_tryAct_73 (by decide) (fun c_7 => ?_) (fun c_7 => ?_)
  · skip
    have c_7 : ((ac w 1 (s p0 - 65) (s (p0 + 2) - 97) (s (p0 + 3) - 65)).1) = 0 := (nI_eq (a := ((ac w 1 (s p0 - 65) (s (p0 + 2) - 97) (s (p0 + 3) - 65)).1)) (b := 0) (by omega) (by omega)).mp c_7
    refine lv_iload_n S.1 S.2.1 dX9_tryAct_91 rfl (lv_at hl 6 rfl) ?_
    refine lv_iconst (v := 1) S.1 S.2.1 dX9_tryAct_92 (by decide) ?_
    refine lv_icmp_ne (tgt := 104) S.1 S.2.1 dX9_tryAct_93 (by decide) (fun c => absurd c (by decide)) (fun _ => ?_)
    have hpr := (p_5) (acSell_ok (show (acSell w _ _ _).1 = 0 from c_7))
    subst hpr
    refine lv_aload_n S.1 S.2.1 dX9_tryAct_96 rfl (lv_at hl 5 rfl) ?_
    refine lv_iload S.1 S.2.1 dX9_tryAct_97 (lv_at hl 3 rfl) ?_
    refine lv_iload S.1 S.2.1 dX9_tryAct_99 (lv_at hl 1 rfl) ?_
    refine ud_Vv (As := [.int (nI ((s (p0 + 2)) - 97)), .int (nI (wPrice w (s (p0 + 2) - 97)))]) (rest := []) S hK hA Z (c_X9_noteSale l G ((s (p0 + 2)) - 97) (wPrice w (s (p0 + 2) - 97)) M ((ac w 1 (s p0 - 65) (s (p0 + 2) - 97) (s (p0 + 3) - 65)).2) a fl wy sl fs ft cm (by omega)) (cwV 2 S.2.2.2.2 gX9_tryAct_X9_noteSale rfl rfl rfl (by decide +kernel) ⟨Nat.le_of_ble_eq_true rfl, Nat.le_of_ble_eq_true rfl⟩) (by decide) rfl rfl rfl hl.1 rfl (Nat.le_of_ble_eq_true rfl) dX9_tryAct_101 ⟨Nat.zero_le _, Nat.zero_le _⟩ (fun H locs Z => ?_)
    refine lv_aload_n S.1 S.2.1 dX9_tryAct_104 rfl (lv_at hl 5 rfl) ?_
    refine lv_dup S.1 S.2.1 dX9_tryAct_105 rfl ?_
    refine ug_i S hK Z (j := 1) (by decide) rfl rfl rfl (by decide) iX9_tryAct_X9 qX9_tryAct_55 dX9_tryAct_106 ?_
    refine utop (y := (nI a)) (uPW_o (uTn M a fl wy (sl + 1) (if sl = 0 then nI a else fs) (if sl = 0 then nI ((s (p0 + 2)) - 97) else ft) (cm + (wPrice w (s (p0 + 2) - 97)))) 24 ((ac w 1 (s p0 - 65) (s (p0 + 2) - 97) (s (p0 + 3) - 65)).2) 1 (a := 23) (Or.inl (by decide))) ?_
    refine lv_iconst (v := 1) S.1 S.2.1 dX9_tryAct_109 (by decide) ?_
    refine lv_iadd S.1 S.2.1 dX9_tryAct_110 ?_
    refine utop (nI_add a 1) ?_
    refine up_i S hK Z (j := 1) (by decide) rfl rfl rfl (by decide) iX9_tryAct_X9 tyX9_ok nmX9 qX9_tryAct_55 rfl rfl rfl dX9_tryAct_111 (fun H locs Z => ?_)
    have Z := uZ_eq ((uPW_c (uTn M a fl wy (sl + 1) (if sl = 0 then nI a else fs) (if sl = 0 then nI ((s (p0 + 2)) - 97) else ft) (cm + (wPrice w (s (p0 + 2) - 97)))) 24 ((ac w 1 (s p0 - 65) (s (p0 + 2) - 97) (s (p0 + 3) - 65)).2) 1 (nI (a + 1)) (a := 23) (Or.inl (by decide))).trans (congrArg (fun X => uPW X 24 ((ac w 1 (s p0 - 65) (s (p0 + 2) - 97) (s (p0 + 3) - 65)).2)) (uTn_s1 M a fl wy (sl + 1) (if sl = 0 then nI a else fs) (if sl = 0 then nI ((s (p0 + 2)) - 97) else ft) (cm + (wPrice w (s (p0 + 2) - 97))) (a + 1)))) Z
    refine uret_v S hK Z hre hlk dX9_tryAct_114 ?_
    exact (congrArg (tM M) (tStep_ok (x := (w, a, fl, wy, sl, fs, ft, cm)) (kd := 1) (k := s p0 - 65) (t := (s (p0 + 2) - 97)) (q := s (p0 + 3) - 65) (show (ac w 1 (s p0 - 65) (s (p0 + 2) - 97) (s (p0 + 3) - 65)).1 = 0 by assumption))).symm
  · skip
    have c_7 : ¬ ((ac w 1 (s p0 - 65) (s (p0 + 2) - 97) (s (p0 + 3) - 65)).1) = 0 := fun z9 => c_7 ((nI_eq (a := ((ac w 1 (s p0 - 65) (s (p0 + 2) - 97) (s (p0 + 3) - 65)).1)) (b := 0) (by omega) (by omega)).mpr z9)
    refine lv_aload_n S.1 S.2.1 dX9_tryAct_76 rfl (lv_at hl 5 rfl) ?_
    refine lv_aload_n S.1 S.2.1 dX9_tryAct_77 rfl (lv_at hl 5 rfl) ?_
    refine ug_i S hK Z (j := 1) (by decide) rfl rfl rfl (by decide) iX9_tryAct_X9 qX9_tryAct_55 dX9_tryAct_78 ?_
    refine utop (y := (nI a)) (uPW_o (uTn M a fl wy sl fs ft cm) 24 ((ac w 1 (s p0 - 65) (s (p0 + 2) - 97) (s (p0 + 3) - 65)).2) 1 (a := 23) (Or.inl (by decide))) ?_
    refine up_i S hK Z (j := 2) (by decide) rfl rfl rfl (by decide) iX9_tryAct_X9 tyX9_ok nmX9 qX9_tryAct_32 rfl rfl rfl dX9_tryAct_81 (fun H locs Z => ?_)
    have Z := uZ_eq ((uPW_c (uTn M a fl wy sl fs ft cm) 24 ((ac w 1 (s p0 - 65) (s (p0 + 2) - 97) (s (p0 + 3) - 65)).2) 2 (nI a) (a := 23) (Or.inl (by decide))).trans (congrArg (fun X => uPW X 24 ((ac w 1 (s p0 - 65) (s (p0 + 2) - 97) (s (p0 + 3) - 65)).2)) (uTn_s2 M a fl wy sl fs ft cm (nI a)))) Z
    refine lv_aload_n S.1 S.2.1 dX9_tryAct_84 rfl (lv_at hl 5 rfl) ?_
    refine lv_iload S.1 S.2.1 dX9_tryAct_85 (lv_at hl 0 rfl) ?_
    refine up_i S hK Z (j := 3) (by decide) rfl rfl rfl (by decide) iX9_tryAct_X9 tyX9_ok nmX9 qX9_tryAct_58 rfl rfl rfl dX9_tryAct_87 (fun H locs Z => ?_)
    have Z := uZ_eq ((uPW_c (uTn M a (nI a) wy sl fs ft cm) 24 ((ac w 1 (s p0 - 65) (s (p0 + 2) - 97) (s (p0 + 3) - 65)).2) 3 (nI ((ac w 1 (s p0 - 65) (s (p0 + 2) - 97) (s (p0 + 3) - 65)).1)) (a := 23) (Or.inl (by decide))).trans (congrArg (fun X => uPW X 24 ((ac w 1 (s p0 - 65) (s (p0 + 2) - 97) (s (p0 + 3) - 65)).2)) (uTn_s3 M a (nI a) wy sl fs ft cm (nI ((ac w 1 (s p0 - 65) (s (p0 + 2) - 97) (s (p0 + 3) - 65)).1))))) Z
    refine uret_v S hK Z hre hlk dX9_tryAct_90 ?_
    exact (congrArg (tM M) (tStep_no (x := (w, a, fl, wy, sl, fs, ft, cm)) (kd := 1) (k := s p0 - 65) (t := (s (p0 + 2) - 97)) (q := s (p0 + 3) - 65) (show ¬ (ac w 1 (s p0 - 65) (s (p0 + 2) - 97) (s (p0 + 3) - 65)).1 = 0 by assumption))).symm
set_option maxHeartbeats 4000000 in
set_option maxRecDepth 100000 in
theorem c_X9_tryAct_2 (l : Launch) (G : uG) (s : Nat → Nat) (n p0 : Nat) (M : uM) (w : Nat → Nat → Nat) (a : Nat) (fl wy : Int32) (sl : Nat) (fs ft : Int32) (cm : Nat) (hp : pdAt M s n) (ho : pdOk s n) (hw : wOk w) (hs : sl < 1000) (hq : p0 < 1000) (hv : 65 ≤ s p0 ∧ s p0 ≤ 72 ∧ 97 ≤ s (p0 + 2) ∧ s (p0 + 2) ≤ 108 ∧ 65 ≤ s (p0 + 3) ∧ s (p0 + 3) ≤ 72) : CTv l G yX9_tryAct wsX9_tryAct 4 93 [.ref (G.2.2 23), .int 2, .ref (G.2.2 21), .int (nI p0)] (uPW (uTn M a fl wy sl fs ft cm) 24 w) (fun M2 => M2 = tM M (tStep (w, a, fl, wy, sl, fs, ft, cm) 2 (s p0 - 65) (s (p0 + 2) - 97) (s (p0 + 3) - 65))) := by
  have hs0 := ho.2.2 p0
  have hs3 := ho.2.2 (p0 + 3)
  have hs1 := ho.2.2 (p0 + 2)
  obtain ⟨hw1, hw2, hw3, -, -⟩ := hw.1 (s (p0 + 2) - 97) (by omega)
  refine ustart_v (cc := cX9_tryAct) (maxL := 9) (ret := none) (own := RX9) rfl (by decide) rfl (Nat.le_of_ble_eq_true rfl) ?_
  intro xp xe xs xm xa xb xt xc xA ls S hK hA Z hre hlk hl
  have hl : lv_has ls 9 [(0, .ref (G.2.2 23)), (1, .int 2), (2, .ref (G.2.2 21)), (3, .int (nI p0))] := hl
  refine lv_aload_n S.1 S.2.1 dX9_tryAct_0 rfl (lv_at hl 2 rfl) ?_
  refine lv_iload_n S.1 S.2.1 dX9_tryAct_1 rfl (lv_at hl 3 rfl) ?_
  refine ud_Vi (As := [.int (nI p0)]) (rest := []) S hK hA Z (c_X3_signAt l G p0 (by omega) (uPW (uTn M a fl wy sl fs ft cm) 24 w) s n (pdAt_Tn hp _ _ _ _ _ _ _ _) ho) (cwV 1 S.2.2.2.2 gX9_tryAct_X3_signAt rfl rfl rfl (by decide +kernel) ⟨Nat.le_of_ble_eq_true rfl, Nat.le_of_ble_eq_true rfl⟩) (by decide) rfl rfl rfl hl.1 rfl (Nat.le_of_ble_eq_true rfl) dX9_tryAct_2 ⟨Nat.zero_le _, Nat.zero_le _⟩ (fun H locs Z => ?_)
  refine lv_bipush (v := 65) S.1 S.2.1 dX9_tryAct_5 (by decide) ?_
  refine lv_isub S.1 S.2.1 dX9_tryAct_7 ?_
  refine utop (pk_sub (a := (s p0)) (b := 65) (by omega)) ?_
  refine lv_istore (lv' := [(4, .int (nI ((s p0) - 65))), (0, .ref (G.2.2 23)), (1, .int 2), (2, .ref (G.2.2 21)), (3, .int (nI p0))]) S.1 S.2.1 dX9_tryAct_8 hl (by decide) rfl (fun ls hl => ?_)
  refine lv_aload_n S.1 S.2.1 dX9_tryAct_10 rfl (lv_at hl 3 rfl) ?_
  refine lv_iload_n S.1 S.2.1 dX9_tryAct_11 rfl (lv_at hl 2 rfl) ?_
  refine lv_if_ne (tgt := 21) S.1 S.2.1 dX9_tryAct_12 (by decide) (fun _ => ?_) (fun c => absurd c (by decide))
  refine lv_iload_n S.1 S.2.1 dX9_tryAct_21 rfl (lv_at hl 4 rfl) ?_
  refine lv_iconst (v := 2) S.1 S.2.1 dX9_tryAct_22 (by decide) ?_
  refine lv_iadd S.1 S.2.1 dX9_tryAct_23 ?_
  refine utop (nI_add p0 2) ?_
  refine ud_Vi (As := [.int (nI (p0 + 2))]) (rest := []) S hK hA Z (c_X3_signAt l G (p0 + 2) (by omega) (uPW (uTn M a fl wy sl fs ft cm) 24 w) s n (pdAt_Tn hp _ _ _ _ _ _ _ _) ho) (cwV 1 S.2.2.2.2 gX9_tryAct_X3_signAt rfl rfl rfl (by decide +kernel) ⟨Nat.le_of_ble_eq_true rfl, Nat.le_of_ble_eq_true rfl⟩) (by decide) rfl rfl rfl hl.1 rfl (Nat.le_of_ble_eq_true rfl) dX9_tryAct_24 ⟨Nat.zero_le _, Nat.zero_le _⟩ (fun H locs Z => ?_)
  refine lv_bipush (v := 97) S.1 S.2.1 dX9_tryAct_27 (by decide) ?_
  refine lv_isub S.1 S.2.1 dX9_tryAct_29 ?_
  refine utop (pk_sub (a := (s (p0 + 2))) (b := 97) (by omega)) ?_
  refine lv_istore (lv' := [(5, .int (nI ((s (p0 + 2)) - 97))), (4, .int (nI ((s p0) - 65))), (0, .ref (G.2.2 23)), (1, .int 2), (2, .ref (G.2.2 21)), (3, .int (nI p0))]) S.1 S.2.1 dX9_tryAct_30 hl (by decide) rfl (fun ls hl => ?_)
  refine lv_aload_n S.1 S.2.1 dX9_tryAct_32 rfl (lv_at hl 4 rfl) ?_
  refine lv_iload_n S.1 S.2.1 dX9_tryAct_33 rfl (lv_at hl 5 rfl) ?_
  refine lv_iconst (v := 3) S.1 S.2.1 dX9_tryAct_34 (by decide) ?_
  refine lv_iadd S.1 S.2.1 dX9_tryAct_35 ?_
  refine utop (nI_add p0 3) ?_
  refine ud_Vi (As := [.int (nI (p0 + 3))]) (rest := []) S hK hA Z (c_X3_signAt l G (p0 + 3) (by omega) (uPW (uTn M a fl wy sl fs ft cm) 24 w) s n (pdAt_Tn hp _ _ _ _ _ _ _ _) ho) (cwV 1 S.2.2.2.2 gX9_tryAct_X3_signAt rfl rfl rfl (by decide +kernel) ⟨Nat.le_of_ble_eq_true rfl, Nat.le_of_ble_eq_true rfl⟩) (by decide) rfl rfl rfl hl.1 rfl (Nat.le_of_ble_eq_true rfl) dX9_tryAct_36 ⟨Nat.zero_le _, Nat.zero_le _⟩ (fun H locs Z => ?_)
  refine lv_bipush (v := 65) S.1 S.2.1 dX9_tryAct_39 (by decide) ?_
  refine lv_isub S.1 S.2.1 dX9_tryAct_41 ?_
  refine utop (pk_sub (a := (s (p0 + 3))) (b := 65) (by omega)) ?_
  refine lv_istore (lv' := [(6, .int (nI ((s (p0 + 3)) - 65))), (5, .int (nI ((s (p0 + 2)) - 97))), (4, .int (nI ((s p0) - 65))), (0, .ref (G.2.2 23)), (1, .int 2), (2, .ref (G.2.2 21)), (3, .int (nI p0))]) S.1 S.2.1 dX9_tryAct_42 hl (by decide) rfl (fun ls hl => ?_)
  refine lv_aload_n S.1 S.2.1 dX9_tryAct_44 rfl (lv_at hl 3 rfl) ?_
  refine ug_r S hK Z (j := 0) 24 (by decide) rfl rfl rfl (by decide) iX9_tryAct_X9 qX9_tryAct_12 dX9_tryAct_45 ?_
  refine lv_iload S.1 S.2.1 dX9_tryAct_48 (lv_at hl 1 rfl) ?_
  refine uc_Vi (As := [.int (nI ((s (p0 + 2)) - 97))]) (rest := []) S hK hA Z (c_X10_priceOf l G 24 (by unfold uIsW; omega) (uTn M a fl wy sl fs ft cm) w ((s (p0 + 2)) - 97) (by omega) (by omega) (by omega)) (cwV 1 S.2.2.2.2 gX9_tryAct_X10_priceOf rfl rfl rfl (by decide +kernel) ⟨Nat.le_of_ble_eq_true rfl, Nat.le_of_ble_eq_true rfl⟩) (by decide) rfl rfl rfl hl.1 rfl (Nat.le_of_ble_eq_true rfl) dX9_tryAct_50 ⟨Nat.zero_le _, Nat.zero_le _⟩ (fun r_5 M_5 H locs hp Z => ?_)
  obtain ⟨p_5, hM_5⟩ := hp
  rw [hM_5] at Z
  refine lv_istore (lv' := [(7, .int (r_5)), (6, .int (nI ((s (p0 + 3)) - 65))), (5, .int (nI ((s (p0 + 2)) - 97))), (4, .int (nI ((s p0) - 65))), (0, .ref (G.2.2 23)), (1, .int 2), (2, .ref (G.2.2 21)), (3, .int (nI p0))]) S.1 S.2.1 dX9_tryAct_53 hl (by decide) rfl (fun ls hl => ?_)
  refine lv_aload_n S.1 S.2.1 dX9_tryAct_55 rfl (lv_at hl 4 rfl) ?_
  refine ug_r S hK Z (j := 0) 24 (by decide) rfl rfl rfl (by decide) iX9_tryAct_X9 qX9_tryAct_12 dX9_tryAct_56 ?_
  refine lv_iload_n S.1 S.2.1 dX9_tryAct_59 rfl (lv_at hl 5 rfl) ?_
  refine lv_iload S.1 S.2.1 dX9_tryAct_60 (lv_at hl 3 rfl) ?_
  refine lv_iload S.1 S.2.1 dX9_tryAct_62 (lv_at hl 2 rfl) ?_
  refine lv_iload S.1 S.2.1 dX9_tryAct_64 (lv_at hl 1 rfl) ?_
  refine ud_Vi (As := [.int 2, .int (nI ((s p0) - 65)), .int (nI ((s (p0 + 2)) - 97)), .int (nI ((s (p0 + 3)) - 65))]) (rest := []) S hK hA Z (c_X10_act2 l G 24 (by unfold uIsW; omega) (uTn M a fl wy sl fs ft cm) w (s p0 - 65) (s (p0 + 2) - 97) (s (p0 + 3) - 65) (by omega) (by omega) (by omega) hw) (cwV 4 S.2.2.2.2 gX9_tryAct_X10_act rfl rfl rfl (by decide +kernel) ⟨Nat.le_of_ble_eq_true rfl, Nat.le_of_ble_eq_true rfl⟩) (by decide) rfl rfl rfl hl.1 rfl (Nat.le_of_ble_eq_true rfl) dX9_tryAct_66 ⟨Nat.zero_le _, Nat.zero_le _⟩ (fun H locs Z => ?_)
  have hac := ac_le w 2 (s p0 - 65) (s (p0 + 2) - 97) (s (p0 + 3) - 65)
  refine lv_istore (lv' := [(8, .int (nI ((ac w 2 (s p0 - 65) (s (p0 + 2) - 97) (s (p0 + 3) - 65)).1))), (7, .int (r_5)), (6, .int (nI ((s (p0 + 3)) - 65))), (5, .int (nI ((s (p0 + 2)) - 97))), (4, .int (nI ((s p0) - 65))), (0, .ref (G.2.2 23)), (1, .int 2), (2, .ref (G.2.2 21)), (3, .int (nI p0))]) S.1 S.2.1 dX9_tryAct_69 hl (by decide) rfl (fun ls hl => ?_)
  refine lv_iload S.1 S.2.1 dX9_tryAct_71 (lv_at hl 0 rfl) ?_
  refine lv_if_eq (tgt := 91) S.1 S.2.1 dX9_tryAct_73 (by decide) (fun c_7 => ?_) (fun c_7 => ?_)
  · skip
    have c_7 : ((ac w 2 (s p0 - 65) (s (p0 + 2) - 97) (s (p0 + 3) - 65)).1) = 0 := (nI_eq (a := ((ac w 2 (s p0 - 65) (s (p0 + 2) - 97) (s (p0 + 3) - 65)).1)) (b := 0) (by omega) (by omega)).mp c_7
    refine lv_iload_n S.1 S.2.1 dX9_tryAct_91 rfl (lv_at hl 6 rfl) ?_
    refine lv_iconst (v := 1) S.1 S.2.1 dX9_tryAct_92 (by decide) ?_
    refine lv_icmp_ne (tgt := 104) S.1 S.2.1 dX9_tryAct_93 (by decide) (fun _ => ?_) (fun c => absurd c (by decide))
    refine lv_aload_n S.1 S.2.1 dX9_tryAct_104 rfl (lv_at hl 5 rfl) ?_
    refine lv_dup S.1 S.2.1 dX9_tryAct_105 rfl ?_
    refine ug_i S hK Z (j := 1) (by decide) rfl rfl rfl (by decide) iX9_tryAct_X9 qX9_tryAct_55 dX9_tryAct_106 ?_
    refine utop (y := (nI a)) (uPW_o (uTn M a fl wy sl fs ft cm) 24 ((ac w 2 (s p0 - 65) (s (p0 + 2) - 97) (s (p0 + 3) - 65)).2) 1 (a := 23) (Or.inl (by decide))) ?_
    refine lv_iconst (v := 1) S.1 S.2.1 dX9_tryAct_109 (by decide) ?_
    refine lv_iadd S.1 S.2.1 dX9_tryAct_110 ?_
    refine utop (nI_add a 1) ?_
    refine up_i S hK Z (j := 1) (by decide) rfl rfl rfl (by decide) iX9_tryAct_X9 tyX9_ok nmX9 qX9_tryAct_55 rfl rfl rfl dX9_tryAct_111 (fun H locs Z => ?_)
    have Z := uZ_eq ((uPW_c (uTn M a fl wy sl fs ft cm) 24 ((ac w 2 (s p0 - 65) (s (p0 + 2) - 97) (s (p0 + 3) - 65)).2) 1 (nI (a + 1)) (a := 23) (Or.inl (by decide))).trans (congrArg (fun X => uPW X 24 ((ac w 2 (s p0 - 65) (s (p0 + 2) - 97) (s (p0 + 3) - 65)).2)) (uTn_s1 M a fl wy sl fs ft cm (a + 1)))) Z
    refine uret_v S hK Z hre hlk dX9_tryAct_114 ?_
    exact (congrArg (tM M) (tStep_ok (x := (w, a, fl, wy, sl, fs, ft, cm)) (kd := 2) (k := s p0 - 65) (t := (s (p0 + 2) - 97)) (q := s (p0 + 3) - 65) (show (ac w 2 (s p0 - 65) (s (p0 + 2) - 97) (s (p0 + 3) - 65)).1 = 0 by assumption))).symm
  · skip
    have c_7 : ¬ ((ac w 2 (s p0 - 65) (s (p0 + 2) - 97) (s (p0 + 3) - 65)).1) = 0 := fun z9 => c_7 ((nI_eq (a := ((ac w 2 (s p0 - 65) (s (p0 + 2) - 97) (s (p0 + 3) - 65)).1)) (b := 0) (by omega) (by omega)).mpr z9)
    refine lv_aload_n S.1 S.2.1 dX9_tryAct_76 rfl (lv_at hl 5 rfl) ?_
    refine lv_aload_n S.1 S.2.1 dX9_tryAct_77 rfl (lv_at hl 5 rfl) ?_
    refine ug_i S hK Z (j := 1) (by decide) rfl rfl rfl (by decide) iX9_tryAct_X9 qX9_tryAct_55 dX9_tryAct_78 ?_
    refine utop (y := (nI a)) (uPW_o (uTn M a fl wy sl fs ft cm) 24 ((ac w 2 (s p0 - 65) (s (p0 + 2) - 97) (s (p0 + 3) - 65)).2) 1 (a := 23) (Or.inl (by decide))) ?_
    refine up_i S hK Z (j := 2) (by decide) rfl rfl rfl (by decide) iX9_tryAct_X9 tyX9_ok nmX9 qX9_tryAct_32 rfl rfl rfl dX9_tryAct_81 (fun H locs Z => ?_)
    have Z := uZ_eq ((uPW_c (uTn M a fl wy sl fs ft cm) 24 ((ac w 2 (s p0 - 65) (s (p0 + 2) - 97) (s (p0 + 3) - 65)).2) 2 (nI a) (a := 23) (Or.inl (by decide))).trans (congrArg (fun X => uPW X 24 ((ac w 2 (s p0 - 65) (s (p0 + 2) - 97) (s (p0 + 3) - 65)).2)) (uTn_s2 M a fl wy sl fs ft cm (nI a)))) Z
    refine lv_aload_n S.1 S.2.1 dX9_tryAct_84 rfl (lv_at hl 5 rfl) ?_
    refine lv_iload S.1 S.2.1 dX9_tryAct_85 (lv_at hl 0 rfl) ?_
    refine up_i S hK Z (j := 3) (by decide) rfl rfl rfl (by decide) iX9_tryAct_X9 tyX9_ok nmX9 qX9_tryAct_58 rfl rfl rfl dX9_tryAct_87 (fun H locs Z => ?_)
    have Z := uZ_eq ((uPW_c (uTn M a (nI a) wy sl fs ft cm) 24 ((ac w 2 (s p0 - 65) (s (p0 + 2) - 97) (s (p0 + 3) - 65)).2) 3 (nI ((ac w 2 (s p0 - 65) (s (p0 + 2) - 97) (s (p0 + 3) - 65)).1)) (a := 23) (Or.inl (by decide))).trans (congrArg (fun X => uPW X 24 ((ac w 2 (s p0 - 65) (s (p0 + 2) - 97) (s (p0 + 3) - 65)).2)) (uTn_s3 M a (nI a) wy sl fs ft cm (nI ((ac w 2 (s p0 - 65) (s (p0 + 2) - 97) (s (p0 + 3) - 65)).1))))) Z
    refine uret_v S hK Z hre hlk dX9_tryAct_90 ?_
    exact (congrArg (tM M) (tStep_no (x := (w, a, fl, wy, sl, fs, ft, cm)) (kd := 2) (k := s p0 - 65) (t := (s (p0 + 2) - 97)) (q := s (p0 + 3) - 65) (show ¬ (ac w 2 (s p0 - 65) (s (p0 + 2) - 97) (s (p0 + 3) - 65)).1 = 0 by assumption))).symm
set_option maxHeartbeats 4000000 in
set_option maxRecDepth 100000 in
theorem c_X9_tryAct_3 (l : Launch) (G : uG) (s : Nat → Nat) (n p0 : Nat) (M : uM) (w : Nat → Nat → Nat) (a : Nat) (fl wy : Int32) (sl : Nat) (fs ft : Int32) (cm : Nat) (hp : pdAt M s n) (ho : pdOk s n) (hw : wOk w) (hs : sl < 1000) (hq : p0 < 1000) (hv : 65 ≤ s p0 ∧ s p0 ≤ 72) : CTv l G yX9_tryAct wsX9_tryAct 4 93 [.ref (G.2.2 23), .int 3, .ref (G.2.2 21), .int (nI p0)] (uPW (uTn M a fl wy sl fs ft cm) 24 w) (fun M2 => M2 = tM M (tStep (w, a, fl, wy, sl, fs, ft, cm) 3 (s p0 - 65) (s (p0 + 2) - 97) (s (p0 + 3) - 65))) := by
  have hs0 := ho.2.2 p0
  have hs3 := ho.2.2 (p0 + 3)
  have hs1 := ho.2.2 (p0 + 2)
  refine ustart_v (cc := cX9_tryAct) (maxL := 9) (ret := none) (own := RX9) rfl (by decide) rfl (Nat.le_of_ble_eq_true rfl) ?_
  intro xp xe xs xm xa xb xt xc xA ls S hK hA Z hre hlk hl
  have hl : lv_has ls 9 [(0, .ref (G.2.2 23)), (1, .int 3), (2, .ref (G.2.2 21)), (3, .int (nI p0))] := hl
  refine lv_aload_n S.1 S.2.1 dX9_tryAct_0 rfl (lv_at hl 2 rfl) ?_
  refine lv_iload_n S.1 S.2.1 dX9_tryAct_1 rfl (lv_at hl 3 rfl) ?_
  refine ud_Vi (As := [.int (nI p0)]) (rest := []) S hK hA Z (c_X3_signAt l G p0 (by omega) (uPW (uTn M a fl wy sl fs ft cm) 24 w) s n (pdAt_Tn hp _ _ _ _ _ _ _ _) ho) (cwV 1 S.2.2.2.2 gX9_tryAct_X3_signAt rfl rfl rfl (by decide +kernel) ⟨Nat.le_of_ble_eq_true rfl, Nat.le_of_ble_eq_true rfl⟩) (by decide) rfl rfl rfl hl.1 rfl (Nat.le_of_ble_eq_true rfl) dX9_tryAct_2 ⟨Nat.zero_le _, Nat.zero_le _⟩ (fun H locs Z => ?_)
  refine lv_bipush (v := 65) S.1 S.2.1 dX9_tryAct_5 (by decide) ?_
  refine lv_isub S.1 S.2.1 dX9_tryAct_7 ?_
  refine utop (pk_sub (a := (s p0)) (b := 65) (by omega)) ?_
  refine lv_istore (lv' := [(4, .int (nI ((s p0) - 65))), (0, .ref (G.2.2 23)), (1, .int 3), (2, .ref (G.2.2 21)), (3, .int (nI p0))]) S.1 S.2.1 dX9_tryAct_8 hl (by decide) rfl (fun ls hl => ?_)
  refine lv_aload_n S.1 S.2.1 dX9_tryAct_10 rfl (lv_at hl 3 rfl) ?_
  refine lv_iload_n S.1 S.2.1 dX9_tryAct_11 rfl (lv_at hl 2 rfl) ?_
  refine lv_if_ne (tgt := 21) S.1 S.2.1 dX9_tryAct_12 (by decide) (fun _ => ?_) (fun c => absurd c (by decide))
  refine lv_iload_n S.1 S.2.1 dX9_tryAct_21 rfl (lv_at hl 4 rfl) ?_
  refine lv_iconst (v := 2) S.1 S.2.1 dX9_tryAct_22 (by decide) ?_
  refine lv_iadd S.1 S.2.1 dX9_tryAct_23 ?_
  refine utop (nI_add p0 2) ?_
  refine ud_Vi (As := [.int (nI (p0 + 2))]) (rest := []) S hK hA Z (c_X3_signAt l G (p0 + 2) (by omega) (uPW (uTn M a fl wy sl fs ft cm) 24 w) s n (pdAt_Tn hp _ _ _ _ _ _ _ _) ho) (cwV 1 S.2.2.2.2 gX9_tryAct_X3_signAt rfl rfl rfl (by decide +kernel) ⟨Nat.le_of_ble_eq_true rfl, Nat.le_of_ble_eq_true rfl⟩) (by decide) rfl rfl rfl hl.1 rfl (Nat.le_of_ble_eq_true rfl) dX9_tryAct_24 ⟨Nat.zero_le _, Nat.zero_le _⟩ (fun H locs Z => ?_)
  refine lv_bipush (v := 97) S.1 S.2.1 dX9_tryAct_27 (by decide) ?_
  refine lv_isub S.1 S.2.1 dX9_tryAct_29 ?_
  refine lv_istore (lv' := [(5, .int ((nI (s (p0 + 2))) - 97)), (4, .int (nI ((s p0) - 65))), (0, .ref (G.2.2 23)), (1, .int 3), (2, .ref (G.2.2 21)), (3, .int (nI p0))]) S.1 S.2.1 dX9_tryAct_30 hl (by decide) rfl (fun ls hl => ?_)
  refine lv_aload_n S.1 S.2.1 dX9_tryAct_32 rfl (lv_at hl 4 rfl) ?_
  refine lv_iload_n S.1 S.2.1 dX9_tryAct_33 rfl (lv_at hl 5 rfl) ?_
  refine lv_iconst (v := 3) S.1 S.2.1 dX9_tryAct_34 (by decide) ?_
  refine lv_iadd S.1 S.2.1 dX9_tryAct_35 ?_
  refine utop (nI_add p0 3) ?_
  refine ud_Vi (As := [.int (nI (p0 + 3))]) (rest := []) S hK hA Z (c_X3_signAt l G (p0 + 3) (by omega) (uPW (uTn M a fl wy sl fs ft cm) 24 w) s n (pdAt_Tn hp _ _ _ _ _ _ _ _) ho) (cwV 1 S.2.2.2.2 gX9_tryAct_X3_signAt rfl rfl rfl (by decide +kernel) ⟨Nat.le_of_ble_eq_true rfl, Nat.le_of_ble_eq_true rfl⟩) (by decide) rfl rfl rfl hl.1 rfl (Nat.le_of_ble_eq_true rfl) dX9_tryAct_36 ⟨Nat.zero_le _, Nat.zero_le _⟩ (fun H locs Z => ?_)
  refine lv_bipush (v := 65) S.1 S.2.1 dX9_tryAct_39 (by decide) ?_
  refine lv_isub S.1 S.2.1 dX9_tryAct_41 ?_
  refine lv_istore (lv' := [(6, .int ((nI (s (p0 + 3))) - 65)), (5, .int ((nI (s (p0 + 2))) - 97)), (4, .int (nI ((s p0) - 65))), (0, .ref (G.2.2 23)), (1, .int 3), (2, .ref (G.2.2 21)), (3, .int (nI p0))]) S.1 S.2.1 dX9_tryAct_42 hl (by decide) rfl (fun ls hl => ?_)
  refine lv_aload_n S.1 S.2.1 dX9_tryAct_44 rfl (lv_at hl 3 rfl) ?_
  refine ug_r S hK Z (j := 0) 24 (by decide) rfl rfl rfl (by decide) iX9_tryAct_X9 qX9_tryAct_12 dX9_tryAct_45 ?_
  refine lv_iload S.1 S.2.1 dX9_tryAct_48 (lv_at hl 1 rfl) ?_
  refine uc_Vi (As := [.int ((nI (s (p0 + 2))) - 97)]) (rest := []) S hK hA Z (c_X10_priceOfg l G 24 (by unfold uIsW; omega) (uTn M a fl wy sl fs ft cm) w ((nI (s (p0 + 2))) - 97)) (cwV 1 S.2.2.2.2 gX9_tryAct_X10_priceOf rfl rfl rfl (by decide +kernel) ⟨Nat.le_of_ble_eq_true rfl, Nat.le_of_ble_eq_true rfl⟩) (by decide) rfl rfl rfl hl.1 rfl (Nat.le_of_ble_eq_true rfl) dX9_tryAct_50 ⟨Nat.zero_le _, Nat.zero_le _⟩ (fun r_5 M_5 H locs hp Z => ?_)
  have hM_5 := hp
  rw [hM_5] at Z
  refine lv_istore (lv' := [(7, .int (r_5)), (6, .int ((nI (s (p0 + 3))) - 65)), (5, .int ((nI (s (p0 + 2))) - 97)), (4, .int (nI ((s p0) - 65))), (0, .ref (G.2.2 23)), (1, .int 3), (2, .ref (G.2.2 21)), (3, .int (nI p0))]) S.1 S.2.1 dX9_tryAct_53 hl (by decide) rfl (fun ls hl => ?_)
  refine lv_aload_n S.1 S.2.1 dX9_tryAct_55 rfl (lv_at hl 4 rfl) ?_
  refine ug_r S hK Z (j := 0) 24 (by decide) rfl rfl rfl (by decide) iX9_tryAct_X9 qX9_tryAct_12 dX9_tryAct_56 ?_
  refine lv_iload_n S.1 S.2.1 dX9_tryAct_59 rfl (lv_at hl 5 rfl) ?_
  refine lv_iload S.1 S.2.1 dX9_tryAct_60 (lv_at hl 3 rfl) ?_
  refine lv_iload S.1 S.2.1 dX9_tryAct_62 (lv_at hl 2 rfl) ?_
  refine lv_iload S.1 S.2.1 dX9_tryAct_64 (lv_at hl 1 rfl) ?_
  refine ud_Vi (As := [.int 3, .int (nI ((s p0) - 65)), .int ((nI (s (p0 + 2))) - 97), .int ((nI (s (p0 + 3))) - 65)]) (rest := []) S hK hA Z (c_X10_act3 l G 24 (by unfold uIsW; omega) (uTn M a fl wy sl fs ft cm) w (s p0 - 65) (s (p0 + 2) - 97) (s (p0 + 3) - 65) ((nI (s (p0 + 2))) - 97) ((nI (s (p0 + 3))) - 65) (by omega) hw) (cwV 4 S.2.2.2.2 gX9_tryAct_X10_act rfl rfl rfl (by decide +kernel) ⟨Nat.le_of_ble_eq_true rfl, Nat.le_of_ble_eq_true rfl⟩) (by decide) rfl rfl rfl hl.1 rfl (Nat.le_of_ble_eq_true rfl) dX9_tryAct_66 ⟨Nat.zero_le _, Nat.zero_le _⟩ (fun H locs Z => ?_)
  have hac := ac_le w 3 (s p0 - 65) (s (p0 + 2) - 97) (s (p0 + 3) - 65)
  refine lv_istore (lv' := [(8, .int (nI ((ac w 3 (s p0 - 65) (s (p0 + 2) - 97) (s (p0 + 3) - 65)).1))), (7, .int (r_5)), (6, .int ((nI (s (p0 + 3))) - 65)), (5, .int ((nI (s (p0 + 2))) - 97)), (4, .int (nI ((s p0) - 65))), (0, .ref (G.2.2 23)), (1, .int 3), (2, .ref (G.2.2 21)), (3, .int (nI p0))]) S.1 S.2.1 dX9_tryAct_69 hl (by decide) rfl (fun ls hl => ?_)
  refine lv_iload S.1 S.2.1 dX9_tryAct_71 (lv_at hl 0 rfl) ?_
  refine lv_if_eq (tgt := 91) S.1 S.2.1 dX9_tryAct_73 (by decide) (fun c_7 => ?_) (fun c_7 => ?_)
  · skip
    have c_7 : ((ac w 3 (s p0 - 65) (s (p0 + 2) - 97) (s (p0 + 3) - 65)).1) = 0 := (nI_eq (a := ((ac w 3 (s p0 - 65) (s (p0 + 2) - 97) (s (p0 + 3) - 65)).1)) (b := 0) (by omega) (by omega)).mp c_7
    refine lv_iload_n S.1 S.2.1 dX9_tryAct_91 rfl (lv_at hl 6 rfl) ?_
    refine lv_iconst (v := 1) S.1 S.2.1 dX9_tryAct_92 (by decide) ?_
    refine lv_icmp_ne (tgt := 104) S.1 S.2.1 dX9_tryAct_93 (by decide) (fun _ => ?_) (fun c => absurd c (by decide))
    refine lv_aload_n S.1 S.2.1 dX9_tryAct_104 rfl (lv_at hl 5 rfl) ?_
    refine lv_dup S.1 S.2.1 dX9_tryAct_105 rfl ?_
    refine ug_i S hK Z (j := 1) (by decide) rfl rfl rfl (by decide) iX9_tryAct_X9 qX9_tryAct_55 dX9_tryAct_106 ?_
    refine utop (y := (nI a)) (uPW_o (uTn M a fl wy sl fs ft cm) 24 ((ac w 3 (s p0 - 65) (s (p0 + 2) - 97) (s (p0 + 3) - 65)).2) 1 (a := 23) (Or.inl (by decide))) ?_
    refine lv_iconst (v := 1) S.1 S.2.1 dX9_tryAct_109 (by decide) ?_
    refine lv_iadd S.1 S.2.1 dX9_tryAct_110 ?_
    refine utop (nI_add a 1) ?_
    refine up_i S hK Z (j := 1) (by decide) rfl rfl rfl (by decide) iX9_tryAct_X9 tyX9_ok nmX9 qX9_tryAct_55 rfl rfl rfl dX9_tryAct_111 (fun H locs Z => ?_)
    have Z := uZ_eq ((uPW_c (uTn M a fl wy sl fs ft cm) 24 ((ac w 3 (s p0 - 65) (s (p0 + 2) - 97) (s (p0 + 3) - 65)).2) 1 (nI (a + 1)) (a := 23) (Or.inl (by decide))).trans (congrArg (fun X => uPW X 24 ((ac w 3 (s p0 - 65) (s (p0 + 2) - 97) (s (p0 + 3) - 65)).2)) (uTn_s1 M a fl wy sl fs ft cm (a + 1)))) Z
    refine uret_v S hK Z hre hlk dX9_tryAct_114 ?_
    exact (congrArg (tM M) (tStep_ok (x := (w, a, fl, wy, sl, fs, ft, cm)) (kd := 3) (k := s p0 - 65) (t := (s (p0 + 2) - 97)) (q := s (p0 + 3) - 65) (show (ac w 3 (s p0 - 65) (s (p0 + 2) - 97) (s (p0 + 3) - 65)).1 = 0 by assumption))).symm
  · skip
    have c_7 : ¬ ((ac w 3 (s p0 - 65) (s (p0 + 2) - 97) (s (p0 + 3) - 65)).1) = 0 := fun z9 => c_7 ((nI_eq (a := ((ac w 3 (s p0 - 65) (s (p0 + 2) - 97) (s (p0 + 3) - 65)).1)) (b := 0) (by omega) (by omega)).mpr z9)
    refine lv_aload_n S.1 S.2.1 dX9_tryAct_76 rfl (lv_at hl 5 rfl) ?_
    refine lv_aload_n S.1 S.2.1 dX9_tryAct_77 rfl (lv_at hl 5 rfl) ?_
    refine ug_i S hK Z (j := 1) (by decide) rfl rfl rfl (by decide) iX9_tryAct_X9 qX9_tryAct_55 dX9_tryAct_78 ?_
    refine utop (y := (nI a)) (uPW_o (uTn M a fl wy sl fs ft cm) 24 ((ac w 3 (s p0 - 65) (s (p0 + 2) - 97) (s (p0 + 3) - 65)).2) 1 (a := 23) (Or.inl (by decide))) ?_
    refine up_i S hK Z (j := 2) (by decide) rfl rfl rfl (by decide) iX9_tryAct_X9 tyX9_ok nmX9 qX9_tryAct_32 rfl rfl rfl dX9_tryAct_81 (fun H locs Z => ?_)
    have Z := uZ_eq ((uPW_c (uTn M a fl wy sl fs ft cm) 24 ((ac w 3 (s p0 - 65) (s (p0 + 2) - 97) (s (p0 + 3) - 65)).2) 2 (nI a) (a := 23) (Or.inl (by decide))).trans (congrArg (fun X => uPW X 24 ((ac w 3 (s p0 - 65) (s (p0 + 2) - 97) (s (p0 + 3) - 65)).2)) (uTn_s2 M a fl wy sl fs ft cm (nI a)))) Z
    refine lv_aload_n S.1 S.2.1 dX9_tryAct_84 rfl (lv_at hl 5 rfl) ?_
    refine lv_iload S.1 S.2.1 dX9_tryAct_85 (lv_at hl 0 rfl) ?_
    refine up_i S hK Z (j := 3) (by decide) rfl rfl rfl (by decide) iX9_tryAct_X9 tyX9_ok nmX9 qX9_tryAct_58 rfl rfl rfl dX9_tryAct_87 (fun H locs Z => ?_)
    have Z := uZ_eq ((uPW_c (uTn M a (nI a) wy sl fs ft cm) 24 ((ac w 3 (s p0 - 65) (s (p0 + 2) - 97) (s (p0 + 3) - 65)).2) 3 (nI ((ac w 3 (s p0 - 65) (s (p0 + 2) - 97) (s (p0 + 3) - 65)).1)) (a := 23) (Or.inl (by decide))).trans (congrArg (fun X => uPW X 24 ((ac w 3 (s p0 - 65) (s (p0 + 2) - 97) (s (p0 + 3) - 65)).2)) (uTn_s3 M a (nI a) wy sl fs ft cm (nI ((ac w 3 (s p0 - 65) (s (p0 + 2) - 97) (s (p0 + 3) - 65)).1))))) Z
    refine uret_v S hK Z hre hlk dX9_tryAct_90 ?_
    exact (congrArg (tM M) (tStep_no (x := (w, a, fl, wy, sl, fs, ft, cm)) (kd := 3) (k := s p0 - 65) (t := (s (p0 + 2) - 97)) (q := s (p0 + 3) - 65) (show ¬ (ac w 3 (s p0 - 65) (s (p0 + 2) - 97) (s (p0 + 3) - 65)).1 = 0 by assumption))).symm
set_option maxHeartbeats 4000000 in
set_option maxRecDepth 100000 in
theorem c_X9_tryAct_4 (l : Launch) (G : uG) (s : Nat → Nat) (n p0 : Nat) (M : uM) (w : Nat → Nat → Nat) (a : Nat) (fl wy : Int32) (sl : Nat) (fs ft : Int32) (cm : Nat) (hp : pdAt M s n) (ho : pdOk s n) (hw : wOk w) (hs : sl < 1000) (hq : p0 < 1000) (hv : True) : CTv l G yX9_tryAct wsX9_tryAct 4 93 [.ref (G.2.2 23), .int 4, .ref (G.2.2 21), .int (nI p0)] (uPW (uTn M a fl wy sl fs ft cm) 24 w) (fun M2 => M2 = tM M (tStep (w, a, fl, wy, sl, fs, ft, cm) 4 (s p0 - 65) (s (p0 + 2) - 97) (s (p0 + 3) - 65))) := by
  have hs0 := ho.2.2 p0
  have hs3 := ho.2.2 (p0 + 3)
  have hs1 := ho.2.2 (p0 + 2)
  refine ustart_v (cc := cX9_tryAct) (maxL := 9) (ret := none) (own := RX9) rfl (by decide) rfl (Nat.le_of_ble_eq_true rfl) ?_
  intro xp xe xs xm xa xb xt xc xA ls S hK hA Z hre hlk hl
  have hl : lv_has ls 9 [(0, .ref (G.2.2 23)), (1, .int 4), (2, .ref (G.2.2 21)), (3, .int (nI p0))] := hl
  refine lv_aload_n S.1 S.2.1 dX9_tryAct_0 rfl (lv_at hl 2 rfl) ?_
  refine lv_iload_n S.1 S.2.1 dX9_tryAct_1 rfl (lv_at hl 3 rfl) ?_
  refine ud_Vi (As := [.int (nI p0)]) (rest := []) S hK hA Z (c_X3_signAt l G p0 (by omega) (uPW (uTn M a fl wy sl fs ft cm) 24 w) s n (pdAt_Tn hp _ _ _ _ _ _ _ _) ho) (cwV 1 S.2.2.2.2 gX9_tryAct_X3_signAt rfl rfl rfl (by decide +kernel) ⟨Nat.le_of_ble_eq_true rfl, Nat.le_of_ble_eq_true rfl⟩) (by decide) rfl rfl rfl hl.1 rfl (Nat.le_of_ble_eq_true rfl) dX9_tryAct_2 ⟨Nat.zero_le _, Nat.zero_le _⟩ (fun H locs Z => ?_)
  refine lv_bipush (v := 65) S.1 S.2.1 dX9_tryAct_5 (by decide) ?_
  refine lv_isub S.1 S.2.1 dX9_tryAct_7 ?_
  refine lv_istore (lv' := [(4, .int ((nI (s p0)) - 65)), (0, .ref (G.2.2 23)), (1, .int 4), (2, .ref (G.2.2 21)), (3, .int (nI p0))]) S.1 S.2.1 dX9_tryAct_8 hl (by decide) rfl (fun ls hl => ?_)
  refine lv_aload_n S.1 S.2.1 dX9_tryAct_10 rfl (lv_at hl 3 rfl) ?_
  refine lv_iload_n S.1 S.2.1 dX9_tryAct_11 rfl (lv_at hl 2 rfl) ?_
  refine lv_if_ne (tgt := 21) S.1 S.2.1 dX9_tryAct_12 (by decide) (fun _ => ?_) (fun c => absurd c (by decide))
  refine lv_iload_n S.1 S.2.1 dX9_tryAct_21 rfl (lv_at hl 4 rfl) ?_
  refine lv_iconst (v := 2) S.1 S.2.1 dX9_tryAct_22 (by decide) ?_
  refine lv_iadd S.1 S.2.1 dX9_tryAct_23 ?_
  refine utop (nI_add p0 2) ?_
  refine ud_Vi (As := [.int (nI (p0 + 2))]) (rest := []) S hK hA Z (c_X3_signAt l G (p0 + 2) (by omega) (uPW (uTn M a fl wy sl fs ft cm) 24 w) s n (pdAt_Tn hp _ _ _ _ _ _ _ _) ho) (cwV 1 S.2.2.2.2 gX9_tryAct_X3_signAt rfl rfl rfl (by decide +kernel) ⟨Nat.le_of_ble_eq_true rfl, Nat.le_of_ble_eq_true rfl⟩) (by decide) rfl rfl rfl hl.1 rfl (Nat.le_of_ble_eq_true rfl) dX9_tryAct_24 ⟨Nat.zero_le _, Nat.zero_le _⟩ (fun H locs Z => ?_)
  refine lv_bipush (v := 97) S.1 S.2.1 dX9_tryAct_27 (by decide) ?_
  refine lv_isub S.1 S.2.1 dX9_tryAct_29 ?_
  refine lv_istore (lv' := [(5, .int ((nI (s (p0 + 2))) - 97)), (4, .int ((nI (s p0)) - 65)), (0, .ref (G.2.2 23)), (1, .int 4), (2, .ref (G.2.2 21)), (3, .int (nI p0))]) S.1 S.2.1 dX9_tryAct_30 hl (by decide) rfl (fun ls hl => ?_)
  refine lv_aload_n S.1 S.2.1 dX9_tryAct_32 rfl (lv_at hl 4 rfl) ?_
  refine lv_iload_n S.1 S.2.1 dX9_tryAct_33 rfl (lv_at hl 5 rfl) ?_
  refine lv_iconst (v := 3) S.1 S.2.1 dX9_tryAct_34 (by decide) ?_
  refine lv_iadd S.1 S.2.1 dX9_tryAct_35 ?_
  refine utop (nI_add p0 3) ?_
  refine ud_Vi (As := [.int (nI (p0 + 3))]) (rest := []) S hK hA Z (c_X3_signAt l G (p0 + 3) (by omega) (uPW (uTn M a fl wy sl fs ft cm) 24 w) s n (pdAt_Tn hp _ _ _ _ _ _ _ _) ho) (cwV 1 S.2.2.2.2 gX9_tryAct_X3_signAt rfl rfl rfl (by decide +kernel) ⟨Nat.le_of_ble_eq_true rfl, Nat.le_of_ble_eq_true rfl⟩) (by decide) rfl rfl rfl hl.1 rfl (Nat.le_of_ble_eq_true rfl) dX9_tryAct_36 ⟨Nat.zero_le _, Nat.zero_le _⟩ (fun H locs Z => ?_)
  refine lv_bipush (v := 65) S.1 S.2.1 dX9_tryAct_39 (by decide) ?_
  refine lv_isub S.1 S.2.1 dX9_tryAct_41 ?_
  refine lv_istore (lv' := [(6, .int ((nI (s (p0 + 3))) - 65)), (5, .int ((nI (s (p0 + 2))) - 97)), (4, .int ((nI (s p0)) - 65)), (0, .ref (G.2.2 23)), (1, .int 4), (2, .ref (G.2.2 21)), (3, .int (nI p0))]) S.1 S.2.1 dX9_tryAct_42 hl (by decide) rfl (fun ls hl => ?_)
  refine lv_aload_n S.1 S.2.1 dX9_tryAct_44 rfl (lv_at hl 3 rfl) ?_
  refine ug_r S hK Z (j := 0) 24 (by decide) rfl rfl rfl (by decide) iX9_tryAct_X9 qX9_tryAct_12 dX9_tryAct_45 ?_
  refine lv_iload S.1 S.2.1 dX9_tryAct_48 (lv_at hl 1 rfl) ?_
  refine uc_Vi (As := [.int ((nI (s (p0 + 2))) - 97)]) (rest := []) S hK hA Z (c_X10_priceOfg l G 24 (by unfold uIsW; omega) (uTn M a fl wy sl fs ft cm) w ((nI (s (p0 + 2))) - 97)) (cwV 1 S.2.2.2.2 gX9_tryAct_X10_priceOf rfl rfl rfl (by decide +kernel) ⟨Nat.le_of_ble_eq_true rfl, Nat.le_of_ble_eq_true rfl⟩) (by decide) rfl rfl rfl hl.1 rfl (Nat.le_of_ble_eq_true rfl) dX9_tryAct_50 ⟨Nat.zero_le _, Nat.zero_le _⟩ (fun r_5 M_5 H locs hp Z => ?_)
  have hM_5 := hp
  rw [hM_5] at Z
  refine lv_istore (lv' := [(7, .int (r_5)), (6, .int ((nI (s (p0 + 3))) - 65)), (5, .int ((nI (s (p0 + 2))) - 97)), (4, .int ((nI (s p0)) - 65)), (0, .ref (G.2.2 23)), (1, .int 4), (2, .ref (G.2.2 21)), (3, .int (nI p0))]) S.1 S.2.1 dX9_tryAct_53 hl (by decide) rfl (fun ls hl => ?_)
  refine lv_aload_n S.1 S.2.1 dX9_tryAct_55 rfl (lv_at hl 4 rfl) ?_
  refine ug_r S hK Z (j := 0) 24 (by decide) rfl rfl rfl (by decide) iX9_tryAct_X9 qX9_tryAct_12 dX9_tryAct_56 ?_
  refine lv_iload_n S.1 S.2.1 dX9_tryAct_59 rfl (lv_at hl 5 rfl) ?_
  refine lv_iload S.1 S.2.1 dX9_tryAct_60 (lv_at hl 3 rfl) ?_
  refine lv_iload S.1 S.2.1 dX9_tryAct_62 (lv_at hl 2 rfl) ?_
  refine lv_iload S.1 S.2.1 dX9_tryAct_64 (lv_at hl 1 rfl) ?_
  refine ud_Vi (As := [.int 4, .int ((nI (s p0)) - 65), .int ((nI (s (p0 + 2))) - 97), .int ((nI (s (p0 + 3))) - 65)]) (rest := []) S hK hA Z (c_X10_act4 l G 24 (by unfold uIsW; omega) (uTn M a fl wy sl fs ft cm) w (s p0 - 65) (s (p0 + 2) - 97) (s (p0 + 3) - 65) ((nI (s p0)) - 65) ((nI (s (p0 + 2))) - 97) ((nI (s (p0 + 3))) - 65) hw) (cwV 4 S.2.2.2.2 gX9_tryAct_X10_act rfl rfl rfl (by decide +kernel) ⟨Nat.le_of_ble_eq_true rfl, Nat.le_of_ble_eq_true rfl⟩) (by decide) rfl rfl rfl hl.1 rfl (Nat.le_of_ble_eq_true rfl) dX9_tryAct_66 ⟨Nat.zero_le _, Nat.zero_le _⟩ (fun H locs Z => ?_)
  have hac := ac_le w 4 (s p0 - 65) (s (p0 + 2) - 97) (s (p0 + 3) - 65)
  refine lv_istore (lv' := [(8, .int (nI ((ac w 4 (s p0 - 65) (s (p0 + 2) - 97) (s (p0 + 3) - 65)).1))), (7, .int (r_5)), (6, .int ((nI (s (p0 + 3))) - 65)), (5, .int ((nI (s (p0 + 2))) - 97)), (4, .int ((nI (s p0)) - 65)), (0, .ref (G.2.2 23)), (1, .int 4), (2, .ref (G.2.2 21)), (3, .int (nI p0))]) S.1 S.2.1 dX9_tryAct_69 hl (by decide) rfl (fun ls hl => ?_)
  refine lv_iload S.1 S.2.1 dX9_tryAct_71 (lv_at hl 0 rfl) ?_
  refine lv_if_eq (tgt := 91) S.1 S.2.1 dX9_tryAct_73 (by decide) (fun c_7 => ?_) (fun c_7 => ?_)
  · skip
    have c_7 : ((ac w 4 (s p0 - 65) (s (p0 + 2) - 97) (s (p0 + 3) - 65)).1) = 0 := (nI_eq (a := ((ac w 4 (s p0 - 65) (s (p0 + 2) - 97) (s (p0 + 3) - 65)).1)) (b := 0) (by omega) (by omega)).mp c_7
    refine lv_iload_n S.1 S.2.1 dX9_tryAct_91 rfl (lv_at hl 6 rfl) ?_
    refine lv_iconst (v := 1) S.1 S.2.1 dX9_tryAct_92 (by decide) ?_
    refine lv_icmp_ne (tgt := 104) S.1 S.2.1 dX9_tryAct_93 (by decide) (fun _ => ?_) (fun c => absurd c (by decide))
    refine lv_aload_n S.1 S.2.1 dX9_tryAct_104 rfl (lv_at hl 5 rfl) ?_
    refine lv_dup S.1 S.2.1 dX9_tryAct_105 rfl ?_
    refine ug_i S hK Z (j := 1) (by decide) rfl rfl rfl (by decide) iX9_tryAct_X9 qX9_tryAct_55 dX9_tryAct_106 ?_
    refine utop (y := (nI a)) (uPW_o (uTn M a fl wy sl fs ft cm) 24 ((ac w 4 (s p0 - 65) (s (p0 + 2) - 97) (s (p0 + 3) - 65)).2) 1 (a := 23) (Or.inl (by decide))) ?_
    refine lv_iconst (v := 1) S.1 S.2.1 dX9_tryAct_109 (by decide) ?_
    refine lv_iadd S.1 S.2.1 dX9_tryAct_110 ?_
    refine utop (nI_add a 1) ?_
    refine up_i S hK Z (j := 1) (by decide) rfl rfl rfl (by decide) iX9_tryAct_X9 tyX9_ok nmX9 qX9_tryAct_55 rfl rfl rfl dX9_tryAct_111 (fun H locs Z => ?_)
    have Z := uZ_eq ((uPW_c (uTn M a fl wy sl fs ft cm) 24 ((ac w 4 (s p0 - 65) (s (p0 + 2) - 97) (s (p0 + 3) - 65)).2) 1 (nI (a + 1)) (a := 23) (Or.inl (by decide))).trans (congrArg (fun X => uPW X 24 ((ac w 4 (s p0 - 65) (s (p0 + 2) - 97) (s (p0 + 3) - 65)).2)) (uTn_s1 M a fl wy sl fs ft cm (a + 1)))) Z
    refine uret_v S hK Z hre hlk dX9_tryAct_114 ?_
    exact (congrArg (tM M) (tStep_ok (x := (w, a, fl, wy, sl, fs, ft, cm)) (kd := 4) (k := s p0 - 65) (t := (s (p0 + 2) - 97)) (q := s (p0 + 3) - 65) (show (ac w 4 (s p0 - 65) (s (p0 + 2) - 97) (s (p0 + 3) - 65)).1 = 0 by assumption))).symm
  · skip
    have c_7 : ¬ ((ac w 4 (s p0 - 65) (s (p0 + 2) - 97) (s (p0 + 3) - 65)).1) = 0 := fun z9 => c_7 ((nI_eq (a := ((ac w 4 (s p0 - 65) (s (p0 + 2) - 97) (s (p0 + 3) - 65)).1)) (b := 0) (by omega) (by omega)).mpr z9)
    refine lv_aload_n S.1 S.2.1 dX9_tryAct_76 rfl (lv_at hl 5 rfl) ?_
    refine lv_aload_n S.1 S.2.1 dX9_tryAct_77 rfl (lv_at hl 5 rfl) ?_
    refine ug_i S hK Z (j := 1) (by decide) rfl rfl rfl (by decide) iX9_tryAct_X9 qX9_tryAct_55 dX9_tryAct_78 ?_
    refine utop (y := (nI a)) (uPW_o (uTn M a fl wy sl fs ft cm) 24 ((ac w 4 (s p0 - 65) (s (p0 + 2) - 97) (s (p0 + 3) - 65)).2) 1 (a := 23) (Or.inl (by decide))) ?_
    refine up_i S hK Z (j := 2) (by decide) rfl rfl rfl (by decide) iX9_tryAct_X9 tyX9_ok nmX9 qX9_tryAct_32 rfl rfl rfl dX9_tryAct_81 (fun H locs Z => ?_)
    have Z := uZ_eq ((uPW_c (uTn M a fl wy sl fs ft cm) 24 ((ac w 4 (s p0 - 65) (s (p0 + 2) - 97) (s (p0 + 3) - 65)).2) 2 (nI a) (a := 23) (Or.inl (by decide))).trans (congrArg (fun X => uPW X 24 ((ac w 4 (s p0 - 65) (s (p0 + 2) - 97) (s (p0 + 3) - 65)).2)) (uTn_s2 M a fl wy sl fs ft cm (nI a)))) Z
    refine lv_aload_n S.1 S.2.1 dX9_tryAct_84 rfl (lv_at hl 5 rfl) ?_
    refine lv_iload S.1 S.2.1 dX9_tryAct_85 (lv_at hl 0 rfl) ?_
    refine up_i S hK Z (j := 3) (by decide) rfl rfl rfl (by decide) iX9_tryAct_X9 tyX9_ok nmX9 qX9_tryAct_58 rfl rfl rfl dX9_tryAct_87 (fun H locs Z => ?_)
    have Z := uZ_eq ((uPW_c (uTn M a (nI a) wy sl fs ft cm) 24 ((ac w 4 (s p0 - 65) (s (p0 + 2) - 97) (s (p0 + 3) - 65)).2) 3 (nI ((ac w 4 (s p0 - 65) (s (p0 + 2) - 97) (s (p0 + 3) - 65)).1)) (a := 23) (Or.inl (by decide))).trans (congrArg (fun X => uPW X 24 ((ac w 4 (s p0 - 65) (s (p0 + 2) - 97) (s (p0 + 3) - 65)).2)) (uTn_s3 M a (nI a) wy sl fs ft cm (nI ((ac w 4 (s p0 - 65) (s (p0 + 2) - 97) (s (p0 + 3) - 65)).1))))) Z
    refine uret_v S hK Z hre hlk dX9_tryAct_90 ?_
    exact (congrArg (tM M) (tStep_no (x := (w, a, fl, wy, sl, fs, ft, cm)) (kd := 4) (k := s p0 - 65) (t := (s (p0 + 2) - 97)) (q := s (p0 + 3) - 65) (show ¬ (ac w 4 (s p0 - 65) (s (p0 + 2) - 97) (s (p0 + 3) - 65)).1 = 0 by assumption))).symm
