/-! the reference's memory: its world in numbers -/
def uPM (M : uM) (w : Nat → Nat → Nat) : uM := (fun a i => if a = 71 then (if i = 6 then nI (w 0 7) else if i = 7 then nI (w 0 8) else if i = 10 then nI (w 7 2) else M.1 a i) else if 72 ≤ a ∧ a < 78 then nI (w (a - 71) i) else if 78 ≤ a ∧ a < 80 then nI (w (a - 70) i) else M.1 a i, M.2)
def mO (a i : Nat) : Prop := (a = 71 ∧ i ≠ 6 ∧ i ≠ 7 ∧ i ≠ 10) ∨ a < 71 ∨ 80 ≤ a
theorem uPM_r (M : uM) (w : Nat → Nat → Nat) (i : Nat) {j : Nat} (hj : 1 ≤ j ∧ j ≤ 6) : (uPM M w).1 (71 + j) i = nI (w j i) := by
  show (if 71 + j = 71 then _ else if 72 ≤ 71 + j ∧ 71 + j < 78 then nI (w (71 + j - 71) i) else _) = _
  rw [if_neg (by omega), if_pos (by omega), show 71 + j - 71 = j from by omega]
theorem uPM_q (M : uM) (w : Nat → Nat → Nat) (i : Nat) {j : Nat} (hj : 8 ≤ j ∧ j ≤ 9) : (uPM M w).1 (70 + j) i = nI (w j i) := by
  show (if 70 + j = 71 then _ else if 72 ≤ 70 + j ∧ 70 + j < 78 then _ else if 78 ≤ 70 + j ∧ 70 + j < 80 then nI (w (70 + j - 70) i) else _) = _
  rw [if_neg (by omega), if_neg (by omega), if_pos (by omega), show 70 + j - 70 = j from by omega]
theorem uPM_6 (M : uM) (w : Nat → Nat → Nat) : (uPM M w).1 71 6 = nI (w 0 7) := rfl
theorem uPM_7 (M : uM) (w : Nat → Nat → Nat) : (uPM M w).1 71 7 = nI (w 0 8) := rfl
theorem uPM_10 (M : uM) (w : Nat → Nat → Nat) : (uPM M w).1 71 10 = nI (w 7 2) := rfl
theorem uPM_o (M : uM) (w : Nat → Nat → Nat) {a i : Nat} (h : mO a i) : (uPM M w).1 a i = M.1 a i := by
  unfold mO at h
  show (if a = 71 then (if i = 6 then nI (w 0 7) else if i = 7 then nI (w 0 8) else if i = 10 then nI (w 7 2) else M.1 a i) else if 72 ≤ a ∧ a < 78 then nI (w (a - 71) i) else if 78 ≤ a ∧ a < 80 then nI (w (a - 70) i) else M.1 a i) = _
  by_cases q : a = 71
  · rw [if_pos q, if_neg (by omega), if_neg (by omega), if_neg (by omega)]
  · rw [if_neg q, if_neg (by omega), if_neg (by omega)]
theorem uPM_c (M : uM) (w : Nat → Nat → Nat) {a i : Nat} (v : Int32) (h : mO a i) : u1 (uPM M w) a i v = uPM (u1 M a i v) w := uM_ext (fun x c => by
  by_cases q : mO x c
  · rw [uPM_o _ _ q, u1_1, u1_1, uPM_o _ _ q]
  · have hne : ¬ (x = a ∧ c = i) := fun z => q (by rw [z.1, z.2]; exact h)
    rw [u1_1, if_neg hne]
    unfold uPM
    dsimp only
    rw [u1_1, if_neg hne]) rfl
theorem uPM_sr (M : uM) (w : Nat → Nat → Nat) (i v : Nat) {j : Nat} (hj : 1 ≤ j ∧ j ≤ 6) : u1 (uPM M w) (71 + j) i (nI v) = uPM M (wu w j i v) := uM_ext (fun a c => by
  rw [u1_1]
  unfold uPM wu
  dsimp only
  by_cases h1 : a = 71
  · have e1 : ¬ (0 = j ∧ 7 = i) := by omega
    have e2 : ¬ (0 = j ∧ 8 = i) := by omega
    have e3 : ¬ (7 = j ∧ 2 = i) := by omega
    rw [if_neg (fun q => by omega), if_pos h1, if_pos h1, if_neg e1, if_neg e2, if_neg e3]
  · rw [if_neg h1, if_neg h1]
    by_cases h2 : 72 ≤ a ∧ a < 78
    · rw [if_pos h2, if_pos h2]
      by_cases h3 : a = 71 + j ∧ c = i
      · rw [if_pos h3, if_pos ⟨by omega, h3.2⟩]
      · rw [if_neg h3, if_neg (fun q => h3 ⟨by omega, q.2⟩)]
    · rw [if_neg h2, if_neg h2, if_neg (fun q => by omega)]
      by_cases h3 : 78 ≤ a ∧ a < 80
      · rw [if_pos h3, if_pos h3, if_neg (fun q => by omega)]
      · rw [if_neg h3, if_neg h3]) rfl
theorem uPM_sq (M : uM) (w : Nat → Nat → Nat) (i v : Nat) {j : Nat} (hj : 8 ≤ j ∧ j ≤ 9) : u1 (uPM M w) (70 + j) i (nI v) = uPM M (wu w j i v) := uM_ext (fun a c => by
  rw [u1_1]
  unfold uPM wu
  dsimp only
  by_cases h1 : a = 71
  · have e1 : ¬ (0 = j ∧ 7 = i) := by omega
    have e2 : ¬ (0 = j ∧ 8 = i) := by omega
    have e3 : ¬ (7 = j ∧ 2 = i) := by omega
    rw [if_neg (fun q => by omega), if_pos h1, if_pos h1, if_neg e1, if_neg e2, if_neg e3]
  · rw [if_neg h1, if_neg h1]
    by_cases h2 : 72 ≤ a ∧ a < 78
    · rw [if_pos h2, if_pos h2, if_neg (fun q => by omega), if_neg (fun q => by omega)]
    · rw [if_neg h2, if_neg h2]
      by_cases h3 : 78 ≤ a ∧ a < 80
      · rw [if_pos h3, if_pos h3]
        by_cases h4 : a = 70 + j ∧ c = i
        · rw [if_pos h4, if_pos ⟨by omega, h4.2⟩]
        · rw [if_neg h4, if_neg (fun q => h4 ⟨by omega, q.2⟩)]
      · rw [if_neg h3, if_neg h3, if_neg (fun q => by omega)]) rfl
theorem uPM_s0 (M : uM) (w : Nat → Nat → Nat) (v : Nat) {i j c : Nat} (h : (i = 6 ∧ j = 0 ∧ c = 7) ∨ (i = 7 ∧ j = 0 ∧ c = 8) ∨ (i = 10 ∧ j = 7 ∧ c = 2)) : u1 (uPM M w) 71 i (nI v) = uPM M (wu w j c v) := uM_ext (fun a x => by
  rw [u1_1]
  unfold uPM wu
  dsimp only
  by_cases h1 : a = 71
  · rw [if_pos h1, if_pos h1]
    rcases h with ⟨rfl, rfl, rfl⟩ | ⟨rfl, rfl, rfl⟩ | ⟨rfl, rfl, rfl⟩
    all_goals
      by_cases q6 : x = 6
      · subst q6
        simp [h1]
      by_cases q7 : x = 7
      · subst q7
        simp [h1]
      by_cases q10 : x = 10
      · subst q10
        simp [h1]
      simp [h1, q6, q7, q10]
  · rw [if_neg (fun q => h1 q.1), if_neg h1, if_neg h1]
    by_cases h2 : 72 ≤ a ∧ a < 78
    · rw [if_pos h2, if_pos h2, if_neg (fun q => by omega)]
    · rw [if_neg h2, if_neg h2]
      by_cases h3 : 78 ≤ a ∧ a < 80
      · rw [if_pos h3, if_pos h3, if_neg (fun q => by omega)]
      · rw [if_neg h3, if_neg h3]) rfl
def uMd (M : uM) (w : Nat → Nat → Nat) : Prop := uPM M w = M
theorem uMd_r {M : uM} {w : Nat → Nat → Nat} (h : uMd M w) (i : Nat) {j : Nat} (hj : 1 ≤ j ∧ j ≤ 6) : M.1 (71 + j) i = nI (w j i) := by
  rw [← h]
  exact uPM_r _ _ _ hj
theorem uMd_q {M : uM} {w : Nat → Nat → Nat} (h : uMd M w) (i : Nat) {j : Nat} (hj : 8 ≤ j ∧ j ≤ 9) : M.1 (70 + j) i = nI (w j i) := by
  rw [← h]
  exact uPM_q _ _ _ hj
theorem uMd_6 {M : uM} {w : Nat → Nat → Nat} (h : uMd M w) : M.1 71 6 = nI (w 0 7) := by
  rw [← h]
  rfl
theorem uMd_7 {M : uM} {w : Nat → Nat → Nat} (h : uMd M w) : M.1 71 7 = nI (w 0 8) := by
  rw [← h]
  rfl
theorem uMd_10 {M : uM} {w : Nat → Nat → Nat} (h : uMd M w) : M.1 71 10 = nI (w 7 2) := by
  rw [← h]
  rfl
/-- what a call that only asks may have changed -/
def mK (a i : Nat) : Prop := a < 71 ∨ (71 < a ∧ a < 81) ∨ 94 ≤ a ∨ (a = 71 ∧ (i = 6 ∨ i = 7 ∨ i = 10 ∨ i = 12))
def mSm (M M2 : uM) : Prop := ∀ a i, mK a i → M2.1 a i = M.1 a i
theorem mSm_rf (M : uM) : mSm M M := fun _ _ _ => rfl
theorem mSm_tr {M M1 M2 : uM} (h : mSm M M1) (h2 : mSm M1 M2) : mSm M M2 := fun a i q => (h2 a i q).trans (h a i q)
theorem mSm_1 {M M1 : uM} {k j : Nat} {v : Int32} (h : mSm M M1) (hk : ¬ mK k j) : mSm M (u1 M1 k j v) := fun a i q => by
  rw [u1_1, if_neg (fun z => hk (by rw [← z.1, ← z.2]; exact q))]
  exact h a i q
theorem mSm_2 {M M1 : uM} {k j : Nat} {v : Int64} (h : mSm M M1) : mSm M (u2 M1 k j v) := fun a i q => h a i q
theorem mSm_r {M M1 : uM} {k : Nat} {f : Nat → Nat} (h : mSm M M1) (hk : 81 ≤ k ∧ k < 94) : mSm M (uAr M1 k f) := fun a i q => by
  unfold mK at q
  rw [uAr_o _ _ _ _ (by omega)]
  exact h a i (by unfold mK; omega)
theorem mSm_71 {M M1 : uM} {f : Nat → Nat} (h : mSm M M1) (hf : ∀ i, (i = 6 ∨ i = 7 ∨ i = 10 ∨ i = 12) → nI (f i) = M.1 71 i) : mSm M (uAr M1 71 f) := fun a i q => by
  by_cases z : a = 71
  · subst z
    rw [uAr_g]
    unfold mK at q
    exact hf i (by omega)
  · rw [uAr_o _ _ _ _ z]
    exact h a i q
theorem in_lt (x y : Int32) : x.toInt64 < y.toInt64 ↔ x < y := by
  rw [Int64.lt_iff_toInt_lt, Int32.lt_iff_toInt_lt, Int32.toInt_toInt64, Int32.toInt_toInt64]
theorem on_s0 : ∀ a, a < 256 → a ≠ 0 → uPop (a &&& (a - 1)) + 1 = uPop a ∧ (a &&& (a - 1)) < a := by decide +kernel
theorem qX12_isThing_88 : Cond.constantLong RX12 88 11 ∈ wsX12_isThing := List.mem_of_getElem? (i := 1) rfl
theorem qX12_isOne_94 : Cond.constantLong RX12 94 7 ∈ wsX12_isOne := List.mem_of_getElem? (i := 1) rfl
theorem qX12_isName_127 : Cond.constantLong RX12 127 65 ∈ wsX12_isName := List.mem_of_getElem? (i := 1) rfl
theorem qX12_isName_129 : Cond.constantLong RX12 129 72 ∈ wsX12_isName := List.mem_of_getElem? (i := 2) rfl
theorem qX12_isPiece_131 : Cond.constantLong RX12 131 97 ∈ wsX12_isPiece := List.mem_of_getElem? (i := 1) rfl
theorem qX12_isPiece_133 : Cond.constantLong RX12 133 108 ∈ wsX12_isPiece := List.mem_of_getElem? (i := 2) rfl
theorem qX12_thing_103 : Cond.constantLong RX12 103 9 ∈ wsX12_thing := List.mem_of_getElem? (i := 1) rfl
theorem qX12_thing_105 : Cond.constantLong RX12 105 99 ∈ wsX12_thing := List.mem_of_getElem? (i := 2) rfl
theorem qX12_thing_7 : Cond.fieldLink RX12 7 (TX12 0).1 (TX12 0).2.1 (TX12 0).2.2.1 ∈ wsX12_thing := List.mem_of_getElem? (i := 3) rfl
theorem iX12_thing_X12 : ∀ w ∈ wsX120, w ∈ wsX12_thing := fun _ h => List.mem_cons_of_mem _ (List.mem_append_right _ h)
theorem qX12_thing_13 : Cond.fieldLink RX12 13 (TX12 1).1 (TX12 1).2.1 (TX12 1).2.2.1 ∈ wsX12_thing := List.mem_of_getElem? (i := 4) rfl
theorem qX12_thing_16 : Cond.fieldLink RX12 16 (TX12 2).1 (TX12 2).2.1 (TX12 2).2.2.1 ∈ wsX12_thing := List.mem_of_getElem? (i := 5) rfl
theorem qX12_thing_19 : Cond.fieldLink RX12 19 (TX12 3).1 (TX12 3).2.1 (TX12 3).2.2.1 ∈ wsX12_thing := List.mem_of_getElem? (i := 6) rfl
theorem qX12_one_107 : Cond.constantLong RX12 107 9999 ∈ wsX12_one := List.mem_of_getElem? (i := 1) rfl
theorem qX12_one_22 : Cond.fieldLink RX12 22 (TX12 4).1 (TX12 4).2.1 (TX12 4).2.2.1 ∈ wsX12_one := List.mem_of_getElem? (i := 2) rfl
theorem iX12_one_X12 : ∀ w ∈ wsX120, w ∈ wsX12_one := fun _ h => List.mem_cons_of_mem _ (List.mem_append_right _ h)
theorem qX12_one_84 : Cond.fieldLink RX12 84 (TX12 6).1 (TX12 6).2.1 (TX12 6).2.2.1 ∈ wsX12_one := List.mem_of_getElem? (i := 3) rfl
theorem qX12_brothers_25 : Cond.fieldLink RX12 25 (TX12 5).1 (TX12 5).2.1 (TX12 5).2.2.1 ∈ wsX12_brothers := List.mem_of_getElem? (i := 1) rfl
theorem iX12_brothers_X12 : ∀ w ∈ wsX120, w ∈ wsX12_brothers := fun _ h => List.mem_cons_of_mem _ (List.mem_append_right _ h)
theorem qX12_say_117 : Cond.constantLong RX12 117 33 ∈ wsX12_say := List.mem_of_getElem? (i := 1) rfl
theorem qX12_say_119 : Cond.constantLong RX12 119 126 ∈ wsX12_say := List.mem_of_getElem? (i := 2) rfl
theorem qX12_say_121 : Cond.fieldLink RX12 121 (TX12 12).1 (TX12 12).2.1 (TX12 12).2.2.1 ∈ wsX12_say := List.mem_of_getElem? (i := 3) rfl
theorem iX12_say_X12 : ∀ w ∈ wsX120, w ∈ wsX12_say := fun _ h => List.mem_cons_of_mem _ (List.mem_append_right _ h)
theorem qX12_say_34 : Cond.fieldLink RX12 34 (TX12 11).1 (TX12 11).2.1 (TX12 11).2.2.1 ∈ wsX12_say := List.mem_of_getElem? (i := 4) rfl
theorem qX12_wipe_121 : Cond.fieldLink RX12 121 (TX12 12).1 (TX12 12).2.1 (TX12 12).2.2.1 ∈ wsX12_wipe := List.mem_of_getElem? (i := 1) rfl
theorem iX12_wipe_X12 : ∀ w ∈ wsX120, w ∈ wsX12_wipe := fun _ h => List.mem_cons_of_mem _ (List.mem_append_right _ h)
theorem qX12_ahead_298 : Cond.constantLong RX12 298 4 ∈ wsX12_ahead := List.mem_of_getElem? (i := 1) rfl
theorem qX12_ahead_300 : Cond.fieldLink RX12 300 (TX12 10).1 (TX12 10).2.1 (TX12 10).2.2.1 ∈ wsX12_ahead := List.mem_of_getElem? (i := 2) rfl
theorem iX12_ahead_X12 : ∀ w ∈ wsX120, w ∈ wsX12_ahead := fun _ h => List.mem_cons_of_mem _ (List.mem_append_right _ h)
theorem qX12_ahead_28 : Cond.fieldLink RX12 28 (TX12 8).1 (TX12 8).2.1 (TX12 8).2.2.1 ∈ wsX12_ahead := List.mem_of_getElem? (i := 3) rfl
theorem qX12_ahead_31 : Cond.fieldLink RX12 31 (TX12 9).1 (TX12 9).2.1 (TX12 9).2.2.1 ∈ wsX12_ahead := List.mem_of_getElem? (i := 4) rfl
theorem qX12_forget_300 : Cond.fieldLink RX12 300 (TX12 10).1 (TX12 10).2.1 (TX12 10).2.2.1 ∈ wsX12_forget := List.mem_of_getElem? (i := 1) rfl
theorem iX12_forget_X12 : ∀ w ∈ wsX120, w ∈ wsX12_forget := fun _ h => List.mem_cons_of_mem _ (List.mem_append_right _ h)
theorem qX12_ofThing_7 : Cond.fieldLink RX12 7 (TX12 0).1 (TX12 0).2.1 (TX12 0).2.2.1 ∈ wsX12_ofThing := List.mem_of_getElem? (i := 1) rfl
theorem iX12_ofThing_X12 : ∀ w ∈ wsX120, w ∈ wsX12_ofThing := fun _ h => List.mem_cons_of_mem _ (List.mem_append_right _ h)
theorem qX12_ofThing_13 : Cond.fieldLink RX12 13 (TX12 1).1 (TX12 1).2.1 (TX12 1).2.2.1 ∈ wsX12_ofThing := List.mem_of_getElem? (i := 2) rfl
theorem qX12_ofThing_16 : Cond.fieldLink RX12 16 (TX12 2).1 (TX12 2).2.1 (TX12 2).2.2.1 ∈ wsX12_ofThing := List.mem_of_getElem? (i := 3) rfl
theorem qX12_ofThing_19 : Cond.fieldLink RX12 19 (TX12 3).1 (TX12 3).2.1 (TX12 3).2.2.1 ∈ wsX12_ofThing := List.mem_of_getElem? (i := 4) rfl
theorem qX12_told_364 : Cond.constantLong RX12 364 100 ∈ wsX12_told := List.mem_of_getElem? (i := 1) rfl
theorem qX12_told_366 : Cond.constantLong RX12 366 219 ∈ wsX12_told := List.mem_of_getElem? (i := 2) rfl
theorem qX12_told_272 : Cond.constantLong RX12 272 10 ∈ wsX12_told := List.mem_of_getElem? (i := 3) rfl
theorem qX12_told_371 : Cond.constantLong RX12 371 17 ∈ wsX12_told := List.mem_of_getElem? (i := 4) rfl
theorem qX12_told_22 : Cond.fieldLink RX12 22 (TX12 4).1 (TX12 4).2.1 (TX12 4).2.2.1 ∈ wsX12_told := List.mem_of_getElem? (i := 5) rfl
theorem iX12_told_X12 : ∀ w ∈ wsX120, w ∈ wsX12_told := fun _ h => List.mem_cons_of_mem _ (List.mem_append_right _ h)
theorem qX12_told_373 : Cond.constantLong RX12 373 20 ∈ wsX12_told := List.mem_of_getElem? (i := 6) rfl
theorem qX12_told_375 : Cond.constantLong RX12 375 27 ∈ wsX12_told := List.mem_of_getElem? (i := 7) rfl
theorem qX12_told_25 : Cond.fieldLink RX12 25 (TX12 5).1 (TX12 5).2.1 (TX12 5).2.2.1 ∈ wsX12_told := List.mem_of_getElem? (i := 8) rfl
theorem qX12_told_121 : Cond.fieldLink RX12 121 (TX12 12).1 (TX12 12).2.1 (TX12 12).2.2.1 ∈ wsX12_told := List.mem_of_getElem? (i := 9) rfl
theorem qX12_told_84 : Cond.fieldLink RX12 84 (TX12 6).1 (TX12 6).2.1 (TX12 6).2.2.1 ∈ wsX12_told := List.mem_of_getElem? (i := 10) rfl
theorem qX12_told_180 : Cond.fieldLink RX12 180 (TX12 7).1 (TX12 7).2.1 (TX12 7).2.2.1 ∈ wsX12_told := List.mem_of_getElem? (i := 11) rfl
theorem qX12_told_300 : Cond.fieldLink RX12 300 (TX12 10).1 (TX12 10).2.1 (TX12 10).2.2.1 ∈ wsX12_told := List.mem_of_getElem? (i := 12) rfl
set_option maxHeartbeats 4000000 in
set_option maxRecDepth 100000 in
theorem c_X12_in (l : Launch) (G : uG) (x lo hi : Int32) (a b c0 : Int64) (ha : a = x.toInt64) (hb : b = lo.toInt64) (hc : c0 = hi.toInt64) (M : uM) : CTi l G yX12_in wsX12_in 0 0 [.long a, .long b, .long c0] M (fun r M2 => ((r = 1 ∧ inr x lo hi) ∨ (r = 0 ∧ ¬ inr x lo hi)) ∧ M2 = M) := by
  refine ustart_i (cc := cX12_in) (maxL := 6) (ret := (some .boolean)) (own := RX12) rfl (by decide) rfl (Nat.le_of_ble_eq_true rfl) ?_
  intro xp xe xs xm xa xb xt xc xA ls S hK hA Z hre hlk hl
  have hl : lv_has ls 6 [(0, .long a), (2, .long b), (4, .long c0)] := hl
  refine lv_lload_n S.1 S.2.1 dX12_in_0 rfl (lv_at hl 0 rfl) ?_
  refine lv_lload_n S.1 S.2.1 dX12_in_1 rfl (lv_at hl 1 rfl) ?_
  refine W.lcmp S.1 S.2.1 dX12_in_2 ?_
  refine lv_if_lt (tgt := 17) S.1 S.2.1 dX12_in_3 (by decide) (fun c_1 => ?_) (fun c_1 => ?_)
  · skip
    have c_1 : a < b := (lg_cmp_lt a b).mp c_1
    refine lv_iconst (v := 0) S.1 S.2.1 dX12_in_17 (by decide) ?_
    refine uret_z S hK Z hre hlk (by decide) dX12_in_18 ?_
    refine ⟨Or.inr ⟨rfl, fun q => ?_⟩, rfl⟩
    first
      | (rw [ha, hc, in_lt] at c_2; exact absurd q.2 (Int32.not_le.mpr c_2))
      | (rw [ha, hb, in_lt] at c_1; exact absurd q.1 (Int32.not_le.mpr c_1))
  · skip
    have c_1 : ¬ a < b := fun z9 => c_1 ((lg_cmp_lt a b).mpr z9)
    refine lv_lload_n S.1 S.2.1 dX12_in_6 rfl (lv_at hl 0 rfl) ?_
    refine lv_lload S.1 S.2.1 dX12_in_7 (lv_at hl 2 rfl) ?_
    refine W.lcmp S.1 S.2.1 dX12_in_9 ?_
    refine lv_if_gt (tgt := 17) S.1 S.2.1 dX12_in_10 (by decide) (fun c_2 => ?_) (fun c_2 => ?_)
    · skip
      have c_2 : c0 < a := (lg_cmp_gt a c0).mp c_2
      refine lv_iconst (v := 0) S.1 S.2.1 dX12_in_17 (by decide) ?_
      refine uret_z S hK Z hre hlk (by decide) dX12_in_18 ?_
      refine ⟨Or.inr ⟨rfl, fun q => ?_⟩, rfl⟩
      first
        | (rw [ha, hc, in_lt] at c_2; exact absurd q.2 (Int32.not_le.mpr c_2))
        | (rw [ha, hb, in_lt] at c_1; exact absurd q.1 (Int32.not_le.mpr c_1))
    · skip
      have c_2 : ¬ c0 < a := fun z9 => c_2 ((lg_cmp_gt a c0).mpr z9)
      refine lv_iconst (v := 1) S.1 S.2.1 dX12_in_13 (by decide) ?_
      refine lv_goto (tgt := 18) S.1 S.2.1 dX12_in_14 (by decide) ?_
      refine uret_z S hK Z hre hlk (by decide) dX12_in_18 ?_
      rw [ha, hb, in_lt] at c_1
      rw [ha, hc, in_lt] at c_2
      exact ⟨Or.inl ⟨rfl, Int32.not_lt.mp c_1, Int32.not_lt.mp c_2⟩, rfl⟩
set_option maxHeartbeats 4000000 in
set_option maxRecDepth 100000 in
theorem c_X12_isThing (l : Launch) (G : uG) (x : Int32) (M : uM) : CTi l G yX12_isThing wsX12_isThing 1 25 [.int x] M (fun r M2 => ((r = 1 ∧ inr x 0 11) ∨ (r = 0 ∧ ¬ inr x 0 11)) ∧ M2 = M) := by
  refine ustart_i (cc := cX12_isThing) (maxL := 1) (ret := (some .boolean)) (own := RX12) rfl (by decide) rfl (Nat.le_of_ble_eq_true rfl) ?_
  intro xp xe xs xm xa xb xt xc xA ls S hK hA Z hre hlk hl
  have hl : lv_has ls 1 [(0, .int x)] := hl
  refine lv_iload_n S.1 S.2.1 dX12_isThing_0 rfl (lv_at hl 0 rfl) ?_
  refine lv_i2l (v := x.toInt64) S.1 S.2.1 dX12_isThing_1 rfl ?_
  refine lv_lconst (v := 0) S.1 S.2.1 dX12_isThing_2 (by decide) ?_
  refine lv_ldc2 (v := 11) S.1 S.2.1 S.2.2.2.1 (S.2.2.2.2 _ qX12_isThing_88) dX12_isThing_3 ?_
  refine uc_Si (As := [.long x.toInt64, .long 0, .long 11]) (rest := []) S hK hA Z (c_X12_in l G x 0 11 _ _ _ rfl (by decide) (by decide) M) (va_cwS 3 S.2.2.2.2 gX12_isThing_X12_in rfl rfl rfl (by decide +kernel) ⟨Nat.le_of_ble_eq_true rfl, Nat.le_of_ble_eq_true rfl⟩) rfl hl.1 rfl (Nat.le_of_ble_eq_true rfl) dX12_isThing_6 ⟨Nat.zero_le _, Nat.zero_le _⟩ (fun r_1 M_1 H locs hp Z => ?_)
  obtain ⟨⟨rfl, w_1⟩ | ⟨rfl, w_1⟩, hM_1⟩ := hp
  · skip
    rw [hM_1] at Z
    refine uret_z S hK Z hre hlk (by decide) dX12_isThing_9 ?_
    exact ⟨Or.inl ⟨rfl, by assumption⟩, rfl⟩
  · skip
    rw [hM_1] at Z
    refine uret_z S hK Z hre hlk (by decide) dX12_isThing_9 ?_
    exact ⟨Or.inr ⟨rfl, by assumption⟩, rfl⟩
set_option maxHeartbeats 4000000 in
set_option maxRecDepth 100000 in
theorem c_X12_isOne (l : Launch) (G : uG) (x : Int32) (M : uM) : CTi l G yX12_isOne wsX12_isOne 1 25 [.int x] M (fun r M2 => ((r = 1 ∧ inr x 0 7) ∨ (r = 0 ∧ ¬ inr x 0 7)) ∧ M2 = M) := by
  refine ustart_i (cc := cX12_isOne) (maxL := 1) (ret := (some .boolean)) (own := RX12) rfl (by decide) rfl (Nat.le_of_ble_eq_true rfl) ?_
  intro xp xe xs xm xa xb xt xc xA ls S hK hA Z hre hlk hl
  have hl : lv_has ls 1 [(0, .int x)] := hl
  refine lv_iload_n S.1 S.2.1 dX12_isOne_0 rfl (lv_at hl 0 rfl) ?_
  refine lv_i2l (v := x.toInt64) S.1 S.2.1 dX12_isOne_1 rfl ?_
  refine lv_lconst (v := 0) S.1 S.2.1 dX12_isOne_2 (by decide) ?_
  refine lv_ldc2 (v := 7) S.1 S.2.1 S.2.2.2.1 (S.2.2.2.2 _ qX12_isOne_94) dX12_isOne_3 ?_
  refine uc_Si (As := [.long x.toInt64, .long 0, .long 7]) (rest := []) S hK hA Z (c_X12_in l G x 0 7 _ _ _ rfl (by decide) (by decide) M) (va_cwS 3 S.2.2.2.2 gX12_isOne_X12_in rfl rfl rfl (by decide +kernel) ⟨Nat.le_of_ble_eq_true rfl, Nat.le_of_ble_eq_true rfl⟩) rfl hl.1 rfl (Nat.le_of_ble_eq_true rfl) dX12_isOne_6 ⟨Nat.zero_le _, Nat.zero_le _⟩ (fun r_1 M_1 H locs hp Z => ?_)
  obtain ⟨⟨rfl, w_1⟩ | ⟨rfl, w_1⟩, hM_1⟩ := hp
  · skip
    rw [hM_1] at Z
    refine uret_z S hK Z hre hlk (by decide) dX12_isOne_9 ?_
    exact ⟨Or.inl ⟨rfl, by assumption⟩, rfl⟩
  · skip
    rw [hM_1] at Z
    refine uret_z S hK Z hre hlk (by decide) dX12_isOne_9 ?_
    exact ⟨Or.inr ⟨rfl, by assumption⟩, rfl⟩
set_option maxHeartbeats 4000000 in
set_option maxRecDepth 100000 in
theorem c_X12_isName (l : Launch) (G : uG) (x : Int32) (M : uM) : CTi l G yX12_isName wsX12_isName 1 25 [.int x] M (fun r M2 => ((r = 1 ∧ inr x 65 72) ∨ (r = 0 ∧ ¬ inr x 65 72)) ∧ M2 = M) := by
  refine ustart_i (cc := cX12_isName) (maxL := 1) (ret := (some .boolean)) (own := RX12) rfl (by decide) rfl (Nat.le_of_ble_eq_true rfl) ?_
  intro xp xe xs xm xa xb xt xc xA ls S hK hA Z hre hlk hl
  have hl : lv_has ls 1 [(0, .int x)] := hl
  refine lv_iload_n S.1 S.2.1 dX12_isName_0 rfl (lv_at hl 0 rfl) ?_
  refine lv_i2l (v := x.toInt64) S.1 S.2.1 dX12_isName_1 rfl ?_
  refine lv_ldc2 (v := 65) S.1 S.2.1 S.2.2.2.1 (S.2.2.2.2 _ qX12_isName_127) dX12_isName_2 ?_
  refine lv_ldc2 (v := 72) S.1 S.2.1 S.2.2.2.1 (S.2.2.2.2 _ qX12_isName_129) dX12_isName_5 ?_
  refine uc_Si (As := [.long x.toInt64, .long 65, .long 72]) (rest := []) S hK hA Z (c_X12_in l G x 65 72 _ _ _ rfl (by decide) (by decide) M) (va_cwS 3 S.2.2.2.2 gX12_isName_X12_in rfl rfl rfl (by decide +kernel) ⟨Nat.le_of_ble_eq_true rfl, Nat.le_of_ble_eq_true rfl⟩) rfl hl.1 rfl (Nat.le_of_ble_eq_true rfl) dX12_isName_8 ⟨Nat.zero_le _, Nat.zero_le _⟩ (fun r_1 M_1 H locs hp Z => ?_)
  obtain ⟨⟨rfl, w_1⟩ | ⟨rfl, w_1⟩, hM_1⟩ := hp
  · skip
    rw [hM_1] at Z
    refine uret_z S hK Z hre hlk (by decide) dX12_isName_11 ?_
    exact ⟨Or.inl ⟨rfl, by assumption⟩, rfl⟩
  · skip
    rw [hM_1] at Z
    refine uret_z S hK Z hre hlk (by decide) dX12_isName_11 ?_
    exact ⟨Or.inr ⟨rfl, by assumption⟩, rfl⟩
set_option maxHeartbeats 4000000 in
set_option maxRecDepth 100000 in
theorem c_X12_isPiece (l : Launch) (G : uG) (x : Int32) (M : uM) : CTi l G yX12_isPiece wsX12_isPiece 1 25 [.int x] M (fun r M2 => ((r = 1 ∧ inr x 97 108) ∨ (r = 0 ∧ ¬ inr x 97 108)) ∧ M2 = M) := by
  refine ustart_i (cc := cX12_isPiece) (maxL := 1) (ret := (some .boolean)) (own := RX12) rfl (by decide) rfl (Nat.le_of_ble_eq_true rfl) ?_
  intro xp xe xs xm xa xb xt xc xA ls S hK hA Z hre hlk hl
  have hl : lv_has ls 1 [(0, .int x)] := hl
  refine lv_iload_n S.1 S.2.1 dX12_isPiece_0 rfl (lv_at hl 0 rfl) ?_
  refine lv_i2l (v := x.toInt64) S.1 S.2.1 dX12_isPiece_1 rfl ?_
  refine lv_ldc2 (v := 97) S.1 S.2.1 S.2.2.2.1 (S.2.2.2.2 _ qX12_isPiece_131) dX12_isPiece_2 ?_
  refine lv_ldc2 (v := 108) S.1 S.2.1 S.2.2.2.1 (S.2.2.2.2 _ qX12_isPiece_133) dX12_isPiece_5 ?_
  refine uc_Si (As := [.long x.toInt64, .long 97, .long 108]) (rest := []) S hK hA Z (c_X12_in l G x 97 108 _ _ _ rfl (by decide) (by decide) M) (va_cwS 3 S.2.2.2.2 gX12_isPiece_X12_in rfl rfl rfl (by decide +kernel) ⟨Nat.le_of_ble_eq_true rfl, Nat.le_of_ble_eq_true rfl⟩) rfl hl.1 rfl (Nat.le_of_ble_eq_true rfl) dX12_isPiece_8 ⟨Nat.zero_le _, Nat.zero_le _⟩ (fun r_1 M_1 H locs hp Z => ?_)
  obtain ⟨⟨rfl, w_1⟩ | ⟨rfl, w_1⟩, hM_1⟩ := hp
  · skip
    rw [hM_1] at Z
    refine uret_z S hK Z hre hlk (by decide) dX12_isPiece_11 ?_
    exact ⟨Or.inl ⟨rfl, by assumption⟩, rfl⟩
  · skip
    rw [hM_1] at Z
    refine uret_z S hK Z hre hlk (by decide) dX12_isPiece_11 ?_
    exact ⟨Or.inr ⟨rfl, by assumption⟩, rfl⟩
set_option maxHeartbeats 4000000 in
set_option maxRecDepth 100000 in
theorem c_X12_has (l : Launch) (G : uG) (st k : Nat) (hs : st < 2147483648) (hk : k < 31) (M : uM) : CTi l G yX12_has wsX12_has 0 0 [.int (nI st), .int (nI k)] M (fun r M2 => ((r = 1 ∧ st / 2 ^ k % 2 = 1) ∨ (r = 0 ∧ ¬ st / 2 ^ k % 2 = 1)) ∧ M2 = M) := by
  refine ustart_i (cc := cX12_has) (maxL := 2) (ret := (some .boolean)) (own := RX12) rfl (by decide) rfl (Nat.le_of_ble_eq_true rfl) ?_
  intro xp xe xs xm xa xb xt xc xA ls S hK hA Z hre hlk hl
  have hl : lv_has ls 2 [(0, .int (nI st)), (1, .int (nI k))] := hl
  refine lv_iload_n S.1 S.2.1 dX12_has_0 rfl (lv_at hl 0 rfl) ?_
  refine lv_iload_n S.1 S.2.1 dX12_has_1 rfl (lv_at hl 1 rfl) ?_
  refine lv_ishr S.1 S.2.1 dX12_has_2 ?_
  refine lv_iconst (v := 1) S.1 S.2.1 dX12_has_3 (by decide) ?_
  refine lv_iand S.1 S.2.1 dX12_has_4 ?_
  refine utop (u_bit (a := st) (k := k) (by omega) (by omega)) ?_
  refine lv_iconst (v := 1) S.1 S.2.1 dX12_has_5 (by decide) ?_
  refine lv_icmp_ne (tgt := 13) S.1 S.2.1 dX12_has_6 (by decide) (fun c_1 => ?_) (fun c_1 => ?_)
  · skip
    have c_1 : ¬ (st / 2 ^ k % 2) = 1 := fun z9 => c_1 ((nI_eq (a := (st / 2 ^ k % 2)) (b := 1) (by omega) (by omega)).mpr z9)
    refine lv_iconst (v := 0) S.1 S.2.1 dX12_has_13 (by decide) ?_
    refine uret_z S hK Z hre hlk (by decide) dX12_has_14 ?_
    exact ⟨Or.inr ⟨rfl, by assumption⟩, rfl⟩
  · skip
    have c_1 : (st / 2 ^ k % 2) = 1 := (nI_eq (a := (st / 2 ^ k % 2)) (b := 1) (by omega) (by omega)).mp c_1
    refine lv_iconst (v := 1) S.1 S.2.1 dX12_has_9 (by decide) ?_
    refine lv_goto (tgt := 14) S.1 S.2.1 dX12_has_10 (by decide) ?_
    refine uret_z S hK Z hre hlk (by decide) dX12_has_14 ?_
    exact ⟨Or.inl ⟨rfl, by assumption⟩, rfl⟩
set_option maxHeartbeats 4000000 in
set_option maxRecDepth 100000 in
theorem c_X12_with1 (l : Launch) (G : uG) (a k : Nat) (ha : a < 256) (hk : k < 8) (M : uM) : CTi l G yX12_with wsX12_with 0 0 [.int (nI a), .int (nI k), .int 1] M (fun r M2 => r = nI (a ||| 2 ^ k) ∧ M2 = M) := by
  refine ustart_i (cc := cX12_with) (maxL := 3) (ret := (some .int)) (own := RX12) rfl (by decide) rfl (Nat.le_of_ble_eq_true rfl) ?_
  intro xp xe xs xm xa xb xt xc xA ls S hK hA Z hre hlk hl
  have hl : lv_has ls 3 [(0, .int (nI a)), (1, .int (nI k)), (2, .int 1)] := hl
  refine lv_iload_n S.1 S.2.1 dX12_with_0 rfl (lv_at hl 2 rfl) ?_
  refine lv_if_eq (tgt := 12) S.1 S.2.1 dX12_with_1 (by decide) (fun c => absurd c (by decide)) (fun _ => ?_)
  refine lv_iload_n S.1 S.2.1 dX12_with_4 rfl (lv_at hl 0 rfl) ?_
  refine lv_iconst (v := 1) S.1 S.2.1 dX12_with_5 (by decide) ?_
  refine lv_iload_n S.1 S.2.1 dX12_with_6 rfl (lv_at hl 1 rfl) ?_
  refine lv_ishl S.1 S.2.1 dX12_with_7 ?_
  refine utop (u_shl1 (k := k) (by omega)) ?_
  refine lv_ior S.1 S.2.1 dX12_with_8 ?_
  refine utop (nx_or a (2 ^ k)) ?_
  refine lv_goto (tgt := 19) S.1 S.2.1 dX12_with_9 (by decide) ?_
  refine uret_i S hK Z hre hlk dX12_with_19 ?_
  exact ⟨rfl, rfl⟩
set_option maxHeartbeats 4000000 in
set_option maxRecDepth 100000 in
theorem c_X12_with0 (l : Launch) (G : uG) (a k : Nat) (ha : a < 256) (hk : k < 8) (M : uM) : CTi l G yX12_with wsX12_with 0 0 [.int (nI a), .int (nI k), .int 0] M (fun r M2 => r = nI (uClr a k) ∧ M2 = M) := by
  refine ustart_i (cc := cX12_with) (maxL := 3) (ret := (some .int)) (own := RX12) rfl (by decide) rfl (Nat.le_of_ble_eq_true rfl) ?_
  intro xp xe xs xm xa xb xt xc xA ls S hK hA Z hre hlk hl
  have hl : lv_has ls 3 [(0, .int (nI a)), (1, .int (nI k)), (2, .int 0)] := hl
  refine lv_iload_n S.1 S.2.1 dX12_with_0 rfl (lv_at hl 2 rfl) ?_
  refine lv_if_eq (tgt := 12) S.1 S.2.1 dX12_with_1 (by decide) (fun _ => ?_) (fun c => absurd c (by decide))
  refine lv_iload_n S.1 S.2.1 dX12_with_12 rfl (lv_at hl 0 rfl) ?_
  refine lv_iconst (v := 1) S.1 S.2.1 dX12_with_13 (by decide) ?_
  refine lv_iload_n S.1 S.2.1 dX12_with_14 rfl (lv_at hl 1 rfl) ?_
  refine lv_ishl S.1 S.2.1 dX12_with_15 ?_
  refine utop (u_shl1 (k := k) (by omega)) ?_
  refine lv_iconst (v := (-1)) S.1 S.2.1 dX12_with_16 (by decide) ?_
  refine lv_ixor S.1 S.2.1 dX12_with_17 ?_
  refine lv_iand S.1 S.2.1 dX12_with_18 ?_
  refine utop (u_clr (a := a) (k := k) (by omega) (by omega)) ?_
  refine uret_i S hK Z hre hlk dX12_with_19 ?_
  exact ⟨rfl, rfl⟩
set_option maxHeartbeats 4000000 in
set_option maxRecDepth 100000 in
theorem c_X12_ones (l : Launch) (G : uG) (a : Nat) (ha : a < 256) (M : uM) : CTi l G yX12_ones wsX12_ones 0 0 [.int (nI a)] M (fun r M2 => r = nI (uPop a) ∧ M2 = M) := by
  refine ustart_i (cc := cX12_ones) (maxL := 3) (ret := (some .int)) (own := RX12) rfl (by decide) rfl (Nat.le_of_ble_eq_true rfl) ?_
  intro xp xe xs xm xa xb xt xc xA ls S hK hA Z hre hlk hl
  have hl : lv_has ls 3 [(0, .int (nI a))] := hl
  refine lv_iconst (v := 0) S.1 S.2.1 dX12_ones_0 (by decide) ?_
  refine lv_istore_n (lv' := [(1, .int 0), (0, .int (nI a))]) S.1 S.2.1 dX12_ones_1 rfl hl (by decide) rfl (fun ls hl => ?_)
  refine lv_iload_n S.1 S.2.1 dX12_ones_2 rfl (lv_at hl 1 rfl) ?_
  refine lv_istore_n (lv' := [(2, .int (nI a)), (1, .int 0), (0, .int (nI a))]) S.1 S.2.1 dX12_ones_3 rfl hl (by decide) rfl (fun ls hl => ?_)
  have LP4 : ∀ (fU : Nat) (n : Nat) (b : Nat), (b < fU) → (b < 256) → (n + uPop b = uPop a) → ∀ (H : Heap) (locs : List Loc) (ls : Array Slot), uZ G xA M xs.heap H locs → lv_has ls 3 [(2, .int (nI b)), (1, .int (nI n)), (0, .int (nI a))] → W xp l xe (uRm 0 0) xs xm xa xb xt xc H locs 0 0 (MQ xb (va_Qi (fun r M2 => r = nI (uPop a) ∧ M2 = M) (fun M' t => uB G M' t) xA) xa xs 0 0 xA) (F0 xm 4 ls []) := by
    intro fU
    induction fU with
    | zero =>
      intro n b hfl i1 i2 H locs ls Z hl
      exfalso
      omega
    | succ fU ih4 =>
      intro n b hfl i1 i2 H locs ls Z hl
      have o1 := on_s0 b i1
      refine lv_iload_n S.1 S.2.1 dX12_ones_4 rfl (lv_at hl 0 rfl) ?_
      refine lv_if_eq (tgt := 20) S.1 S.2.1 dX12_ones_5 (by decide) (fun c_1 => ?_) (fun c_1 => ?_)
      · skip
        have c_1 : b = 0 := (nI_eq (a := b) (b := 0) (by omega) (by omega)).mp c_1
        refine lv_iload_n S.1 S.2.1 dX12_ones_20 rfl (lv_at hl 1 rfl) ?_
        refine uret_i S hK Z hre hlk dX12_ones_21 ?_
        have o4 : uPop b = 0 := by
          rw [show b = 0 by assumption]
          rfl
        rw [← i2, o4]
        exact ⟨rfl, rfl⟩
      · skip
        have c_1 : ¬ b = 0 := fun z9 => c_1 ((nI_eq (a := b) (b := 0) (by omega) (by omega)).mpr z9)
        obtain ⟨o2, o3⟩ := o1 (by assumption)
        refine lv_iinc (v := (nI (n + 1))) (lv' := [(1, .int (nI (n + 1))), (2, .int (nI b)), (0, .int (nI a))]) S.1 S.2.1 dX12_ones_8 hl (k := 1) rfl (u_inc1 n) (by decide) rfl (fun ls hl => ?_)
        refine lv_iload_n S.1 S.2.1 dX12_ones_11 rfl (lv_at hl 1 rfl) ?_
        refine lv_iload_n S.1 S.2.1 dX12_ones_12 rfl (lv_at hl 1 rfl) ?_
        refine lv_iconst (v := 1) S.1 S.2.1 dX12_ones_13 (by decide) ?_
        refine lv_isub S.1 S.2.1 dX12_ones_14 ?_
        refine utop (pk_sub (a := b) (b := 1) (by omega)) ?_
        refine lv_iand S.1 S.2.1 dX12_ones_15 ?_
        refine utop (nx_and b (b - 1)) ?_
        refine lv_istore_n (lv' := [(2, .int (nI (b &&& (b - 1)))), (1, .int (nI (n + 1))), (0, .int (nI a))]) S.1 S.2.1 dX12_ones_16 rfl hl (by decide) rfl (fun ls hl => ?_)
        refine lv_goto (tgt := 4) S.1 S.2.1 dX12_ones_17 (by decide) ?_
        exact ih4 (n + 1) (b &&& (b - 1)) (by omega) (by omega) (by omega) _ _ _ Z (lv_sub hl [0, 1, 2] rfl)
  exact LP4 (a + 1) 0 a (by omega) (by omega) (by omega) _ _ _ Z (lv_sub hl [0, 1, 2] rfl)
set_option maxHeartbeats 4000000 in
set_option maxRecDepth 100000 in
theorem c_X12_thing (l : Launch) (G : uG) (x o a v g : Int32) (M : uM) (w : Nat → Nat → Nat) : CTi l G yX12_thing wsX12_thing 2 45 [.ref (G.2.2 71), .int x, .int o, .int a, .int v, .int g] (uPM M w) (fun r M2 => r = (spThing w x o a v g).1 ∧ M2 = uPM M (spThing w x o a v g).2) := by
  refine ustart_i (cc := cX12_thing) (maxL := 7) (ret := (some .int)) (own := RX12) rfl (by decide) rfl (Nat.le_of_ble_eq_true rfl) ?_
  intro xp xe xs xm xa xb xt xc xA ls S hK hA Z hre hlk hl
  have hl : lv_has ls 7 [(0, .ref (G.2.2 71)), (1, .int x), (2, .int o), (3, .int a), (4, .int v), (5, .int g)] := hl
  refine lv_iload_n S.1 S.2.1 dX12_thing_0 rfl (lv_at hl 1 rfl) ?_
  refine uc_Si (As := [.int x]) (rest := []) S hK hA Z (c_X12_isThing l G x (uPM M w)) (va_cwS 1 S.2.2.2.2 gX12_thing_X12_isThing rfl rfl rfl (by decide +kernel) ⟨Nat.le_of_ble_eq_true rfl, Nat.le_of_ble_eq_true rfl⟩) rfl hl.1 rfl (Nat.le_of_ble_eq_true rfl) dX12_thing_1 ⟨Nat.zero_le _, Nat.zero_le _⟩ (fun r_1 M_1 H locs hp Z => ?_)
  obtain ⟨⟨rfl, w_1⟩ | ⟨rfl, w_1⟩, hM_1⟩ := hp
  · skip
    rw [hM_1] at Z
    refine lv_if_eq (tgt := 14) S.1 S.2.1 dX12_thing_4 (by decide) (fun c => absurd c (by decide)) (fun _ => ?_)
    refine lv_iload_n S.1 S.2.1 dX12_thing_7 rfl (lv_at hl 2 rfl) ?_
    refine uc_Si (As := [.int o]) (rest := []) S hK hA Z (c_X12_isOne l G o (uPM M w)) (va_cwS 1 S.2.2.2.2 gX12_thing_X12_isOne rfl rfl rfl (by decide +kernel) ⟨Nat.le_of_ble_eq_true rfl, Nat.le_of_ble_eq_true rfl⟩) rfl hl.1 rfl (Nat.le_of_ble_eq_true rfl) dX12_thing_8 ⟨Nat.zero_le _, Nat.zero_le _⟩ (fun r_3 M_3 H locs hp Z => ?_)
    obtain ⟨⟨rfl, w_3⟩ | ⟨rfl, w_3⟩, hM_3⟩ := hp
    · skip
      rw [hM_3] at Z
      refine lv_if_ne (tgt := 16) S.1 S.2.1 dX12_thing_11 (by decide) (fun _ => ?_) (fun c => absurd c (by decide))
      refine lv_iload_n S.1 S.2.1 dX12_thing_16 rfl (lv_at hl 3 rfl) ?_
      refine lv_i2l (v := a.toInt64) S.1 S.2.1 dX12_thing_17 rfl ?_
      refine lv_lconst (v := 0) S.1 S.2.1 dX12_thing_18 (by decide) ?_
      refine lv_ldc2 (v := 9) S.1 S.2.1 S.2.2.2.1 (S.2.2.2.2 _ qX12_thing_103) dX12_thing_19 ?_
      refine uc_Si (As := [.long a.toInt64, .long 0, .long 9]) (rest := []) S hK hA Z (c_X12_in l G a 0 9 _ _ _ rfl (by decide) (by decide) (uPM M w)) (va_cwS 3 S.2.2.2.2 gX12_thing_X12_in rfl rfl rfl (by decide +kernel) ⟨Nat.le_of_ble_eq_true rfl, Nat.le_of_ble_eq_true rfl⟩) rfl hl.1 rfl (Nat.le_of_ble_eq_true rfl) dX12_thing_22 ⟨Nat.zero_le _, Nat.zero_le _⟩ (fun r_5 M_5 H locs hp Z => ?_)
      obtain ⟨⟨rfl, w_5⟩ | ⟨rfl, w_5⟩, hM_5⟩ := hp
      · skip
        rw [hM_5] at Z
        refine lv_if_eq (tgt := 54) S.1 S.2.1 dX12_thing_25 (by decide) (fun c => absurd c (by decide)) (fun _ => ?_)
        refine lv_iload S.1 S.2.1 dX12_thing_28 (lv_at hl 4 rfl) ?_
        refine lv_i2l (v := v.toInt64) S.1 S.2.1 dX12_thing_30 rfl ?_
        refine lv_lconst (v := 0) S.1 S.2.1 dX12_thing_31 (by decide) ?_
        refine lv_ldc2 (v := 99) S.1 S.2.1 S.2.2.2.1 (S.2.2.2.2 _ qX12_thing_105) dX12_thing_32 ?_
        refine uc_Si (As := [.long v.toInt64, .long 0, .long 99]) (rest := []) S hK hA Z (c_X12_in l G v 0 99 _ _ _ rfl (by decide) (by decide) (uPM M w)) (va_cwS 3 S.2.2.2.2 gX12_thing_X12_in rfl rfl rfl (by decide +kernel) ⟨Nat.le_of_ble_eq_true rfl, Nat.le_of_ble_eq_true rfl⟩) rfl hl.1 rfl (Nat.le_of_ble_eq_true rfl) dX12_thing_35 ⟨Nat.zero_le _, Nat.zero_le _⟩ (fun r_7 M_7 H locs hp Z => ?_)
        obtain ⟨⟨rfl, w_7⟩ | ⟨rfl, w_7⟩, hM_7⟩ := hp
        · skip
          rw [hM_7] at Z
          refine lv_if_eq (tgt := 54) S.1 S.2.1 dX12_thing_38 (by decide) (fun c => absurd c (by decide)) (fun _ => ?_)
          refine lv_iload S.1 S.2.1 dX12_thing_41 (lv_at hl 5 rfl) ?_
          refine lv_i2l (v := g.toInt64) S.1 S.2.1 dX12_thing_43 rfl ?_
          refine lv_lconst (v := 1) S.1 S.2.1 dX12_thing_44 (by decide) ?_
          refine lv_ldc2 (v := 9) S.1 S.2.1 S.2.2.2.1 (S.2.2.2.2 _ qX12_thing_103) dX12_thing_45 ?_
          refine uc_Si (As := [.long g.toInt64, .long 1, .long 9]) (rest := []) S hK hA Z (c_X12_in l G g 1 9 _ _ _ rfl (by decide) (by decide) (uPM M w)) (va_cwS 3 S.2.2.2.2 gX12_thing_X12_in rfl rfl rfl (by decide +kernel) ⟨Nat.le_of_ble_eq_true rfl, Nat.le_of_ble_eq_true rfl⟩) rfl hl.1 rfl (Nat.le_of_ble_eq_true rfl) dX12_thing_48 ⟨Nat.zero_le _, Nat.zero_le _⟩ (fun r_9 M_9 H locs hp Z => ?_)
          obtain ⟨⟨rfl, w_9⟩ | ⟨rfl, w_9⟩, hM_9⟩ := hp
          · skip
            rw [hM_9] at Z
            refine lv_if_ne (tgt := 57) S.1 S.2.1 dX12_thing_51 (by decide) (fun _ => ?_) (fun c => absurd c (by decide))
            obtain ⟨t, ht, rfl⟩ := u_in0 (n := 11) (show inr x 0 11 by assumption) (by decide)
            obtain ⟨k, hk, rfl⟩ := u_in0 (n := 7) (show inr o 0 7 by assumption) (by decide)
            obtain ⟨n1, hn1, rfl⟩ := u_in0 (n := 9) (show inr a 0 9 by assumption) (by decide)
            obtain ⟨n2, hn2, rfl⟩ := u_in0 (n := 99) (show inr v 0 99 by assumption) (by decide)
            obtain ⟨n3, hn31, hn3, rfl⟩ := u_in1 (n := 9) (show inr g 1 9 by assumption) (by decide)
            refine lv_aload_n S.1 S.2.1 dX12_thing_57 rfl (lv_at hl 0 rfl) ?_
            refine ug_r S hK Z (j := 0) 72 (by decide) rfl rfl rfl (by decide) iX12_thing_X12 qX12_thing_7 dX12_thing_58 ?_
            refine lv_iload_n S.1 S.2.1 dX12_thing_61 rfl (lv_at hl 1 rfl) ?_
            refine ua_ild S hK Z t (by decide) rfl rfl (by omega) dX12_thing_62 ?_
            refine utop (y := (nI (w 1 t))) (uPM_r M w t (j := 1) (by decide)) ?_
            refine lv_istore (lv' := [(6, .int (nI (w 1 t))), (0, .ref (G.2.2 71)), (1, .int (nI t)), (2, .int (nI k)), (3, .int (nI n1)), (4, .int (nI n2)), (5, .int (nI n3))]) S.1 S.2.1 dX12_thing_63 hl (by decide) rfl (fun ls hl => ?_)
            refine lv_aload_n S.1 S.2.1 dX12_thing_65 rfl (lv_at hl 1 rfl) ?_
            refine ug_r S hK Z (j := 0) 72 (by decide) rfl rfl rfl (by decide) iX12_thing_X12 qX12_thing_7 dX12_thing_66 ?_
            refine lv_iload_n S.1 S.2.1 dX12_thing_69 rfl (lv_at hl 2 rfl) ?_
            refine lv_iload_n S.1 S.2.1 dX12_thing_70 rfl (lv_at hl 3 rfl) ?_
            refine ua_ist S hK Z t (by decide) rfl rfl (by omega) dX12_thing_71 (fun H locs Z => ?_)
            have Z := uZ_eq (uPM_sr M w t k (j := 1) (by decide)) Z
            refine lv_aload_n S.1 S.2.1 dX12_thing_72 rfl (lv_at hl 1 rfl) ?_
            refine ug_r S hK Z (j := 1) 73 (by decide) rfl rfl rfl (by decide) iX12_thing_X12 qX12_thing_13 dX12_thing_73 ?_
            refine lv_iload_n S.1 S.2.1 dX12_thing_76 rfl (lv_at hl 2 rfl) ?_
            refine lv_iload_n S.1 S.2.1 dX12_thing_77 rfl (lv_at hl 4 rfl) ?_
            refine ua_ist S hK Z t (by decide) rfl rfl (by omega) dX12_thing_78 (fun H locs Z => ?_)
            have Z := uZ_eq (uPM_sr M (wu w 1 t k) t n1 (j := 2) (by decide)) Z
            refine lv_aload_n S.1 S.2.1 dX12_thing_79 rfl (lv_at hl 1 rfl) ?_
            refine ug_r S hK Z (j := 2) 74 (by decide) rfl rfl rfl (by decide) iX12_thing_X12 qX12_thing_16 dX12_thing_80 ?_
            refine lv_iload_n S.1 S.2.1 dX12_thing_83 rfl (lv_at hl 2 rfl) ?_
            refine lv_iload S.1 S.2.1 dX12_thing_84 (lv_at hl 5 rfl) ?_
            refine ua_ist S hK Z t (by decide) rfl rfl (by omega) dX12_thing_86 (fun H locs Z => ?_)
            have Z := uZ_eq (uPM_sr M (wu (wu w 1 t k) 2 t n1) t n2 (j := 3) (by decide)) Z
            refine lv_aload_n S.1 S.2.1 dX12_thing_87 rfl (lv_at hl 1 rfl) ?_
            refine ug_r S hK Z (j := 3) 75 (by decide) rfl rfl rfl (by decide) iX12_thing_X12 qX12_thing_19 dX12_thing_88 ?_
            refine lv_iload_n S.1 S.2.1 dX12_thing_91 rfl (lv_at hl 2 rfl) ?_
            refine lv_iload S.1 S.2.1 dX12_thing_92 (lv_at hl 6 rfl) ?_
            refine ua_ist S hK Z t (by decide) rfl rfl (by omega) dX12_thing_94 (fun H locs Z => ?_)
            have Z := uZ_eq (uPM_sr M (wu (wu (wu w 1 t k) 2 t n1) 3 t n2) t n3 (j := 4) (by decide)) Z
            refine lv_iload S.1 S.2.1 dX12_thing_95 (lv_at hl 0 rfl) ?_
            refine uret_i S hK Z hre hlk dX12_thing_97 ?_
            rw [spThing, if_neg (u_no2 (by assumption) (by assumption)), if_neg (u_no3 (by assumption) (by assumption) (by assumption)), nI_clamp (show t < 2 ^ 31 by omega), nI_clamp (show k < 2 ^ 31 by omega), nI_clamp (show n1 < 2 ^ 31 by omega), nI_clamp (show n2 < 2 ^ 31 by omega), nI_clamp (show n3 < 2 ^ 31 by omega)]
            exact ⟨rfl, rfl⟩
          · skip
            rw [hM_9] at Z
            refine lv_if_ne (tgt := 57) S.1 S.2.1 dX12_thing_51 (by decide) (fun c => absurd c (by decide)) (fun _ => ?_)
            refine lv_bipush (v := (-2)) S.1 S.2.1 dX12_thing_54 (by decide) ?_
            refine uret_i S hK Z hre hlk dX12_thing_56 ?_
            rw [spThing, if_neg (u_no2 (by assumption) (by assumption)), if_pos (by first | exact Or.inl (by assumption) | exact Or.inr (Or.inl (by assumption)) | exact Or.inr (Or.inr (by assumption)))]
            exact ⟨rfl, rfl⟩
        · skip
          rw [hM_7] at Z
          refine lv_if_eq (tgt := 54) S.1 S.2.1 dX12_thing_38 (by decide) (fun _ => ?_) (fun c => absurd c (by decide))
          refine lv_bipush (v := (-2)) S.1 S.2.1 dX12_thing_54 (by decide) ?_
          refine uret_i S hK Z hre hlk dX12_thing_56 ?_
          rw [spThing, if_neg (u_no2 (by assumption) (by assumption)), if_pos (by first | exact Or.inl (by assumption) | exact Or.inr (Or.inl (by assumption)) | exact Or.inr (Or.inr (by assumption)))]
          exact ⟨rfl, rfl⟩
      · skip
        rw [hM_5] at Z
        refine lv_if_eq (tgt := 54) S.1 S.2.1 dX12_thing_25 (by decide) (fun _ => ?_) (fun c => absurd c (by decide))
        refine lv_bipush (v := (-2)) S.1 S.2.1 dX12_thing_54 (by decide) ?_
        refine uret_i S hK Z hre hlk dX12_thing_56 ?_
        rw [spThing, if_neg (u_no2 (by assumption) (by assumption)), if_pos (by first | exact Or.inl (by assumption) | exact Or.inr (Or.inl (by assumption)) | exact Or.inr (Or.inr (by assumption)))]
        exact ⟨rfl, rfl⟩
    · skip
      rw [hM_3] at Z
      refine lv_if_ne (tgt := 16) S.1 S.2.1 dX12_thing_11 (by decide) (fun c => absurd c (by decide)) (fun _ => ?_)
      refine lv_iconst (v := (-1)) S.1 S.2.1 dX12_thing_14 (by decide) ?_
      refine uret_i S hK Z hre hlk dX12_thing_15 ?_
      rw [spThing, if_pos (by first | exact Or.inl (by assumption) | exact Or.inr (by assumption))]
      exact ⟨rfl, rfl⟩
  · skip
    rw [hM_1] at Z
    refine lv_if_eq (tgt := 14) S.1 S.2.1 dX12_thing_4 (by decide) (fun _ => ?_) (fun c => absurd c (by decide))
    refine lv_iconst (v := (-1)) S.1 S.2.1 dX12_thing_14 (by decide) ?_
    refine uret_i S hK Z hre hlk dX12_thing_15 ?_
    rw [spThing, if_pos (by first | exact Or.inl (by assumption) | exact Or.inr (by assumption))]
    exact ⟨rfl, rfl⟩
set_option maxHeartbeats 4000000 in
set_option maxRecDepth 100000 in
theorem c_X12_one (l : Launch) (G : uG) (x c0 d : Int32) (M : uM) (w : Nat → Nat → Nat) (h7 : w 0 7 < 256) : CTi l G yX12_one wsX12_one 2 45 [.ref (G.2.2 71), .int x, .int c0, .int d] (uPM M w) (fun r M2 => r = (spOne w x c0 d).1 ∧ M2 = uPM M (spOne w x c0 d).2) := by
  refine ustart_i (cc := cX12_one) (maxL := 5) (ret := (some .int)) (own := RX12) rfl (by decide) rfl (Nat.le_of_ble_eq_true rfl) ?_
  intro xp xe xs xm xa xb xt xc xA ls S hK hA Z hre hlk hl
  have hl : lv_has ls 5 [(0, .ref (G.2.2 71)), (1, .int x), (2, .int c0), (3, .int d)] := hl
  refine lv_iload_n S.1 S.2.1 dX12_one_0 rfl (lv_at hl 1 rfl) ?_
  refine uc_Si (As := [.int x]) (rest := []) S hK hA Z (c_X12_isOne l G x (uPM M w)) (va_cwS 1 S.2.2.2.2 gX12_one_X12_isOne rfl rfl rfl (by decide +kernel) ⟨Nat.le_of_ble_eq_true rfl, Nat.le_of_ble_eq_true rfl⟩) rfl hl.1 rfl (Nat.le_of_ble_eq_true rfl) dX12_one_1 ⟨Nat.zero_le _, Nat.zero_le _⟩ (fun r_1 M_1 H locs hp Z => ?_)
  obtain ⟨⟨rfl, w_1⟩ | ⟨rfl, w_1⟩, hM_1⟩ := hp
  · skip
    rw [hM_1] at Z
    refine lv_if_ne (tgt := 9) S.1 S.2.1 dX12_one_4 (by decide) (fun _ => ?_) (fun c => absurd c (by decide))
    refine lv_iload_n S.1 S.2.1 dX12_one_9 rfl (lv_at hl 2 rfl) ?_
    refine lv_i2l (v := c0.toInt64) S.1 S.2.1 dX12_one_10 rfl ?_
    refine lv_lconst (v := 0) S.1 S.2.1 dX12_one_11 (by decide) ?_
    refine lv_ldc2 (v := 9999) S.1 S.2.1 S.2.2.2.1 (S.2.2.2.2 _ qX12_one_107) dX12_one_12 ?_
    refine uc_Si (As := [.long c0.toInt64, .long 0, .long 9999]) (rest := []) S hK hA Z (c_X12_in l G c0 0 9999 _ _ _ rfl (by decide) (by decide) (uPM M w)) (va_cwS 3 S.2.2.2.2 gX12_one_X12_in rfl rfl rfl (by decide +kernel) ⟨Nat.le_of_ble_eq_true rfl, Nat.le_of_ble_eq_true rfl⟩) rfl hl.1 rfl (Nat.le_of_ble_eq_true rfl) dX12_one_15 ⟨Nat.zero_le _, Nat.zero_le _⟩ (fun r_3 M_3 H locs hp Z => ?_)
    obtain ⟨⟨rfl, w_3⟩ | ⟨rfl, w_3⟩, hM_3⟩ := hp
    · skip
      rw [hM_3] at Z
      refine lv_if_eq (tgt := 31) S.1 S.2.1 dX12_one_18 (by decide) (fun c => absurd c (by decide)) (fun _ => ?_)
      refine lv_iload_n S.1 S.2.1 dX12_one_21 rfl (lv_at hl 3 rfl) ?_
      refine lv_i2l (v := d.toInt64) S.1 S.2.1 dX12_one_22 rfl ?_
      refine lv_lconst (v := 0) S.1 S.2.1 dX12_one_23 (by decide) ?_
      refine lv_lconst (v := 1) S.1 S.2.1 dX12_one_24 (by decide) ?_
      refine uc_Si (As := [.long d.toInt64, .long 0, .long 1]) (rest := []) S hK hA Z (c_X12_in l G d 0 1 _ _ _ rfl (by decide) (by decide) (uPM M w)) (va_cwS 3 S.2.2.2.2 gX12_one_X12_in rfl rfl rfl (by decide +kernel) ⟨Nat.le_of_ble_eq_true rfl, Nat.le_of_ble_eq_true rfl⟩) rfl hl.1 rfl (Nat.le_of_ble_eq_true rfl) dX12_one_25 ⟨Nat.zero_le _, Nat.zero_le _⟩ (fun r_5 M_5 H locs hp Z => ?_)
      obtain ⟨⟨rfl, w_5⟩ | ⟨rfl, w_5⟩, hM_5⟩ := hp
      · skip
        rw [hM_5] at Z
        refine lv_if_ne (tgt := 34) S.1 S.2.1 dX12_one_28 (by decide) (fun _ => ?_) (fun c => absurd c (by decide))
        obtain ⟨k, hk, rfl⟩ := u_in0 (n := 7) (show inr x 0 7 by assumption) (by decide)
        obtain ⟨n1, hn1, rfl⟩ := u_in0 (n := 9999) (show inr c0 0 9999 by assumption) (by decide)
        refine lv_aload_n S.1 S.2.1 dX12_one_34 rfl (lv_at hl 0 rfl) ?_
        refine ug_r S hK Z (j := 4) 76 (by decide) rfl rfl rfl (by decide) iX12_one_X12 qX12_one_22 dX12_one_35 ?_
        refine lv_iload_n S.1 S.2.1 dX12_one_38 rfl (lv_at hl 1 rfl) ?_
        refine ua_ild S hK Z k (by decide) rfl rfl (by omega) dX12_one_39 ?_
        refine utop (y := (nI (w 5 k))) (uPM_r M w k (j := 5) (by decide)) ?_
        refine lv_istore (lv' := [(4, .int (nI (w 5 k))), (0, .ref (G.2.2 71)), (1, .int (nI k)), (2, .int (nI n1)), (3, .int d)]) S.1 S.2.1 dX12_one_40 hl (by decide) rfl (fun ls hl => ?_)
        refine lv_aload_n S.1 S.2.1 dX12_one_42 rfl (lv_at hl 1 rfl) ?_
        refine ug_r S hK Z (j := 4) 76 (by decide) rfl rfl rfl (by decide) iX12_one_X12 qX12_one_22 dX12_one_43 ?_
        refine lv_iload_n S.1 S.2.1 dX12_one_46 rfl (lv_at hl 2 rfl) ?_
        refine lv_iload_n S.1 S.2.1 dX12_one_47 rfl (lv_at hl 3 rfl) ?_
        refine ua_ist S hK Z k (by decide) rfl rfl (by omega) dX12_one_48 (fun H locs Z => ?_)
        have Z := uZ_eq (uPM_sr M w k n1 (j := 5) (by decide)) Z
        refine lv_aload_n S.1 S.2.1 dX12_one_49 rfl (lv_at hl 1 rfl) ?_
        refine lv_aload_n S.1 S.2.1 dX12_one_50 rfl (lv_at hl 1 rfl) ?_
        refine ug_i S hK Z (j := 6) (by decide) rfl rfl rfl (by decide) iX12_one_X12 qX12_one_84 dX12_one_51 ?_
        refine utop (y := (nI ((wu w 5 k n1) 0 7))) (uPM_6 M (wu w 5 k n1)) ?_
        refine utop (y := nI (w 0 7)) (congrArg nI (wu_row (by decide) _)) ?_
        refine lv_iload_n S.1 S.2.1 dX12_one_54 rfl (lv_at hl 2 rfl) ?_
        refine lv_iload_n S.1 S.2.1 dX12_one_55 rfl (lv_at hl 4 rfl) ?_
        refine lv_iconst (v := 1) S.1 S.2.1 dX12_one_56 (by decide) ?_
        refine lv_icmp_ne (tgt := 64) S.1 S.2.1 dX12_one_57 (by decide) (fun c_7 => ?_) (fun c_7 => ?_)
        · skip
          refine lv_iconst (v := 0) S.1 S.2.1 dX12_one_64 (by decide) ?_
          refine ud_Si (As := [.int (nI (w 0 7)), .int (nI k), .int 0]) (rest := [.ref (G.2.2 71)]) S hK hA Z (c_X12_with0 l G (w 0 7) k (by omega) (by omega) (uPM M (wu w 5 k n1))) (va_cwS 3 S.2.2.2.2 gX12_one_X12_with rfl rfl rfl (by decide +kernel) ⟨Nat.le_of_ble_eq_true rfl, Nat.le_of_ble_eq_true rfl⟩) rfl hl.1 rfl (Nat.le_of_ble_eq_true rfl) dX12_one_65 ⟨Nat.zero_le _, Nat.zero_le _⟩ (fun H locs Z => ?_)
          refine up_i S hK Z (j := 6) (by decide) rfl rfl rfl (by decide) iX12_one_X12 tyX12_ok nmX12 qX12_one_84 rfl rfl rfl dX12_one_68 (fun H locs Z => ?_)
          have Z := uZ_eq (uPM_s0 M (wu w 5 k n1) (uClr (w 0 7) k) (Or.inl ⟨rfl, rfl, rfl⟩)) Z
          refine lv_iload S.1 S.2.1 dX12_one_71 (lv_at hl 0 rfl) ?_
          refine uret_i S hK Z hre hlk dX12_one_73 ?_
          rw [spOne, if_neg (not_not_intro (by assumption)), if_neg (u_no2 (by assumption) (by assumption)), nI_clamp (show k < 2 ^ 31 by omega), nI_clamp (show n1 < 2 ^ 31 by omega), if_neg (by assumption)]
          exact ⟨rfl, rfl⟩
        · skip
          refine lv_iconst (v := 1) S.1 S.2.1 dX12_one_60 (by decide) ?_
          refine lv_goto (tgt := 65) S.1 S.2.1 dX12_one_61 (by decide) ?_
          refine ud_Si (As := [.int (nI (w 0 7)), .int (nI k), .int 1]) (rest := [.ref (G.2.2 71)]) S hK hA Z (c_X12_with1 l G (w 0 7) k (by omega) (by omega) (uPM M (wu w 5 k n1))) (va_cwS 3 S.2.2.2.2 gX12_one_X12_with rfl rfl rfl (by decide +kernel) ⟨Nat.le_of_ble_eq_true rfl, Nat.le_of_ble_eq_true rfl⟩) rfl hl.1 rfl (Nat.le_of_ble_eq_true rfl) dX12_one_65 ⟨Nat.zero_le _, Nat.zero_le _⟩ (fun H locs Z => ?_)
          refine up_i S hK Z (j := 6) (by decide) rfl rfl rfl (by decide) iX12_one_X12 tyX12_ok nmX12 qX12_one_84 rfl rfl rfl dX12_one_68 (fun H locs Z => ?_)
          have Z := uZ_eq (uPM_s0 M (wu w 5 k n1) ((w 0 7) ||| 2 ^ k) (Or.inl ⟨rfl, rfl, rfl⟩)) Z
          refine lv_iload S.1 S.2.1 dX12_one_71 (lv_at hl 0 rfl) ?_
          refine uret_i S hK Z hre hlk dX12_one_73 ?_
          rw [spOne, if_neg (not_not_intro (by assumption)), if_neg (u_no2 (by assumption) (by assumption)), nI_clamp (show k < 2 ^ 31 by omega), nI_clamp (show n1 < 2 ^ 31 by omega), if_pos (by assumption)]
          exact ⟨rfl, rfl⟩
      · skip
        rw [hM_5] at Z
        refine lv_if_ne (tgt := 34) S.1 S.2.1 dX12_one_28 (by decide) (fun c => absurd c (by decide)) (fun _ => ?_)
        refine lv_bipush (v := (-2)) S.1 S.2.1 dX12_one_31 (by decide) ?_
        refine uret_i S hK Z hre hlk dX12_one_33 ?_
        rw [spOne, if_neg (not_not_intro (by assumption)), if_pos (by first | exact Or.inl (by assumption) | exact Or.inr (by assumption))]
        exact ⟨rfl, rfl⟩
    · skip
      rw [hM_3] at Z
      refine lv_if_eq (tgt := 31) S.1 S.2.1 dX12_one_18 (by decide) (fun _ => ?_) (fun c => absurd c (by decide))
      refine lv_bipush (v := (-2)) S.1 S.2.1 dX12_one_31 (by decide) ?_
      refine uret_i S hK Z hre hlk dX12_one_33 ?_
      rw [spOne, if_neg (not_not_intro (by assumption)), if_pos (by first | exact Or.inl (by assumption) | exact Or.inr (by assumption))]
      exact ⟨rfl, rfl⟩
  · skip
    rw [hM_1] at Z
    refine lv_if_ne (tgt := 9) S.1 S.2.1 dX12_one_4 (by decide) (fun c => absurd c (by decide)) (fun _ => ?_)
    refine lv_iconst (v := (-1)) S.1 S.2.1 dX12_one_7 (by decide) ?_
    refine uret_i S hK Z hre hlk dX12_one_8 ?_
    rw [spOne, if_pos (by assumption)]
    exact ⟨rfl, rfl⟩
set_option maxHeartbeats 4000000 in
set_option maxRecDepth 100000 in
theorem c_X12_brothers1 (l : Launch) (G : uG) (x y : Int32) (M : uM) (w : Nat → Nat → Nat) (hkin : ∀ k, k < 8 → w 6 k < 256) : CTi l G yX12_brothers wsX12_brothers 2 45 [.ref (G.2.2 71), .int x, .int y, .int 1] (uPM M w) (fun r M2 => r = (spBro w x y 1).1 ∧ M2 = uPM M (spBro w x y 1).2) := by
  refine ustart_i (cc := cX12_brothers) (maxL := 6) (ret := (some .int)) (own := RX12) rfl (by decide) rfl (Nat.le_of_ble_eq_true rfl) ?_
  intro xp xe xs xm xa xb xt xc xA ls S hK hA Z hre hlk hl
  have hl : lv_has ls 6 [(0, .ref (G.2.2 71)), (1, .int x), (2, .int y), (3, .int 1)] := hl
  refine lv_iload_n S.1 S.2.1 dX12_brothers_0 rfl (lv_at hl 1 rfl) ?_
  refine uc_Si (As := [.int x]) (rest := []) S hK hA Z (c_X12_isOne l G x (uPM M w)) (va_cwS 1 S.2.2.2.2 gX12_brothers_X12_isOne rfl rfl rfl (by decide +kernel) ⟨Nat.le_of_ble_eq_true rfl, Nat.le_of_ble_eq_true rfl⟩) rfl hl.1 rfl (Nat.le_of_ble_eq_true rfl) dX12_brothers_1 ⟨Nat.zero_le _, Nat.zero_le _⟩ (fun r_1 M_1 H locs hp Z => ?_)
  obtain ⟨⟨rfl, w_1⟩ | ⟨rfl, w_1⟩, hM_1⟩ := hp
  · skip
    rw [hM_1] at Z
    refine lv_if_eq (tgt := 19) S.1 S.2.1 dX12_brothers_4 (by decide) (fun c => absurd c (by decide)) (fun _ => ?_)
    refine lv_iload_n S.1 S.2.1 dX12_brothers_7 rfl (lv_at hl 2 rfl) ?_
    refine uc_Si (As := [.int y]) (rest := []) S hK hA Z (c_X12_isOne l G y (uPM M w)) (va_cwS 1 S.2.2.2.2 gX12_brothers_X12_isOne rfl rfl rfl (by decide +kernel) ⟨Nat.le_of_ble_eq_true rfl, Nat.le_of_ble_eq_true rfl⟩) rfl hl.1 rfl (Nat.le_of_ble_eq_true rfl) dX12_brothers_8 ⟨Nat.zero_le _, Nat.zero_le _⟩ (fun r_3 M_3 H locs hp Z => ?_)
    obtain ⟨⟨rfl, w_3⟩ | ⟨rfl, w_3⟩, hM_3⟩ := hp
    · skip
      rw [hM_3] at Z
      refine lv_if_eq (tgt := 19) S.1 S.2.1 dX12_brothers_11 (by decide) (fun c => absurd c (by decide)) (fun _ => ?_)
      refine lv_iload_n S.1 S.2.1 dX12_brothers_14 rfl (lv_at hl 1 rfl) ?_
      refine lv_iload_n S.1 S.2.1 dX12_brothers_15 rfl (lv_at hl 2 rfl) ?_
      refine lv_icmp_ne (tgt := 21) S.1 S.2.1 dX12_brothers_16 (by decide) (fun c_5 => ?_) (fun c_5 => ?_)
      · skip
        obtain ⟨k, hk, rfl⟩ := u_in0 (n := 7) (show inr x 0 7 by assumption) (by decide)
        obtain ⟨q, hq, rfl⟩ := u_in0 (n := 7) (show inr y 0 7 by assumption) (by decide)
        have h6k := hkin k (by omega)
        have h6a := bd_ok1 hkin (show q < 8 by omega) (k := k)
        have h6q : (wu w 6 k (w 6 k ||| 2 ^ q)) 6 q < 256 := h6a q (by omega)
        have h6b := bd_ok1 h6a (show k < 8 by omega) (k := q)
        refine lv_aload_n S.1 S.2.1 dX12_brothers_21 rfl (lv_at hl 0 rfl) ?_
        refine ug_r S hK Z (j := 5) 77 (by decide) rfl rfl rfl (by decide) iX12_brothers_X12 qX12_brothers_25 dX12_brothers_22 ?_
        refine lv_iload_n S.1 S.2.1 dX12_brothers_25 rfl (lv_at hl 1 rfl) ?_
        refine lv_aload_n S.1 S.2.1 dX12_brothers_26 rfl (lv_at hl 0 rfl) ?_
        refine ug_r S hK Z (j := 5) 77 (by decide) rfl rfl rfl (by decide) iX12_brothers_X12 qX12_brothers_25 dX12_brothers_27 ?_
        refine lv_iload_n S.1 S.2.1 dX12_brothers_30 rfl (lv_at hl 1 rfl) ?_
        refine ua_ild S hK Z k (by decide) rfl rfl (by omega) dX12_brothers_31 ?_
        refine utop (y := (nI (w 6 k))) (uPM_r M w k (j := 6) (by decide)) ?_
        refine lv_iload_n S.1 S.2.1 dX12_brothers_32 rfl (lv_at hl 2 rfl) ?_
        refine lv_iload_n S.1 S.2.1 dX12_brothers_33 rfl (lv_at hl 3 rfl) ?_
        refine ud_Si (As := [.int (nI (w 6 k)), .int (nI q), .int 1]) (rest := [.int (nI k), .ref (G.2.2 77)]) S hK hA Z (c_X12_with1 l G (w 6 k) q (by omega) (by omega) (uPM M w)) (va_cwS 3 S.2.2.2.2 gX12_brothers_X12_with rfl rfl rfl (by decide +kernel) ⟨Nat.le_of_ble_eq_true rfl, Nat.le_of_ble_eq_true rfl⟩) rfl hl.1 rfl (Nat.le_of_ble_eq_true rfl) dX12_brothers_34 ⟨Nat.zero_le _, Nat.zero_le _⟩ (fun H locs Z => ?_)
        refine ua_ist S hK Z k (by decide) rfl rfl (by omega) dX12_brothers_37 (fun H locs Z => ?_)
        have Z := uZ_eq (uPM_sr M w k ((w 6 k) ||| 2 ^ q) (j := 6) (by decide)) Z
        refine lv_aload_n S.1 S.2.1 dX12_brothers_38 rfl (lv_at hl 0 rfl) ?_
        refine ug_r S hK Z (j := 5) 77 (by decide) rfl rfl rfl (by decide) iX12_brothers_X12 qX12_brothers_25 dX12_brothers_39 ?_
        refine lv_iload_n S.1 S.2.1 dX12_brothers_42 rfl (lv_at hl 2 rfl) ?_
        refine lv_aload_n S.1 S.2.1 dX12_brothers_43 rfl (lv_at hl 0 rfl) ?_
        refine ug_r S hK Z (j := 5) 77 (by decide) rfl rfl rfl (by decide) iX12_brothers_X12 qX12_brothers_25 dX12_brothers_44 ?_
        refine lv_iload_n S.1 S.2.1 dX12_brothers_47 rfl (lv_at hl 2 rfl) ?_
        refine ua_ild S hK Z q (by decide) rfl rfl (by omega) dX12_brothers_48 ?_
        refine utop (y := (nI ((wu w 6 k ((w 6 k) ||| 2 ^ q)) 6 q))) (uPM_r M (wu w 6 k ((w 6 k) ||| 2 ^ q)) q (j := 6) (by decide)) ?_
        refine lv_iload_n S.1 S.2.1 dX12_brothers_49 rfl (lv_at hl 1 rfl) ?_
        refine lv_iload_n S.1 S.2.1 dX12_brothers_50 rfl (lv_at hl 3 rfl) ?_
        refine ud_Si (As := [.int (nI ((wu w 6 k ((w 6 k) ||| 2 ^ q)) 6 q)), .int (nI k), .int 1]) (rest := [.int (nI q), .ref (G.2.2 77)]) S hK hA Z (c_X12_with1 l G ((wu w 6 k ((w 6 k) ||| 2 ^ q)) 6 q) k (by omega) (by omega) (uPM M (wu w 6 k ((w 6 k) ||| 2 ^ q)))) (va_cwS 3 S.2.2.2.2 gX12_brothers_X12_with rfl rfl rfl (by decide +kernel) ⟨Nat.le_of_ble_eq_true rfl, Nat.le_of_ble_eq_true rfl⟩) rfl hl.1 rfl (Nat.le_of_ble_eq_true rfl) dX12_brothers_51 ⟨Nat.zero_le _, Nat.zero_le _⟩ (fun H locs Z => ?_)
        refine ua_ist S hK Z q (by decide) rfl rfl (by omega) dX12_brothers_54 (fun H locs Z => ?_)
        have Z := uZ_eq (uPM_sr M (wu w 6 k ((w 6 k) ||| 2 ^ q)) q (((wu w 6 k ((w 6 k) ||| 2 ^ q)) 6 q) ||| 2 ^ k) (j := 6) (by decide)) Z
        refine lv_iconst (v := 0) S.1 S.2.1 dX12_brothers_55 (by decide) ?_
        refine lv_istore (lv' := [(4, .int 0), (0, .ref (G.2.2 71)), (1, .int (nI k)), (2, .int (nI q)), (3, .int 1)]) S.1 S.2.1 dX12_brothers_56 hl (by decide) rfl (fun ls hl => ?_)
        refine lv_iconst (v := 0) S.1 S.2.1 dX12_brothers_58 (by decide) ?_
        refine lv_istore (lv' := [(5, .int 0), (4, .int 0), (0, .ref (G.2.2 71)), (1, .int (nI k)), (2, .int (nI q)), (3, .int 1)]) S.1 S.2.1 dX12_brothers_59 hl (by decide) rfl (fun ls hl => ?_)
        have LP61 : ∀ (fU : Nat) (n : Nat) (j : Nat), (8 < j + fU) → (j ≤ 8) → (n = wPop (wu (wu w 6 k (w 6 k ||| 2 ^ q)) 6 q ((wu w 6 k (w 6 k ||| 2 ^ q)) 6 q ||| 2 ^ k)) j) → ∀ (H : Heap) (locs : List Loc) (ls : Array Slot), uZ G xA (uPM M (wu (wu w 6 k ((w 6 k) ||| 2 ^ q)) 6 q (((wu w 6 k ((w 6 k) ||| 2 ^ q)) 6 q) ||| 2 ^ k))) xs.heap H locs → lv_has ls 6 [(5, .int (nI j)), (4, .int (nI n)), (0, .ref (G.2.2 71)), (1, .int (nI k)), (2, .int (nI q)), (3, .int 1)] → W xp l xe (uRm 2 45) xs xm xa xb xt xc H locs 0 0 (MQ xb (va_Qi (fun r M2 => r = (spBro w (nI k) (nI q) 1).1 ∧ M2 = uPM M (spBro w (nI k) (nI q) 1).2) (fun M' t => uB G M' t) xA) xa xs 0 0 xA) (F0 xm 61 ls []) := by
          intro fU
          induction fU with
          | zero =>
            intro n j hfl i1 i2 H locs ls Z hl
            exfalso
            omega
          | succ fU ih61 =>
            intro n j hfl i1 i2 H locs ls Z hl
            have i3 := wPop_le (wu (wu w 6 k (w 6 k ||| 2 ^ q)) 6 q ((wu w 6 k (w 6 k ||| 2 ^ q)) 6 q ||| 2 ^ k)) j
            refine lv_iload S.1 S.2.1 dX12_brothers_61 (lv_at hl 0 rfl) ?_
            refine lv_bipush (v := 8) S.1 S.2.1 dX12_brothers_63 (by decide) ?_
            refine lv_icmp_ge (tgt := 89) S.1 S.2.1 dX12_brothers_65 (by decide) (fun c_8 => ?_) (fun c_8 => ?_)
            · skip
              have c_8 : 8 ≤ j := (nI_leI (a := 8) (b := j) (by omega) (by omega)).mp c_8
              refine lv_iload S.1 S.2.1 dX12_brothers_89 (lv_at hl 1 rfl) ?_
              refine lv_iconst (v := 2) S.1 S.2.1 dX12_brothers_91 (by decide) ?_
              refine lv_idiv S.1 S.2.1 dX12_brothers_92 (by decide) ?_
              refine utop (pk_div (a := n) (d := 2) (by omega) (by omega) (by omega)) ?_
              refine uret_i S hK Z hre hlk dX12_brothers_93 ?_
              obtain rfl : j = 8 := by omega
              rw [spBro, if_neg (u_no3 (by assumption) (by assumption) (by assumption)), nI_clamp (show k < 2 ^ 31 by omega), nI_clamp (show q < 2 ^ 31 by omega), i2]
              exact ⟨rfl, rfl⟩
            · skip
              have c_8 : ¬ 8 ≤ j := fun z9 => c_8 ((nI_leI (a := 8) (b := j) (by omega) (by omega)).mpr z9)
              refine lv_iload S.1 S.2.1 dX12_brothers_68 (lv_at hl 1 rfl) ?_
              refine lv_aload_n S.1 S.2.1 dX12_brothers_70 rfl (lv_at hl 2 rfl) ?_
              refine ug_r S hK Z (j := 5) 77 (by decide) rfl rfl rfl (by decide) iX12_brothers_X12 qX12_brothers_25 dX12_brothers_71 ?_
              refine lv_iload S.1 S.2.1 dX12_brothers_74 (lv_at hl 0 rfl) ?_
              refine ua_ild S hK Z j (by decide) rfl rfl (by omega) dX12_brothers_76 ?_
              refine utop (y := (nI ((wu (wu w 6 k ((w 6 k) ||| 2 ^ q)) 6 q (((wu w 6 k ((w 6 k) ||| 2 ^ q)) 6 q) ||| 2 ^ k)) 6 j))) (uPM_r M (wu (wu w 6 k ((w 6 k) ||| 2 ^ q)) 6 q (((wu w 6 k ((w 6 k) ||| 2 ^ q)) 6 q) ||| 2 ^ k)) j (j := 6) (by decide)) ?_
              have i4 := h6b j (by omega)
              have i5 := uPop_le ((wu (wu w 6 k ((w 6 k) ||| 2 ^ q)) 6 q (((wu w 6 k ((w 6 k) ||| 2 ^ q)) 6 q) ||| 2 ^ k)) 6 j)
              refine ud_Si (As := [.int (nI ((wu (wu w 6 k ((w 6 k) ||| 2 ^ q)) 6 q (((wu w 6 k ((w 6 k) ||| 2 ^ q)) 6 q) ||| 2 ^ k)) 6 j))]) (rest := [.int (nI n)]) S hK hA Z (c_X12_ones l G ((wu (wu w 6 k ((w 6 k) ||| 2 ^ q)) 6 q (((wu w 6 k ((w 6 k) ||| 2 ^ q)) 6 q) ||| 2 ^ k)) 6 j) (by omega) (uPM M (wu (wu w 6 k ((w 6 k) ||| 2 ^ q)) 6 q (((wu w 6 k ((w 6 k) ||| 2 ^ q)) 6 q) ||| 2 ^ k)))) (va_cwS 1 S.2.2.2.2 gX12_brothers_X12_ones rfl rfl rfl (by decide +kernel) ⟨Nat.le_of_ble_eq_true rfl, Nat.le_of_ble_eq_true rfl⟩) rfl hl.1 rfl (Nat.le_of_ble_eq_true rfl) dX12_brothers_77 ⟨Nat.zero_le _, Nat.zero_le _⟩ (fun H locs Z => ?_)
              refine lv_iadd S.1 S.2.1 dX12_brothers_80 ?_
              refine utop (nI_add n (uPop ((wu (wu w 6 k ((w 6 k) ||| 2 ^ q)) 6 q (((wu w 6 k ((w 6 k) ||| 2 ^ q)) 6 q) ||| 2 ^ k)) 6 j))) ?_
              refine lv_istore (lv' := [(4, .int (nI (n + (uPop ((wu (wu w 6 k ((w 6 k) ||| 2 ^ q)) 6 q (((wu w 6 k ((w 6 k) ||| 2 ^ q)) 6 q) ||| 2 ^ k)) 6 j))))), (5, .int (nI j)), (0, .ref (G.2.2 71)), (1, .int (nI k)), (2, .int (nI q)), (3, .int 1)]) S.1 S.2.1 dX12_brothers_81 hl (by decide) rfl (fun ls hl => ?_)
              refine lv_iinc (v := (nI (j + 1))) (lv' := [(5, .int (nI (j + 1))), (4, .int (nI (n + (uPop ((wu (wu w 6 k ((w 6 k) ||| 2 ^ q)) 6 q (((wu w 6 k ((w 6 k) ||| 2 ^ q)) 6 q) ||| 2 ^ k)) 6 j))))), (0, .ref (G.2.2 71)), (1, .int (nI k)), (2, .int (nI q)), (3, .int 1)]) S.1 S.2.1 dX12_brothers_83 hl (k := 1) rfl (u_inc1 j) (by decide) rfl (fun ls hl => ?_)
              refine lv_goto (tgt := 61) S.1 S.2.1 dX12_brothers_86 (by decide) ?_
              exact ih61 (n + (uPop ((wu (wu w 6 k ((w 6 k) ||| 2 ^ q)) 6 q (((wu w 6 k ((w 6 k) ||| 2 ^ q)) 6 q) ||| 2 ^ k)) 6 j))) (j + 1) (by omega) (by omega) (by rw [wPop]; omega) _ _ _ Z (lv_sub hl [0, 1, 2, 3, 4, 5] rfl)
        exact LP61 9 0 0 (by omega) (by omega) (by rfl) _ _ _ Z (lv_sub hl [0, 1, 2, 3, 4, 5] rfl)
      · skip
        refine lv_iconst (v := (-1)) S.1 S.2.1 dX12_brothers_19 (by decide) ?_
        refine uret_i S hK Z hre hlk dX12_brothers_20 ?_
        rw [spBro, if_pos (by first | exact Or.inl (by assumption) | exact Or.inr (Or.inl (by assumption)) | exact Or.inr (Or.inr (not_not_intro (by assumption))))]
        exact ⟨rfl, rfl⟩
    · skip
      rw [hM_3] at Z
      refine lv_if_eq (tgt := 19) S.1 S.2.1 dX12_brothers_11 (by decide) (fun _ => ?_) (fun c => absurd c (by decide))
      refine lv_iconst (v := (-1)) S.1 S.2.1 dX12_brothers_19 (by decide) ?_
      refine uret_i S hK Z hre hlk dX12_brothers_20 ?_
      rw [spBro, if_pos (by first | exact Or.inl (by assumption) | exact Or.inr (Or.inl (by assumption)) | exact Or.inr (Or.inr (not_not_intro (by assumption))))]
      exact ⟨rfl, rfl⟩
  · skip
    rw [hM_1] at Z
    refine lv_if_eq (tgt := 19) S.1 S.2.1 dX12_brothers_4 (by decide) (fun _ => ?_) (fun c => absurd c (by decide))
    refine lv_iconst (v := (-1)) S.1 S.2.1 dX12_brothers_19 (by decide) ?_
    refine uret_i S hK Z hre hlk dX12_brothers_20 ?_
    rw [spBro, if_pos (by first | exact Or.inl (by assumption) | exact Or.inr (Or.inl (by assumption)) | exact Or.inr (Or.inr (not_not_intro (by assumption))))]
    exact ⟨rfl, rfl⟩
set_option maxHeartbeats 4000000 in
set_option maxRecDepth 100000 in
theorem c_X12_brothers0 (l : Launch) (G : uG) (x y : Int32) (M : uM) (w : Nat → Nat → Nat) (hkin : ∀ k, k < 8 → w 6 k < 256) : CTi l G yX12_brothers wsX12_brothers 2 45 [.ref (G.2.2 71), .int x, .int y, .int 0] (uPM M w) (fun r M2 => r = (spBro w x y 0).1 ∧ M2 = uPM M (spBro w x y 0).2) := by
  refine ustart_i (cc := cX12_brothers) (maxL := 6) (ret := (some .int)) (own := RX12) rfl (by decide) rfl (Nat.le_of_ble_eq_true rfl) ?_
  intro xp xe xs xm xa xb xt xc xA ls S hK hA Z hre hlk hl
  have hl : lv_has ls 6 [(0, .ref (G.2.2 71)), (1, .int x), (2, .int y), (3, .int 0)] := hl
  refine lv_iload_n S.1 S.2.1 dX12_brothers_0 rfl (lv_at hl 1 rfl) ?_
  refine uc_Si (As := [.int x]) (rest := []) S hK hA Z (c_X12_isOne l G x (uPM M w)) (va_cwS 1 S.2.2.2.2 gX12_brothers_X12_isOne rfl rfl rfl (by decide +kernel) ⟨Nat.le_of_ble_eq_true rfl, Nat.le_of_ble_eq_true rfl⟩) rfl hl.1 rfl (Nat.le_of_ble_eq_true rfl) dX12_brothers_1 ⟨Nat.zero_le _, Nat.zero_le _⟩ (fun r_1 M_1 H locs hp Z => ?_)
  obtain ⟨⟨rfl, w_1⟩ | ⟨rfl, w_1⟩, hM_1⟩ := hp
  · skip
    rw [hM_1] at Z
    refine lv_if_eq (tgt := 19) S.1 S.2.1 dX12_brothers_4 (by decide) (fun c => absurd c (by decide)) (fun _ => ?_)
    refine lv_iload_n S.1 S.2.1 dX12_brothers_7 rfl (lv_at hl 2 rfl) ?_
    refine uc_Si (As := [.int y]) (rest := []) S hK hA Z (c_X12_isOne l G y (uPM M w)) (va_cwS 1 S.2.2.2.2 gX12_brothers_X12_isOne rfl rfl rfl (by decide +kernel) ⟨Nat.le_of_ble_eq_true rfl, Nat.le_of_ble_eq_true rfl⟩) rfl hl.1 rfl (Nat.le_of_ble_eq_true rfl) dX12_brothers_8 ⟨Nat.zero_le _, Nat.zero_le _⟩ (fun r_3 M_3 H locs hp Z => ?_)
    obtain ⟨⟨rfl, w_3⟩ | ⟨rfl, w_3⟩, hM_3⟩ := hp
    · skip
      rw [hM_3] at Z
      refine lv_if_eq (tgt := 19) S.1 S.2.1 dX12_brothers_11 (by decide) (fun c => absurd c (by decide)) (fun _ => ?_)
      refine lv_iload_n S.1 S.2.1 dX12_brothers_14 rfl (lv_at hl 1 rfl) ?_
      refine lv_iload_n S.1 S.2.1 dX12_brothers_15 rfl (lv_at hl 2 rfl) ?_
      refine lv_icmp_ne (tgt := 21) S.1 S.2.1 dX12_brothers_16 (by decide) (fun c_5 => ?_) (fun c_5 => ?_)
      · skip
        obtain ⟨k, hk, rfl⟩ := u_in0 (n := 7) (show inr x 0 7 by assumption) (by decide)
        obtain ⟨q, hq, rfl⟩ := u_in0 (n := 7) (show inr y 0 7 by assumption) (by decide)
        have h6k := hkin k (by omega)
        have h6a := bd_ok0 hkin (show q < 8 by omega) (k := k)
        have h6q : (wu w 6 k (uClr (w 6 k) q)) 6 q < 256 := h6a q (by omega)
        have h6b := bd_ok0 h6a (show k < 8 by omega) (k := q)
        refine lv_aload_n S.1 S.2.1 dX12_brothers_21 rfl (lv_at hl 0 rfl) ?_
        refine ug_r S hK Z (j := 5) 77 (by decide) rfl rfl rfl (by decide) iX12_brothers_X12 qX12_brothers_25 dX12_brothers_22 ?_
        refine lv_iload_n S.1 S.2.1 dX12_brothers_25 rfl (lv_at hl 1 rfl) ?_
        refine lv_aload_n S.1 S.2.1 dX12_brothers_26 rfl (lv_at hl 0 rfl) ?_
        refine ug_r S hK Z (j := 5) 77 (by decide) rfl rfl rfl (by decide) iX12_brothers_X12 qX12_brothers_25 dX12_brothers_27 ?_
        refine lv_iload_n S.1 S.2.1 dX12_brothers_30 rfl (lv_at hl 1 rfl) ?_
        refine ua_ild S hK Z k (by decide) rfl rfl (by omega) dX12_brothers_31 ?_
        refine utop (y := (nI (w 6 k))) (uPM_r M w k (j := 6) (by decide)) ?_
        refine lv_iload_n S.1 S.2.1 dX12_brothers_32 rfl (lv_at hl 2 rfl) ?_
        refine lv_iload_n S.1 S.2.1 dX12_brothers_33 rfl (lv_at hl 3 rfl) ?_
        refine ud_Si (As := [.int (nI (w 6 k)), .int (nI q), .int 0]) (rest := [.int (nI k), .ref (G.2.2 77)]) S hK hA Z (c_X12_with0 l G (w 6 k) q (by omega) (by omega) (uPM M w)) (va_cwS 3 S.2.2.2.2 gX12_brothers_X12_with rfl rfl rfl (by decide +kernel) ⟨Nat.le_of_ble_eq_true rfl, Nat.le_of_ble_eq_true rfl⟩) rfl hl.1 rfl (Nat.le_of_ble_eq_true rfl) dX12_brothers_34 ⟨Nat.zero_le _, Nat.zero_le _⟩ (fun H locs Z => ?_)
        refine ua_ist S hK Z k (by decide) rfl rfl (by omega) dX12_brothers_37 (fun H locs Z => ?_)
        have Z := uZ_eq (uPM_sr M w k (uClr (w 6 k) q) (j := 6) (by decide)) Z
        refine lv_aload_n S.1 S.2.1 dX12_brothers_38 rfl (lv_at hl 0 rfl) ?_
        refine ug_r S hK Z (j := 5) 77 (by decide) rfl rfl rfl (by decide) iX12_brothers_X12 qX12_brothers_25 dX12_brothers_39 ?_
        refine lv_iload_n S.1 S.2.1 dX12_brothers_42 rfl (lv_at hl 2 rfl) ?_
        refine lv_aload_n S.1 S.2.1 dX12_brothers_43 rfl (lv_at hl 0 rfl) ?_
        refine ug_r S hK Z (j := 5) 77 (by decide) rfl rfl rfl (by decide) iX12_brothers_X12 qX12_brothers_25 dX12_brothers_44 ?_
        refine lv_iload_n S.1 S.2.1 dX12_brothers_47 rfl (lv_at hl 2 rfl) ?_
        refine ua_ild S hK Z q (by decide) rfl rfl (by omega) dX12_brothers_48 ?_
        refine utop (y := (nI ((wu w 6 k (uClr (w 6 k) q)) 6 q))) (uPM_r M (wu w 6 k (uClr (w 6 k) q)) q (j := 6) (by decide)) ?_
        refine lv_iload_n S.1 S.2.1 dX12_brothers_49 rfl (lv_at hl 1 rfl) ?_
        refine lv_iload_n S.1 S.2.1 dX12_brothers_50 rfl (lv_at hl 3 rfl) ?_
        refine ud_Si (As := [.int (nI ((wu w 6 k (uClr (w 6 k) q)) 6 q)), .int (nI k), .int 0]) (rest := [.int (nI q), .ref (G.2.2 77)]) S hK hA Z (c_X12_with0 l G ((wu w 6 k (uClr (w 6 k) q)) 6 q) k (by omega) (by omega) (uPM M (wu w 6 k (uClr (w 6 k) q)))) (va_cwS 3 S.2.2.2.2 gX12_brothers_X12_with rfl rfl rfl (by decide +kernel) ⟨Nat.le_of_ble_eq_true rfl, Nat.le_of_ble_eq_true rfl⟩) rfl hl.1 rfl (Nat.le_of_ble_eq_true rfl) dX12_brothers_51 ⟨Nat.zero_le _, Nat.zero_le _⟩ (fun H locs Z => ?_)
        refine ua_ist S hK Z q (by decide) rfl rfl (by omega) dX12_brothers_54 (fun H locs Z => ?_)
        have Z := uZ_eq (uPM_sr M (wu w 6 k (uClr (w 6 k) q)) q (uClr ((wu w 6 k (uClr (w 6 k) q)) 6 q) k) (j := 6) (by decide)) Z
        refine lv_iconst (v := 0) S.1 S.2.1 dX12_brothers_55 (by decide) ?_
        refine lv_istore (lv' := [(4, .int 0), (0, .ref (G.2.2 71)), (1, .int (nI k)), (2, .int (nI q)), (3, .int 0)]) S.1 S.2.1 dX12_brothers_56 hl (by decide) rfl (fun ls hl => ?_)
        refine lv_iconst (v := 0) S.1 S.2.1 dX12_brothers_58 (by decide) ?_
        refine lv_istore (lv' := [(5, .int 0), (4, .int 0), (0, .ref (G.2.2 71)), (1, .int (nI k)), (2, .int (nI q)), (3, .int 0)]) S.1 S.2.1 dX12_brothers_59 hl (by decide) rfl (fun ls hl => ?_)
        have LP61 : ∀ (fU : Nat) (n : Nat) (j : Nat), (8 < j + fU) → (j ≤ 8) → (n = wPop (wu (wu w 6 k (uClr (w 6 k) q)) 6 q (uClr ((wu w 6 k (uClr (w 6 k) q)) 6 q) k)) j) → ∀ (H : Heap) (locs : List Loc) (ls : Array Slot), uZ G xA (uPM M (wu (wu w 6 k (uClr (w 6 k) q)) 6 q (uClr ((wu w 6 k (uClr (w 6 k) q)) 6 q) k))) xs.heap H locs → lv_has ls 6 [(5, .int (nI j)), (4, .int (nI n)), (0, .ref (G.2.2 71)), (1, .int (nI k)), (2, .int (nI q)), (3, .int 0)] → W xp l xe (uRm 2 45) xs xm xa xb xt xc H locs 0 0 (MQ xb (va_Qi (fun r M2 => r = (spBro w (nI k) (nI q) 0).1 ∧ M2 = uPM M (spBro w (nI k) (nI q) 0).2) (fun M' t => uB G M' t) xA) xa xs 0 0 xA) (F0 xm 61 ls []) := by
          intro fU
          induction fU with
          | zero =>
            intro n j hfl i1 i2 H locs ls Z hl
            exfalso
            omega
          | succ fU ih61 =>
            intro n j hfl i1 i2 H locs ls Z hl
            have i3 := wPop_le (wu (wu w 6 k (uClr (w 6 k) q)) 6 q (uClr ((wu w 6 k (uClr (w 6 k) q)) 6 q) k)) j
            refine lv_iload S.1 S.2.1 dX12_brothers_61 (lv_at hl 0 rfl) ?_
            refine lv_bipush (v := 8) S.1 S.2.1 dX12_brothers_63 (by decide) ?_
            refine lv_icmp_ge (tgt := 89) S.1 S.2.1 dX12_brothers_65 (by decide) (fun c_8 => ?_) (fun c_8 => ?_)
            · skip
              have c_8 : 8 ≤ j := (nI_leI (a := 8) (b := j) (by omega) (by omega)).mp c_8
              refine lv_iload S.1 S.2.1 dX12_brothers_89 (lv_at hl 1 rfl) ?_
              refine lv_iconst (v := 2) S.1 S.2.1 dX12_brothers_91 (by decide) ?_
              refine lv_idiv S.1 S.2.1 dX12_brothers_92 (by decide) ?_
              refine utop (pk_div (a := n) (d := 2) (by omega) (by omega) (by omega)) ?_
              refine uret_i S hK Z hre hlk dX12_brothers_93 ?_
              obtain rfl : j = 8 := by omega
              rw [spBro, if_neg (u_no3 (by assumption) (by assumption) (by assumption)), nI_clamp (show k < 2 ^ 31 by omega), nI_clamp (show q < 2 ^ 31 by omega), i2]
              exact ⟨rfl, rfl⟩
            · skip
              have c_8 : ¬ 8 ≤ j := fun z9 => c_8 ((nI_leI (a := 8) (b := j) (by omega) (by omega)).mpr z9)
              refine lv_iload S.1 S.2.1 dX12_brothers_68 (lv_at hl 1 rfl) ?_
              refine lv_aload_n S.1 S.2.1 dX12_brothers_70 rfl (lv_at hl 2 rfl) ?_
              refine ug_r S hK Z (j := 5) 77 (by decide) rfl rfl rfl (by decide) iX12_brothers_X12 qX12_brothers_25 dX12_brothers_71 ?_
              refine lv_iload S.1 S.2.1 dX12_brothers_74 (lv_at hl 0 rfl) ?_
              refine ua_ild S hK Z j (by decide) rfl rfl (by omega) dX12_brothers_76 ?_
              refine utop (y := (nI ((wu (wu w 6 k (uClr (w 6 k) q)) 6 q (uClr ((wu w 6 k (uClr (w 6 k) q)) 6 q) k)) 6 j))) (uPM_r M (wu (wu w 6 k (uClr (w 6 k) q)) 6 q (uClr ((wu w 6 k (uClr (w 6 k) q)) 6 q) k)) j (j := 6) (by decide)) ?_
              have i4 := h6b j (by omega)
              have i5 := uPop_le ((wu (wu w 6 k (uClr (w 6 k) q)) 6 q (uClr ((wu w 6 k (uClr (w 6 k) q)) 6 q) k)) 6 j)
              refine ud_Si (As := [.int (nI ((wu (wu w 6 k (uClr (w 6 k) q)) 6 q (uClr ((wu w 6 k (uClr (w 6 k) q)) 6 q) k)) 6 j))]) (rest := [.int (nI n)]) S hK hA Z (c_X12_ones l G ((wu (wu w 6 k (uClr (w 6 k) q)) 6 q (uClr ((wu w 6 k (uClr (w 6 k) q)) 6 q) k)) 6 j) (by omega) (uPM M (wu (wu w 6 k (uClr (w 6 k) q)) 6 q (uClr ((wu w 6 k (uClr (w 6 k) q)) 6 q) k)))) (va_cwS 1 S.2.2.2.2 gX12_brothers_X12_ones rfl rfl rfl (by decide +kernel) ⟨Nat.le_of_ble_eq_true rfl, Nat.le_of_ble_eq_true rfl⟩) rfl hl.1 rfl (Nat.le_of_ble_eq_true rfl) dX12_brothers_77 ⟨Nat.zero_le _, Nat.zero_le _⟩ (fun H locs Z => ?_)
              refine lv_iadd S.1 S.2.1 dX12_brothers_80 ?_
              refine utop (nI_add n (uPop ((wu (wu w 6 k (uClr (w 6 k) q)) 6 q (uClr ((wu w 6 k (uClr (w 6 k) q)) 6 q) k)) 6 j))) ?_
              refine lv_istore (lv' := [(4, .int (nI (n + (uPop ((wu (wu w 6 k (uClr (w 6 k) q)) 6 q (uClr ((wu w 6 k (uClr (w 6 k) q)) 6 q) k)) 6 j))))), (5, .int (nI j)), (0, .ref (G.2.2 71)), (1, .int (nI k)), (2, .int (nI q)), (3, .int 0)]) S.1 S.2.1 dX12_brothers_81 hl (by decide) rfl (fun ls hl => ?_)
              refine lv_iinc (v := (nI (j + 1))) (lv' := [(5, .int (nI (j + 1))), (4, .int (nI (n + (uPop ((wu (wu w 6 k (uClr (w 6 k) q)) 6 q (uClr ((wu w 6 k (uClr (w 6 k) q)) 6 q) k)) 6 j))))), (0, .ref (G.2.2 71)), (1, .int (nI k)), (2, .int (nI q)), (3, .int 0)]) S.1 S.2.1 dX12_brothers_83 hl (k := 1) rfl (u_inc1 j) (by decide) rfl (fun ls hl => ?_)
              refine lv_goto (tgt := 61) S.1 S.2.1 dX12_brothers_86 (by decide) ?_
              exact ih61 (n + (uPop ((wu (wu w 6 k (uClr (w 6 k) q)) 6 q (uClr ((wu w 6 k (uClr (w 6 k) q)) 6 q) k)) 6 j))) (j + 1) (by omega) (by omega) (by rw [wPop]; omega) _ _ _ Z (lv_sub hl [0, 1, 2, 3, 4, 5] rfl)
        exact LP61 9 0 0 (by omega) (by omega) (by rfl) _ _ _ Z (lv_sub hl [0, 1, 2, 3, 4, 5] rfl)
      · skip
        refine lv_iconst (v := (-1)) S.1 S.2.1 dX12_brothers_19 (by decide) ?_
        refine uret_i S hK Z hre hlk dX12_brothers_20 ?_
        rw [spBro, if_pos (by first | exact Or.inl (by assumption) | exact Or.inr (Or.inl (by assumption)) | exact Or.inr (Or.inr (not_not_intro (by assumption))))]
        exact ⟨rfl, rfl⟩
    · skip
      rw [hM_3] at Z
      refine lv_if_eq (tgt := 19) S.1 S.2.1 dX12_brothers_11 (by decide) (fun _ => ?_) (fun c => absurd c (by decide))
      refine lv_iconst (v := (-1)) S.1 S.2.1 dX12_brothers_19 (by decide) ?_
      refine uret_i S hK Z hre hlk dX12_brothers_20 ?_
      rw [spBro, if_pos (by first | exact Or.inl (by assumption) | exact Or.inr (Or.inl (by assumption)) | exact Or.inr (Or.inr (not_not_intro (by assumption))))]
      exact ⟨rfl, rfl⟩
  · skip
    rw [hM_1] at Z
    refine lv_if_eq (tgt := 19) S.1 S.2.1 dX12_brothers_4 (by decide) (fun _ => ?_) (fun c => absurd c (by decide))
    refine lv_iconst (v := (-1)) S.1 S.2.1 dX12_brothers_19 (by decide) ?_
    refine uret_i S hK Z hre hlk dX12_brothers_20 ?_
    rw [spBro, if_pos (by first | exact Or.inl (by assumption) | exact Or.inr (Or.inl (by assumption)) | exact Or.inr (Or.inr (not_not_intro (by assumption))))]
    exact ⟨rfl, rfl⟩
set_option maxHeartbeats 4000000 in
set_option maxRecDepth 100000 in
theorem c_X12_say (l : Launch) (G : uG) (x : Int32) (M : uM) (n : Nat) (hn : M.1 71 12 = nI n) (h60 : n ≤ 60) : CTi l G yX12_say wsX12_say 1 25 [.ref (G.2.2 71), .int x] M (fun r M2 => r = spSay n x ∧ M2 = if spSay n x = -2 ∨ spSay n x = -4 then M else u1 (u1 M 80 n x) 71 12 (nI (n + 1))) := by
  refine ustart_i (cc := cX12_say) (maxL := 2) (ret := (some .int)) (own := RX12) rfl (by decide) rfl (Nat.le_of_ble_eq_true rfl) ?_
  intro xp xe xs xm xa xb xt xc xA ls S hK hA Z hre hlk hl
  have hl : lv_has ls 2 [(0, .ref (G.2.2 71)), (1, .int x)] := hl
  refine lv_iload_n S.1 S.2.1 dX12_say_0 rfl (lv_at hl 1 rfl) ?_
  refine lv_i2l (v := x.toInt64) S.1 S.2.1 dX12_say_1 rfl ?_
  refine lv_ldc2 (v := 33) S.1 S.2.1 S.2.2.2.1 (S.2.2.2.2 _ qX12_say_117) dX12_say_2 ?_
  refine lv_ldc2 (v := 126) S.1 S.2.1 S.2.2.2.1 (S.2.2.2.2 _ qX12_say_119) dX12_say_5 ?_
  refine uc_Si (As := [.long x.toInt64, .long 33, .long 126]) (rest := []) S hK hA Z (c_X12_in l G x 33 126 _ _ _ rfl (by decide) (by decide) M) (va_cwS 3 S.2.2.2.2 gX12_say_X12_in rfl rfl rfl (by decide +kernel) ⟨Nat.le_of_ble_eq_true rfl, Nat.le_of_ble_eq_true rfl⟩) rfl hl.1 rfl (Nat.le_of_ble_eq_true rfl) dX12_say_8 ⟨Nat.zero_le _, Nat.zero_le _⟩ (fun r_1 M_1 H locs hp Z => ?_)
  obtain ⟨⟨rfl, w_1⟩ | ⟨rfl, w_1⟩, hM_1⟩ := hp
  · skip
    rw [hM_1] at Z
    refine lv_if_ne (tgt := 17) S.1 S.2.1 dX12_say_11 (by decide) (fun _ => ?_) (fun c => absurd c (by decide))
    refine lv_aload_n S.1 S.2.1 dX12_say_17 rfl (lv_at hl 0 rfl) ?_
    refine ug_i S hK Z (j := 12) (by decide) rfl rfl rfl (by decide) iX12_say_X12 qX12_say_121 dX12_say_18 ?_
    refine utop (y := (nI n)) hn ?_
    refine lv_bipush (v := 60) S.1 S.2.1 dX12_say_21 (by decide) ?_
    refine lv_icmp_ne (tgt := 29) S.1 S.2.1 dX12_say_23 (by decide) (fun c_3 => ?_) (fun c_3 => ?_)
    · skip
      have c_3 : ¬ n = 60 := fun z9 => c_3 ((nI_eq (a := n) (b := 60) (by omega) (by omega)).mpr z9)
      refine lv_aload_n S.1 S.2.1 dX12_say_29 rfl (lv_at hl 0 rfl) ?_
      refine ug_r S hK Z (j := 11) 80 (by decide) rfl rfl rfl (by decide) iX12_say_X12 qX12_say_34 dX12_say_30 ?_
      refine lv_aload_n S.1 S.2.1 dX12_say_33 rfl (lv_at hl 0 rfl) ?_
      refine ug_i S hK Z (j := 12) (by decide) rfl rfl rfl (by decide) iX12_say_X12 qX12_say_121 dX12_say_34 ?_
      refine utop (y := (nI n)) hn ?_
      refine lv_iload_n S.1 S.2.1 dX12_say_37 rfl (lv_at hl 1 rfl) ?_
      refine ua_ist S hK Z n (by decide) rfl rfl (by omega) dX12_say_38 (fun H locs Z => ?_)
      refine lv_aload_n S.1 S.2.1 dX12_say_39 rfl (lv_at hl 0 rfl) ?_
      refine lv_dup S.1 S.2.1 dX12_say_40 rfl ?_
      refine ug_i S hK Z (j := 12) (by decide) rfl rfl rfl (by decide) iX12_say_X12 qX12_say_121 dX12_say_41 ?_
      refine utop (y := nI n) hn ?_
      refine lv_iconst (v := 1) S.1 S.2.1 dX12_say_44 (by decide) ?_
      refine lv_iadd S.1 S.2.1 dX12_say_45 ?_
      refine utop (nI_add n 1) ?_
      refine up_i S hK Z (j := 12) (by decide) rfl rfl rfl (by decide) iX12_say_X12 tyX12_ok nmX12 qX12_say_121 rfl rfl rfl dX12_say_46 (fun H locs Z => ?_)
      refine lv_aload_n S.1 S.2.1 dX12_say_49 rfl (lv_at hl 0 rfl) ?_
      refine ug_i S hK Z (j := 12) (by decide) rfl rfl rfl (by decide) iX12_say_X12 qX12_say_121 dX12_say_50 ?_
      refine utop (y := nI (n + 1)) rfl ?_
      refine uret_i S hK Z hre hlk dX12_say_53 ?_
      have e : spSay n x = nI (n + 1) := by rw [spSay, if_neg (not_not_intro (by assumption)), if_neg (by omega)]
      rw [e]
      refine ⟨rfl, (if_neg (fun q => ?_)).symm⟩
      rcases q with q | q
      · have h1 := nI_toInt (n := n + 1) (by omega)
        rw [q] at h1
        have h2 : (-2 : Int32).toInt = -2 := by decide
        omega
      · have h1 := nI_toInt (n := n + 1) (by omega)
        rw [q] at h1
        have h2 : (-4 : Int32).toInt = -4 := by decide
        omega
    · skip
      have c_3 : n = 60 := (nI_eq (a := n) (b := 60) (by omega) (by omega)).mp c_3
      refine lv_bipush (v := (-4)) S.1 S.2.1 dX12_say_26 (by decide) ?_
      refine uret_i S hK Z hre hlk dX12_say_28 ?_
      have e : spSay n x = -4 := by rw [spSay, if_neg (not_not_intro (by assumption)), if_pos (by omega)]
      rw [e]
      exact ⟨rfl, (if_pos (Or.inr rfl)).symm⟩
  · skip
    rw [hM_1] at Z
    refine lv_if_ne (tgt := 17) S.1 S.2.1 dX12_say_11 (by decide) (fun c => absurd c (by decide)) (fun _ => ?_)
    refine lv_bipush (v := (-2)) S.1 S.2.1 dX12_say_14 (by decide) ?_
    refine uret_i S hK Z hre hlk dX12_say_16 ?_
    have e : spSay n x = -2 := by rw [spSay, if_pos (by assumption)]
    rw [e]
    exact ⟨rfl, (if_pos (Or.inl rfl)).symm⟩
set_option maxHeartbeats 4000000 in
set_option maxRecDepth 100000 in
theorem c_X12_wipe (l : Launch) (G : uG) (M : uM) (n : Nat) (hn : M.1 71 12 = nI n) : CTi l G yX12_wipe wsX12_wipe 0 0 [.ref (G.2.2 71)] M (fun r M2 => r = nI n ∧ M2 = u1 M 71 12 0) := by
  refine ustart_i (cc := cX12_wipe) (maxL := 2) (ret := (some .int)) (own := RX12) rfl (by decide) rfl (Nat.le_of_ble_eq_true rfl) ?_
  intro xp xe xs xm xa xb xt xc xA ls S hK hA Z hre hlk hl
  have hl : lv_has ls 2 [(0, .ref (G.2.2 71))] := hl
  refine lv_aload_n S.1 S.2.1 dX12_wipe_0 rfl (lv_at hl 0 rfl) ?_
  refine ug_i S hK Z (j := 12) (by decide) rfl rfl rfl (by decide) iX12_wipe_X12 qX12_wipe_121 dX12_wipe_1 ?_
  refine utop (y := (nI n)) hn ?_
  refine lv_istore_n (lv' := [(1, .int (nI n)), (0, .ref (G.2.2 71))]) S.1 S.2.1 dX12_wipe_4 rfl hl (by decide) rfl (fun ls hl => ?_)
  refine lv_aload_n S.1 S.2.1 dX12_wipe_5 rfl (lv_at hl 1 rfl) ?_
  refine lv_iconst (v := 0) S.1 S.2.1 dX12_wipe_6 (by decide) ?_
  refine up_i S hK Z (j := 12) (by decide) rfl rfl rfl (by decide) iX12_wipe_X12 tyX12_ok nmX12 qX12_wipe_121 rfl rfl rfl dX12_wipe_7 (fun H locs Z => ?_)
  refine lv_iload_n S.1 S.2.1 dX12_wipe_10 rfl (lv_at hl 0 rfl) ?_
  refine uret_i S hK Z hre hlk dX12_wipe_11 ?_
  exact ⟨rfl, rfl⟩
set_option maxHeartbeats 4000000 in
set_option maxRecDepth 100000 in
theorem c_X12_ahead (l : Launch) (G : uG) (x y : Int32) (M : uM) (w : Nat → Nat → Nat) (h72 : w 7 2 ≤ 8) : CTi l G yX12_ahead wsX12_ahead 1 25 [.ref (G.2.2 71), .int x, .int y] (uPM M w) (fun r M2 => r = (spAhead w x y).1 ∧ M2 = uPM M (spAhead w x y).2) := by
  refine ustart_i (cc := cX12_ahead) (maxL := 3) (ret := (some .int)) (own := RX12) rfl (by decide) rfl (Nat.le_of_ble_eq_true rfl) ?_
  intro xp xe xs xm xa xb xt xc xA ls S hK hA Z hre hlk hl
  have hl : lv_has ls 3 [(0, .ref (G.2.2 71)), (1, .int x), (2, .int y)] := hl
  refine lv_iload_n S.1 S.2.1 dX12_ahead_0 rfl (lv_at hl 1 rfl) ?_
  refine lv_i2l (v := x.toInt64) S.1 S.2.1 dX12_ahead_1 rfl ?_
  refine lv_lconst (v := 0) S.1 S.2.1 dX12_ahead_2 (by decide) ?_
  refine lv_ldc2 (v := 4) S.1 S.2.1 S.2.2.2.1 (S.2.2.2.2 _ qX12_ahead_298) dX12_ahead_3 ?_
  refine uc_Si (As := [.long x.toInt64, .long 0, .long 4]) (rest := []) S hK hA Z (c_X12_in l G x 0 4 _ _ _ rfl (by decide) (by decide) (uPM M w)) (va_cwS 3 S.2.2.2.2 gX12_ahead_X12_in rfl rfl rfl (by decide +kernel) ⟨Nat.le_of_ble_eq_true rfl, Nat.le_of_ble_eq_true rfl⟩) rfl hl.1 rfl (Nat.le_of_ble_eq_true rfl) dX12_ahead_6 ⟨Nat.zero_le _, Nat.zero_le _⟩ (fun r_1 M_1 H locs hp Z => ?_)
  obtain ⟨⟨rfl, w_1⟩ | ⟨rfl, w_1⟩, hM_1⟩ := hp
  · skip
    rw [hM_1] at Z
    refine lv_if_eq (tgt := 29) S.1 S.2.1 dX12_ahead_9 (by decide) (fun c => absurd c (by decide)) (fun _ => ?_)
    refine lv_iload_n S.1 S.2.1 dX12_ahead_12 rfl (lv_at hl 2 rfl) ?_
    refine lv_i2l (v := y.toInt64) S.1 S.2.1 dX12_ahead_13 rfl ?_
    refine lv_lconst (v := 0) S.1 S.2.1 dX12_ahead_14 (by decide) ?_
    refine lv_ldc2 (v := 4) S.1 S.2.1 S.2.2.2.1 (S.2.2.2.2 _ qX12_ahead_298) dX12_ahead_15 ?_
    refine uc_Si (As := [.long y.toInt64, .long 0, .long 4]) (rest := []) S hK hA Z (c_X12_in l G y 0 4 _ _ _ rfl (by decide) (by decide) (uPM M w)) (va_cwS 3 S.2.2.2.2 gX12_ahead_X12_in rfl rfl rfl (by decide +kernel) ⟨Nat.le_of_ble_eq_true rfl, Nat.le_of_ble_eq_true rfl⟩) rfl hl.1 rfl (Nat.le_of_ble_eq_true rfl) dX12_ahead_18 ⟨Nat.zero_le _, Nat.zero_le _⟩ (fun r_3 M_3 H locs hp Z => ?_)
    obtain ⟨⟨rfl, w_3⟩ | ⟨rfl, w_3⟩, hM_3⟩ := hp
    · skip
      rw [hM_3] at Z
      refine lv_if_eq (tgt := 29) S.1 S.2.1 dX12_ahead_21 (by decide) (fun c => absurd c (by decide)) (fun _ => ?_)
      refine lv_iload_n S.1 S.2.1 dX12_ahead_24 rfl (lv_at hl 1 rfl) ?_
      refine lv_iload_n S.1 S.2.1 dX12_ahead_25 rfl (lv_at hl 2 rfl) ?_
      refine lv_icmp_ne (tgt := 32) S.1 S.2.1 dX12_ahead_26 (by decide) (fun c_5 => ?_) (fun c_5 => ?_)
      · skip
        refine lv_aload_n S.1 S.2.1 dX12_ahead_32 rfl (lv_at hl 0 rfl) ?_
        refine ug_i S hK Z (j := 10) (by decide) rfl rfl rfl (by decide) iX12_ahead_X12 qX12_ahead_300 dX12_ahead_33 ?_
        refine utop (y := (nI (w 7 2))) (uPM_10 M w) ?_
        refine lv_bipush (v := 8) S.1 S.2.1 dX12_ahead_36 (by decide) ?_
        refine lv_icmp_ne (tgt := 44) S.1 S.2.1 dX12_ahead_38 (by decide) (fun c_6 => ?_) (fun c_6 => ?_)
        · skip
          have c_6 : ¬ (w 7 2) = 8 := fun z9 => c_6 ((nI_eq (a := (w 7 2)) (b := 8) (by omega) (by omega)).mpr z9)
          obtain ⟨k, hk, rfl⟩ := u_in0 (n := 4) (show inr x 0 4 by assumption) (by decide)
          obtain ⟨q, hq, rfl⟩ := u_in0 (n := 4) (show inr y 0 4 by assumption) (by decide)
          have h8 : w 7 2 < 8 := by omega
          refine lv_aload_n S.1 S.2.1 dX12_ahead_44 rfl (lv_at hl 0 rfl) ?_
          refine ug_r S hK Z (j := 8) 78 (by decide) rfl rfl rfl (by decide) iX12_ahead_X12 qX12_ahead_28 dX12_ahead_45 ?_
          refine lv_aload_n S.1 S.2.1 dX12_ahead_48 rfl (lv_at hl 0 rfl) ?_
          refine ug_i S hK Z (j := 10) (by decide) rfl rfl rfl (by decide) iX12_ahead_X12 qX12_ahead_300 dX12_ahead_49 ?_
          refine utop (y := (nI (w 7 2))) (uPM_10 M w) ?_
          refine lv_iload_n S.1 S.2.1 dX12_ahead_52 rfl (lv_at hl 1 rfl) ?_
          refine ua_ist S hK Z (w 7 2) (by decide) rfl rfl (by omega) dX12_ahead_53 (fun H locs Z => ?_)
          have Z := uZ_eq (uPM_sq M w (w 7 2) k (j := 8) (by decide)) Z
          refine lv_aload_n S.1 S.2.1 dX12_ahead_54 rfl (lv_at hl 0 rfl) ?_
          refine ug_r S hK Z (j := 9) 79 (by decide) rfl rfl rfl (by decide) iX12_ahead_X12 qX12_ahead_31 dX12_ahead_55 ?_
          refine lv_aload_n S.1 S.2.1 dX12_ahead_58 rfl (lv_at hl 0 rfl) ?_
          refine ug_i S hK Z (j := 10) (by decide) rfl rfl rfl (by decide) iX12_ahead_X12 qX12_ahead_300 dX12_ahead_59 ?_
          refine utop (y := (nI ((wu w 8 (w 7 2) k) 7 2))) (uPM_10 M (wu w 8 (w 7 2) k)) ?_
          refine utop (y := nI (w 7 2)) (congrArg nI (wu_row (by decide) _)) ?_
          refine lv_iload_n S.1 S.2.1 dX12_ahead_62 rfl (lv_at hl 2 rfl) ?_
          refine ua_ist S hK Z (w 7 2) (by decide) rfl rfl (by omega) dX12_ahead_63 (fun H locs Z => ?_)
          have Z := uZ_eq (uPM_sq M (wu w 8 (w 7 2) k) (w 7 2) q (j := 9) (by decide)) Z
          refine lv_aload_n S.1 S.2.1 dX12_ahead_64 rfl (lv_at hl 0 rfl) ?_
          refine lv_dup S.1 S.2.1 dX12_ahead_65 rfl ?_
          refine ug_i S hK Z (j := 10) (by decide) rfl rfl rfl (by decide) iX12_ahead_X12 qX12_ahead_300 dX12_ahead_66 ?_
          refine utop (y := (nI ((wu (wu w 8 (w 7 2) k) 9 (w 7 2) q) 7 2))) (uPM_10 M (wu (wu w 8 (w 7 2) k) 9 (w 7 2) q)) ?_
          refine utop (y := nI (w 7 2)) (congrArg nI ((wu_row (by decide) _).trans (wu_row (by decide) _))) ?_
          refine lv_iconst (v := 1) S.1 S.2.1 dX12_ahead_69 (by decide) ?_
          refine lv_iadd S.1 S.2.1 dX12_ahead_70 ?_
          refine utop (nI_add (w 7 2) 1) ?_
          refine up_i S hK Z (j := 10) (by decide) rfl rfl rfl (by decide) iX12_ahead_X12 tyX12_ok nmX12 qX12_ahead_300 rfl rfl rfl dX12_ahead_71 (fun H locs Z => ?_)
          have Z := uZ_eq (uPM_s0 M (wu (wu w 8 (w 7 2) k) 9 (w 7 2) q) ((w 7 2) + 1) (Or.inr (Or.inr ⟨rfl, rfl, rfl⟩))) Z
          refine lv_aload_n S.1 S.2.1 dX12_ahead_74 rfl (lv_at hl 0 rfl) ?_
          refine ug_i S hK Z (j := 10) (by decide) rfl rfl rfl (by decide) iX12_ahead_X12 qX12_ahead_300 dX12_ahead_75 ?_
          refine utop (y := (nI ((wu (wu (wu w 8 (w 7 2) k) 9 (w 7 2) q) 7 2 ((w 7 2) + 1)) 7 2))) (uPM_10 M (wu (wu (wu w 8 (w 7 2) k) 9 (w 7 2) q) 7 2 ((w 7 2) + 1))) ?_
          refine utop (y := nI (w 7 2 + 1)) (congrArg nI (wu_eq _ _ _ _)) ?_
          refine uret_i S hK Z hre hlk dX12_ahead_78 ?_
          rw [spAhead, if_neg (u_no3 (by assumption) (by assumption) (by assumption)), if_neg (by omega), nI_clamp (show k < 2 ^ 31 by omega), nI_clamp (show q < 2 ^ 31 by omega)]
          exact ⟨rfl, rfl⟩
        · skip
          have c_6 : (w 7 2) = 8 := (nI_eq (a := (w 7 2)) (b := 8) (by omega) (by omega)).mp c_6
          refine lv_bipush (v := (-4)) S.1 S.2.1 dX12_ahead_41 (by decide) ?_
          refine uret_i S hK Z hre hlk dX12_ahead_43 ?_
          rw [spAhead, if_neg (u_no3 (by assumption) (by assumption) (by assumption)), if_pos (by omega)]
          exact ⟨rfl, rfl⟩
      · skip
        refine lv_bipush (v := (-2)) S.1 S.2.1 dX12_ahead_29 (by decide) ?_
        refine uret_i S hK Z hre hlk dX12_ahead_31 ?_
        rw [spAhead, if_pos (by first | exact Or.inl (by assumption) | exact Or.inr (Or.inl (by assumption)) | exact Or.inr (Or.inr (not_not_intro (by assumption))))]
        exact ⟨rfl, rfl⟩
    · skip
      rw [hM_3] at Z
      refine lv_if_eq (tgt := 29) S.1 S.2.1 dX12_ahead_21 (by decide) (fun _ => ?_) (fun c => absurd c (by decide))
      refine lv_bipush (v := (-2)) S.1 S.2.1 dX12_ahead_29 (by decide) ?_
      refine uret_i S hK Z hre hlk dX12_ahead_31 ?_
      rw [spAhead, if_pos (by first | exact Or.inl (by assumption) | exact Or.inr (Or.inl (by assumption)) | exact Or.inr (Or.inr (not_not_intro (by assumption))))]
      exact ⟨rfl, rfl⟩
  · skip
    rw [hM_1] at Z
    refine lv_if_eq (tgt := 29) S.1 S.2.1 dX12_ahead_9 (by decide) (fun _ => ?_) (fun c => absurd c (by decide))
    refine lv_bipush (v := (-2)) S.1 S.2.1 dX12_ahead_29 (by decide) ?_
    refine uret_i S hK Z hre hlk dX12_ahead_31 ?_
    rw [spAhead, if_pos (by first | exact Or.inl (by assumption) | exact Or.inr (Or.inl (by assumption)) | exact Or.inr (Or.inr (not_not_intro (by assumption))))]
    exact ⟨rfl, rfl⟩
set_option maxHeartbeats 4000000 in
set_option maxRecDepth 100000 in
theorem c_X12_forget (l : Launch) (G : uG) (M : uM) (w : Nat → Nat → Nat) : CTi l G yX12_forget wsX12_forget 0 0 [.ref (G.2.2 71)] (uPM M w) (fun r M2 => r = nI (w 7 2) ∧ M2 = uPM M (wu w 7 2 0)) := by
  refine ustart_i (cc := cX12_forget) (maxL := 2) (ret := (some .int)) (own := RX12) rfl (by decide) rfl (Nat.le_of_ble_eq_true rfl) ?_
  intro xp xe xs xm xa xb xt xc xA ls S hK hA Z hre hlk hl
  have hl : lv_has ls 2 [(0, .ref (G.2.2 71))] := hl
  refine lv_aload_n S.1 S.2.1 dX12_forget_0 rfl (lv_at hl 0 rfl) ?_
  refine ug_i S hK Z (j := 10) (by decide) rfl rfl rfl (by decide) iX12_forget_X12 qX12_forget_300 dX12_forget_1 ?_
  refine utop (y := (nI (w 7 2))) (uPM_10 M w) ?_
  refine lv_istore_n (lv' := [(1, .int (nI (w 7 2))), (0, .ref (G.2.2 71))]) S.1 S.2.1 dX12_forget_4 rfl hl (by decide) rfl (fun ls hl => ?_)
  refine lv_aload_n S.1 S.2.1 dX12_forget_5 rfl (lv_at hl 1 rfl) ?_
  refine lv_iconst (v := 0) S.1 S.2.1 dX12_forget_6 (by decide) ?_
  refine up_i S hK Z (j := 10) (by decide) rfl rfl rfl (by decide) iX12_forget_X12 tyX12_ok nmX12 qX12_forget_300 rfl rfl rfl dX12_forget_7 (fun H locs Z => ?_)
  have Z := uZ_eq (uPM_s0 M w 0 (Or.inr (Or.inr ⟨rfl, rfl, rfl⟩))) Z
  refine lv_iload_n S.1 S.2.1 dX12_forget_10 rfl (lv_at hl 0 rfl) ?_
  refine uret_i S hK Z hre hlk dX12_forget_11 ?_
  exact ⟨rfl, rfl⟩
set_option maxHeartbeats 4000000 in
set_option maxRecDepth 100000 in
theorem c_X12_ofThing (l : Launch) (G : uG) (t j : Nat) (ht : t < 12) (hj : j < 10) (M : uM) (w : Nat → Nat → Nat) (hr : uMd M w) : CTi l G yX12_ofThing wsX12_ofThing 0 0 [.ref (G.2.2 71), .int (nI t), .int (nI j)] M (fun r M2 => r = spOf w t j ∧ M2 = M) := by
  refine ustart_i (cc := cX12_ofThing) (maxL := 3) (ret := (some .int)) (own := RX12) rfl (by decide) rfl (Nat.le_of_ble_eq_true rfl) ?_
  intro xp xe xs xm xa xb xt xc xA ls S hK hA Z hre hlk hl
  have hl : lv_has ls 3 [(0, .ref (G.2.2 71)), (1, .int (nI t)), (2, .int (nI j))] := hl
  refine lv_iload_n S.1 S.2.1 dX12_ofThing_0 rfl (lv_at hl 2 rfl) ?_
  by_cases k_1 : (nI j) = 0
  · skip
    refine utop k_1 ?_
    have k_1 : j = 0 := (nI_eq (a := j) (b := 0) (by omega) (by omega)).mp k_1
    refine lv_tableIn (tgt := 32) S.1 S.2.1 dX12_ofThing_1 (by decide) (by decide) rfl (by decide) ?_
    refine lv_aload_n S.1 S.2.1 dX12_ofThing_32 rfl (lv_at hl 0 rfl) ?_
    refine ug_r S hK Z (j := 0) 72 (by decide) rfl rfl rfl (by decide) iX12_ofThing_X12 qX12_ofThing_7 dX12_ofThing_33 ?_
    refine lv_iload_n S.1 S.2.1 dX12_ofThing_36 rfl (lv_at hl 1 rfl) ?_
    refine ua_ild S hK Z t (by decide) rfl rfl (by omega) dX12_ofThing_37 ?_
    refine utop (y := (nI (w 1 t))) (uMd_r hr t (j := 1) (by decide)) ?_
    refine uret_i S hK Z hre hlk dX12_ofThing_38 ?_
    rw [spOf, if_pos (by omega)]
    exact ⟨rfl, rfl⟩
  · skip
    have jk_1 : ¬ j = 0 := fun z9 => k_1 ((nI_eq (a := j) (b := 0) (by omega) (by omega)).mpr z9)
    by_cases k_2 : (nI j) = 1
    · skip
      refine utop k_2 ?_
      have k_2 : j = 1 := (nI_eq (a := j) (b := 1) (by omega) (by omega)).mp k_2
      refine lv_tableIn (tgt := 39) S.1 S.2.1 dX12_ofThing_1 (by decide) (by decide) rfl (by decide) ?_
      refine lv_aload_n S.1 S.2.1 dX12_ofThing_39 rfl (lv_at hl 0 rfl) ?_
      refine ug_r S hK Z (j := 1) 73 (by decide) rfl rfl rfl (by decide) iX12_ofThing_X12 qX12_ofThing_13 dX12_ofThing_40 ?_
      refine lv_iload_n S.1 S.2.1 dX12_ofThing_43 rfl (lv_at hl 1 rfl) ?_
      refine ua_ild S hK Z t (by decide) rfl rfl (by omega) dX12_ofThing_44 ?_
      refine utop (y := (nI (w 2 t))) (uMd_r hr t (j := 2) (by decide)) ?_
      refine uret_i S hK Z hre hlk dX12_ofThing_45 ?_
      rw [spOf, if_neg (by omega), if_pos (by omega)]
      exact ⟨rfl, rfl⟩
    · skip
      have jk_2 : ¬ j = 1 := fun z9 => k_2 ((nI_eq (a := j) (b := 1) (by omega) (by omega)).mpr z9)
      by_cases k_3 : (nI j) = 2
      · skip
        refine utop k_3 ?_
        have k_3 : j = 2 := (nI_eq (a := j) (b := 2) (by omega) (by omega)).mp k_3
        refine lv_tableIn (tgt := 46) S.1 S.2.1 dX12_ofThing_1 (by decide) (by decide) rfl (by decide) ?_
        refine lv_aload_n S.1 S.2.1 dX12_ofThing_46 rfl (lv_at hl 0 rfl) ?_
        refine ug_r S hK Z (j := 2) 74 (by decide) rfl rfl rfl (by decide) iX12_ofThing_X12 qX12_ofThing_16 dX12_ofThing_47 ?_
        refine lv_iload_n S.1 S.2.1 dX12_ofThing_50 rfl (lv_at hl 1 rfl) ?_
        refine ua_ild S hK Z t (by decide) rfl rfl (by omega) dX12_ofThing_51 ?_
        refine utop (y := (nI (w 3 t))) (uMd_r hr t (j := 3) (by decide)) ?_
        refine uret_i S hK Z hre hlk dX12_ofThing_52 ?_
        rw [spOf, if_neg (by omega), if_neg (by omega), if_pos (by omega)]
        exact ⟨rfl, rfl⟩
      · skip
        have jk_3 : ¬ j = 2 := fun z9 => k_3 ((nI_eq (a := j) (b := 2) (by omega) (by omega)).mpr z9)
        by_cases k_4 : (nI j) = 3
        · skip
          refine utop k_4 ?_
          have k_4 : j = 3 := (nI_eq (a := j) (b := 3) (by omega) (by omega)).mp k_4
          refine lv_tableIn (tgt := 53) S.1 S.2.1 dX12_ofThing_1 (by decide) (by decide) rfl (by decide) ?_
          refine lv_aload_n S.1 S.2.1 dX12_ofThing_53 rfl (lv_at hl 0 rfl) ?_
          refine ug_r S hK Z (j := 3) 75 (by decide) rfl rfl rfl (by decide) iX12_ofThing_X12 qX12_ofThing_19 dX12_ofThing_54 ?_
          refine lv_iload_n S.1 S.2.1 dX12_ofThing_57 rfl (lv_at hl 1 rfl) ?_
          refine ua_ild S hK Z t (by decide) rfl rfl (by omega) dX12_ofThing_58 ?_
          refine utop (y := (nI (w 4 t))) (uMd_r hr t (j := 4) (by decide)) ?_
          refine uret_i S hK Z hre hlk dX12_ofThing_59 ?_
          rw [spOf, if_neg (by omega), if_neg (by omega), if_neg (by omega), if_pos (by omega)]
          exact ⟨rfl, rfl⟩
        · skip
          have jk_4 : ¬ j = 3 := fun z9 => k_4 ((nI_eq (a := j) (b := 3) (by omega) (by omega)).mpr z9)
          have tk_1 := lv_neT k_1 (show (0 : Int32).toInt = 0 from by decide)
          have tk_2 := lv_neT k_2 (show (1 : Int32).toInt = 1 from by decide)
          have tk_3 := lv_neT k_3 (show (2 : Int32).toInt = 2 from by decide)
          have tk_4 := lv_neT k_4 (show (3 : Int32).toInt = 3 from by decide)
          refine lv_tableOut (tgt := 60) S.1 S.2.1 dX12_ofThing_1 (by omega) (by decide) ?_
          refine lv_bipush (v := (-2)) S.1 S.2.1 dX12_ofThing_60 (by decide) ?_
          refine uret_i S hK Z hre hlk dX12_ofThing_62 ?_
          rw [spOf, if_neg (by omega), if_neg (by omega), if_neg (by omega), if_neg (by omega)]
          exact ⟨rfl, rfl⟩
set_option maxHeartbeats 4000000 in
set_option maxRecDepth 100000 in
theorem c_X12_told (l : Launch) (G : uG) (x : Int32) (M : uM) (w : Nat → Nat → Nat) (n : Nat) (hr : uMd M w) (hn : M.1 71 12 = nI n) : CTi l G yX12_told wsX12_told 1 25 [.ref (G.2.2 71), .int x] M (fun r M2 => r = spTold w n x ∧ M2 = M) := by
  refine ustart_i (cc := cX12_told) (maxL := 2) (ret := (some .int)) (own := RX12) rfl (by decide) rfl (Nat.le_of_ble_eq_true rfl) ?_
  intro xp xe xs xm xa xb xt xc xA ls S hK hA Z hre hlk hl
  have hl : lv_has ls 2 [(0, .ref (G.2.2 71)), (1, .int x)] := hl
  refine lv_iload_n S.1 S.2.1 dX12_told_0 rfl (lv_at hl 1 rfl) ?_
  refine lv_i2l (v := x.toInt64) S.1 S.2.1 dX12_told_1 rfl ?_
  refine lv_ldc2 (v := 100) S.1 S.2.1 S.2.2.2.1 (S.2.2.2.2 _ qX12_told_364) dX12_told_2 ?_
  refine lv_ldc2 (v := 219) S.1 S.2.1 S.2.2.2.1 (S.2.2.2.2 _ qX12_told_366) dX12_told_5 ?_
  refine uc_Si (As := [.long x.toInt64, .long 100, .long 219]) (rest := []) S hK hA Z (c_X12_in l G x 100 219 _ _ _ rfl (by decide) (by decide) M) (va_cwS 3 S.2.2.2.2 gX12_told_X12_in rfl rfl rfl (by decide +kernel) ⟨Nat.le_of_ble_eq_true rfl, Nat.le_of_ble_eq_true rfl⟩) rfl hl.1 rfl (Nat.le_of_ble_eq_true rfl) dX12_told_8 ⟨Nat.zero_le _, Nat.zero_le _⟩ (fun r_1 M_1 H locs hp Z => ?_)
  obtain ⟨⟨rfl, w_1⟩ | ⟨rfl, w_1⟩, hM_1⟩ := hp
  · skip
    rw [hM_1] at Z
    refine lv_if_eq (tgt := 30) S.1 S.2.1 dX12_told_11 (by decide) (fun c => absurd c (by decide)) (fun _ => ?_)
    have hin := (by assumption : inr x 100 219)
    obtain ⟨v, hv2, rfl⟩ := u_rng2 (n := 219) (Int32.le_trans (by decide) hin.1) hin.2 (by decide)
    have hv1 : 100 ≤ v := (nI_leI (a := 100) (b := v) (by decide) (by omega)).mp hin.1
    refine lv_aload_n S.1 S.2.1 dX12_told_14 rfl (lv_at hl 0 rfl) ?_
    refine lv_iload_n S.1 S.2.1 dX12_told_15 rfl (lv_at hl 1 rfl) ?_
    refine lv_bipush (v := 100) S.1 S.2.1 dX12_told_16 (by decide) ?_
    refine lv_isub S.1 S.2.1 dX12_told_18 ?_
    refine utop (pk_sub (a := v) (b := 100) (by omega)) ?_
    refine lv_bipush (v := 10) S.1 S.2.1 dX12_told_19 (by decide) ?_
    refine lv_idiv S.1 S.2.1 dX12_told_21 (by decide) ?_
    refine utop (pk_div (a := (v - 100)) (d := 10) (by omega) (by omega) (by omega)) ?_
    refine lv_iload_n S.1 S.2.1 dX12_told_22 rfl (lv_at hl 1 rfl) ?_
    refine lv_bipush (v := 10) S.1 S.2.1 dX12_told_23 (by decide) ?_
    refine lv_irem S.1 S.2.1 dX12_told_25 (by decide) ?_
    refine utop (pk_rem (a := v) (d := 10) (by omega) (by omega) (by omega)) ?_
    refine ud_Vi (As := [.int (nI ((v - 100) / 10)), .int (nI (v % 10))]) (rest := []) S hK hA Z (c_X12_ofThing l G ((v - 100) / 10) (v % 10) (by omega) (by omega) M w hr) (cwV 2 S.2.2.2.2 gX12_told_X12_ofThing rfl rfl rfl (by decide +kernel) ⟨Nat.le_of_ble_eq_true rfl, Nat.le_of_ble_eq_true rfl⟩) (by decide) rfl rfl rfl hl.1 rfl (Nat.le_of_ble_eq_true rfl) dX12_told_26 ⟨Nat.zero_le _, Nat.zero_le _⟩ (fun H locs Z => ?_)
    refine uret_i S hK Z hre hlk dX12_told_29 ?_
    rw [spTold, if_pos hin.1, nI_clamp (show v < 2 ^ 31 by omega), if_pos (by omega), show (v - 100) % 10 = v % 10 from by omega]
    exact ⟨rfl, rfl⟩
  · skip
    rw [hM_1] at Z
    refine lv_if_eq (tgt := 30) S.1 S.2.1 dX12_told_11 (by decide) (fun _ => ?_) (fun c => absurd c (by decide))
    refine lv_iload_n S.1 S.2.1 dX12_told_30 rfl (lv_at hl 1 rfl) ?_
    refine lv_i2l (v := x.toInt64) S.1 S.2.1 dX12_told_31 rfl ?_
    refine lv_ldc2 (v := 10) S.1 S.2.1 S.2.2.2.1 (S.2.2.2.2 _ qX12_told_272) dX12_told_32 ?_
    refine lv_ldc2 (v := 17) S.1 S.2.1 S.2.2.2.1 (S.2.2.2.2 _ qX12_told_371) dX12_told_35 ?_
    refine uc_Si (As := [.long x.toInt64, .long 10, .long 17]) (rest := []) S hK hA Z (c_X12_in l G x 10 17 _ _ _ rfl (by decide) (by decide) M) (va_cwS 3 S.2.2.2.2 gX12_told_X12_in rfl rfl rfl (by decide +kernel) ⟨Nat.le_of_ble_eq_true rfl, Nat.le_of_ble_eq_true rfl⟩) rfl hl.1 rfl (Nat.le_of_ble_eq_true rfl) dX12_told_38 ⟨Nat.zero_le _, Nat.zero_le _⟩ (fun r_5 M_5 H locs hp Z => ?_)
    obtain ⟨⟨rfl, w_5⟩ | ⟨rfl, w_5⟩, hM_5⟩ := hp
    · skip
      rw [hM_5] at Z
      refine lv_if_eq (tgt := 54) S.1 S.2.1 dX12_told_41 (by decide) (fun c => absurd c (by decide)) (fun _ => ?_)
      have hin := (by assumption : inr x 10 17)
      obtain ⟨v, hv2, rfl⟩ := u_rng2 (n := 17) (Int32.le_trans (by decide) hin.1) hin.2 (by decide)
      have hv1 : 10 ≤ v := (nI_leI (a := 10) (b := v) (by decide) (by omega)).mp hin.1
      refine lv_aload_n S.1 S.2.1 dX12_told_44 rfl (lv_at hl 0 rfl) ?_
      refine ug_r S hK Z (j := 4) 76 (by decide) rfl rfl rfl (by decide) iX12_told_X12 qX12_told_22 dX12_told_45 ?_
      refine lv_iload_n S.1 S.2.1 dX12_told_48 rfl (lv_at hl 1 rfl) ?_
      refine lv_bipush (v := 10) S.1 S.2.1 dX12_told_49 (by decide) ?_
      refine lv_isub S.1 S.2.1 dX12_told_51 ?_
      refine utop (pk_sub (a := v) (b := 10) (by omega)) ?_
      refine ua_ild S hK Z (v - 10) (by decide) rfl rfl (by omega) dX12_told_52 ?_
      refine utop (y := (nI (w 5 (v - 10)))) (uMd_r hr (v - 10) (j := 5) (by decide)) ?_
      refine uret_i S hK Z hre hlk dX12_told_53 ?_
      rw [spTold, if_neg (fun q => absurd (Int32.le_trans q hin.2) (by decide)), if_neg (fun q => absurd (Int32.le_trans q.1 hin.2) (by decide)), if_pos hin, nI_clamp (show v < 2 ^ 31 by omega)]
      exact ⟨rfl, rfl⟩
    · skip
      rw [hM_5] at Z
      refine lv_if_eq (tgt := 54) S.1 S.2.1 dX12_told_41 (by decide) (fun _ => ?_) (fun c => absurd c (by decide))
      refine lv_iload_n S.1 S.2.1 dX12_told_54 rfl (lv_at hl 1 rfl) ?_
      refine lv_i2l (v := x.toInt64) S.1 S.2.1 dX12_told_55 rfl ?_
      refine lv_ldc2 (v := 20) S.1 S.2.1 S.2.2.2.1 (S.2.2.2.2 _ qX12_told_373) dX12_told_56 ?_
      refine lv_ldc2 (v := 27) S.1 S.2.1 S.2.2.2.1 (S.2.2.2.2 _ qX12_told_375) dX12_told_59 ?_
      refine uc_Si (As := [.long x.toInt64, .long 20, .long 27]) (rest := []) S hK hA Z (c_X12_in l G x 20 27 _ _ _ rfl (by decide) (by decide) M) (va_cwS 3 S.2.2.2.2 gX12_told_X12_in rfl rfl rfl (by decide +kernel) ⟨Nat.le_of_ble_eq_true rfl, Nat.le_of_ble_eq_true rfl⟩) rfl hl.1 rfl (Nat.le_of_ble_eq_true rfl) dX12_told_62 ⟨Nat.zero_le _, Nat.zero_le _⟩ (fun r_8 M_8 H locs hp Z => ?_)
      obtain ⟨⟨rfl, w_8⟩ | ⟨rfl, w_8⟩, hM_8⟩ := hp
      · skip
        rw [hM_8] at Z
        refine lv_if_eq (tgt := 78) S.1 S.2.1 dX12_told_65 (by decide) (fun c => absurd c (by decide)) (fun _ => ?_)
        have hin := (by assumption : inr x 20 27)
        obtain ⟨v, hv2, rfl⟩ := u_rng2 (n := 27) (Int32.le_trans (by decide) hin.1) hin.2 (by decide)
        have hv1 : 20 ≤ v := (nI_leI (a := 20) (b := v) (by decide) (by omega)).mp hin.1
        refine lv_aload_n S.1 S.2.1 dX12_told_68 rfl (lv_at hl 0 rfl) ?_
        refine ug_r S hK Z (j := 5) 77 (by decide) rfl rfl rfl (by decide) iX12_told_X12 qX12_told_25 dX12_told_69 ?_
        refine lv_iload_n S.1 S.2.1 dX12_told_72 rfl (lv_at hl 1 rfl) ?_
        refine lv_bipush (v := 20) S.1 S.2.1 dX12_told_73 (by decide) ?_
        refine lv_isub S.1 S.2.1 dX12_told_75 ?_
        refine utop (pk_sub (a := v) (b := 20) (by omega)) ?_
        refine ua_ild S hK Z (v - 20) (by decide) rfl rfl (by omega) dX12_told_76 ?_
        refine utop (y := (nI (w 6 (v - 20)))) (uMd_r hr (v - 20) (j := 6) (by decide)) ?_
        refine uret_i S hK Z hre hlk dX12_told_77 ?_
        rw [spTold, if_neg (fun q => absurd (Int32.le_trans q hin.2) (by decide)), if_pos hin, nI_clamp (show v < 2 ^ 31 by omega)]
        exact ⟨rfl, rfl⟩
      · skip
        rw [hM_8] at Z
        refine lv_if_eq (tgt := 78) S.1 S.2.1 dX12_told_65 (by decide) (fun _ => ?_) (fun c => absurd c (by decide))
        refine lv_iload_n S.1 S.2.1 dX12_told_78 rfl (lv_at hl 1 rfl) ?_
        by_cases k_11 : x = 0
        · skip
          refine utop k_11 ?_
          refine lv_tableIn (tgt := 108) S.1 S.2.1 dX12_told_79 (by decide) (by decide) rfl (by decide) ?_
          refine lv_aload_n S.1 S.2.1 dX12_told_108 rfl (lv_at hl 0 rfl) ?_
          refine ug_i S hK Z (j := 12) (by decide) rfl rfl rfl (by decide) iX12_told_X12 qX12_told_121 dX12_told_109 ?_
          refine utop (y := (nI n)) hn ?_
          refine uret_i S hK Z hre hlk dX12_told_112 ?_
          subst_vars
          rw [spTold, if_neg (by decide), if_neg (by decide), if_neg (by decide), if_pos rfl]
          exact ⟨rfl, rfl⟩
        · skip
          by_cases k_12 : x = 1
          · skip
            refine utop k_12 ?_
            refine lv_tableIn (tgt := 113) S.1 S.2.1 dX12_told_79 (by decide) (by decide) rfl (by decide) ?_
            refine lv_aload_n S.1 S.2.1 dX12_told_113 rfl (lv_at hl 0 rfl) ?_
            refine ug_i S hK Z (j := 6) (by decide) rfl rfl rfl (by decide) iX12_told_X12 qX12_told_84 dX12_told_114 ?_
            refine utop (y := (nI (w 0 7))) (uMd_6 hr) ?_
            refine uret_i S hK Z hre hlk dX12_told_117 ?_
            subst_vars
            rw [spTold, if_neg (by decide), if_neg (by decide), if_neg (by decide), if_neg (by decide), if_pos rfl]
            exact ⟨rfl, rfl⟩
          · skip
            by_cases k_13 : x = 2
            · skip
              refine utop k_13 ?_
              refine lv_tableIn (tgt := 118) S.1 S.2.1 dX12_told_79 (by decide) (by decide) rfl (by decide) ?_
              refine lv_aload_n S.1 S.2.1 dX12_told_118 rfl (lv_at hl 0 rfl) ?_
              refine ug_i S hK Z (j := 7) (by decide) rfl rfl rfl (by decide) iX12_told_X12 qX12_told_180 dX12_told_119 ?_
              refine utop (y := (nI (w 0 8))) (uMd_7 hr) ?_
              refine uret_i S hK Z hre hlk dX12_told_122 ?_
              subst_vars
              rw [spTold, if_neg (by decide), if_neg (by decide), if_neg (by decide), if_neg (by decide), if_neg (by decide), if_pos rfl]
              exact ⟨rfl, rfl⟩
            · skip
              by_cases k_14 : x = 3
              · skip
                refine utop k_14 ?_
                refine lv_tableIn (tgt := 123) S.1 S.2.1 dX12_told_79 (by decide) (by decide) rfl (by decide) ?_
                refine lv_aload_n S.1 S.2.1 dX12_told_123 rfl (lv_at hl 0 rfl) ?_
                refine ug_i S hK Z (j := 10) (by decide) rfl rfl rfl (by decide) iX12_told_X12 qX12_told_300 dX12_told_124 ?_
                refine utop (y := (nI (w 7 2))) (uMd_10 hr) ?_
                refine uret_i S hK Z hre hlk dX12_told_127 ?_
                subst_vars
                rw [spTold, if_neg (by decide), if_neg (by decide), if_neg (by decide), if_neg (by decide), if_neg (by decide), if_neg (by decide), if_pos rfl]
                exact ⟨rfl, rfl⟩
              · skip
                have tk_11 := lv_neT k_11 (show (0 : Int32).toInt = 0 from by decide)
                have tk_12 := lv_neT k_12 (show (1 : Int32).toInt = 1 from by decide)
                have tk_13 := lv_neT k_13 (show (2 : Int32).toInt = 2 from by decide)
                have tk_14 := lv_neT k_14 (show (3 : Int32).toInt = 3 from by decide)
                refine lv_tableOut (tgt := 128) S.1 S.2.1 dX12_told_79 (by omega) (by decide) ?_
                refine lv_bipush (v := (-2)) S.1 S.2.1 dX12_told_128 (by decide) ?_
                refine uret_i S hK Z hre hlk dX12_told_130 ?_
                refine ⟨?_, rfl⟩
                rw [spTold]
                by_cases h100 : 100 ≤ x
                · rw [if_pos h100]
                  obtain ⟨v, hv, rfl⟩ := nI_of (Int32.not_lt.mpr (Int32.le_trans (by decide) h100))
                  rw [nI_clamp hv, if_neg (fun q => absurd (show inr (nI v) 100 219 from ⟨h100, (nI_leI (a := v) (b := 219) hv (by decide)).mpr (by omega)⟩) (by assumption))]
                · rw [if_neg h100, if_neg (show ¬ inr x 20 27 by assumption), if_neg (show ¬ inr x 10 17 by assumption), if_neg (show ¬ x = 0 by assumption), if_neg (show ¬ x = 1 by assumption), if_neg (show ¬ x = 2 by assumption), if_neg (show ¬ x = 3 by assumption)]
