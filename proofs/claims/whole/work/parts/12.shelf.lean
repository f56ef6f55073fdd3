theorem u_bit32 {a k : Nat} (hk : k < 32) : (nI a >>> (nI k &&& 31)) &&& 1 = nI (a / 2 ^ k % 2) := by
  have e1 : (1 : Int32).toBitVec = 1#32 := rfl
  have h1 : (nI a).toBitVec.getLsbD k = decide (a / 2 ^ k % 2 = 1) := by
    show (BitVec.ofNat 32 a).getLsbD k = _
    rw [BitVec.getLsbD_ofNat, Nat.testBit_eq_decide_div_mod_eq]
    simp [hk]
  apply Int32.toBitVec_inj.mp
  apply BitVec.eq_of_getLsbD_eq
  intro i hi
  rw [Int32.toBitVec_and, BitVec.getLsbD_and, Int32.toBitVec_shiftRight, e1]
  show (((nI a).toBitVec.sshiftRight ((nI k &&& 31).toBitVec.smod 32).toNat).getLsbD i && (1#32).getLsbD i) = (BitVec.ofNat 32 (a / 2 ^ k % 2)).getLsbD i
  rw [u_sl k hk, BitVec.getLsbD_sshiftRight]
  by_cases h0 : i = 0
  · subst h0
    rw [Nat.add_zero, if_pos hk, h1]
    rcases Nat.mod_two_eq_zero_or_one (a / 2 ^ k) with h | h <;> rw [h] <;> simp
  · have h2 : (1#32).getLsbD i = false := by simp [h0]
    rw [h2, Bool.and_false]
    rcases Nat.mod_two_eq_zero_or_one (a / 2 ^ k) with h | h <;> rw [h]
    · simp
    · simp [h0]
/-! the shelf: what is left, coded -/
def cA (ln : Nat → Nat) (r p : Nat) : Nat → Nat
  | 0 => 0
  | i + 1 => cA ln r p i * 6 + (if i < r then ln i else min p (ln i))
theorem cA_lt {ln : Nat → Nat} {r p : Nat} (h : ∀ i, i < 5 → ln i ≤ 5) : ∀ i, i ≤ 5 → cA ln r p i < 6 ^ i := by
  intro i
  induction i with
  | zero => intro _; exact Nat.one_pos
  | succ i ih =>
    intro hi
    have h1 := ih (by omega)
    have h2 := h i (by omega)
    rw [cA, Nat.pow_succ]
    split <;> omega
def bitS (L : Nat → Nat) (c : Nat) : Nat := L (c / 32) / 2 ^ (c % 32) % 2
def lwp (L ln : Nat → Nat) (r : Nat) : Nat → Nat → Nat
  | 0, _ => 4294967290
  | f + 1, p => if p < ln r ∧ p < 5 then (if bitS L (cA ln r p 5) = 1 then 10 * r + p else lwp L ln r f (p + 1)) else 4294967290
def lwr (L ln : Nat → Nat) : Nat → Nat → Nat
  | 0, _ => 4294967290
  | f + 1, r => if lwp L ln r 6 0 = 4294967290 then lwr L ln f (r + 1) else lwp L ln r 6 0
def lw (L ln : Nat → Nat) : Nat := lwr L ln 5 0
theorem lwp_v {L ln : Nat → Nat} {r : Nat} (hr : r < 5) : ∀ f p, lwp L ln r f p = 4294967290 ∨ lwp L ln r f p < 100 := by
  intro f
  induction f with
  | zero => intro p; exact Or.inl rfl
  | succ f ih =>
    intro p
    rw [lwp]
    split
    · split
      · right; omega
      · exact ih (p + 1)
    · exact Or.inl rfl
theorem lwr_v {L ln : Nat → Nat} : ∀ f r, r + f = 5 → lwr L ln f r = 4294967290 ∨ lwr L ln f r < 100 := by
  intro f
  induction f with
  | zero => intro r _; exact Or.inl rfl
  | succ f ih =>
    intro r hf
    rw [lwr]
    split
    · exact ih (r + 1) (by omega)
    · exact lwp_v (by omega) 6 0
theorem lw_m6 (L ln : Nat → Nat) : nI (lw L ln) = -6 ↔ lw L ln = 4294967290 := by
  constructor
  · intro q
    rcases lwr_v (L := L) (ln := ln) 5 0 rfl with h | h
    · exact h
    · exact absurd q (nI_nm6 (by unfold lw; omega))
  · intro q
    rw [q]
    exact n6
/-- the next shelf; q rows are looked at, from above -/
def grF (ln : Nat → Nat) : Nat → (Nat → Nat)
  | 0 => ln
  | q + 1 => if ln q < (if q = 0 then 5 else ln (q - 1)) then fu ln q (ln q + 1) else grF (fu ln q 0) q
theorem grF_le : ∀ (q : Nat) (ln : Nat → Nat), q ≤ 5 → (∀ i, i < 5 → ln i ≤ 5) → ∀ i, i < 5 → grF ln q i ≤ 5 := by
  intro q
  induction q with
  | zero => intro ln _ h; exact h
  | succ q ih =>
    intro ln hq h i hi
    have hm : (if q = 0 then 5 else ln (q - 1)) ≤ 5 := by
      by_cases z : q = 0
      · rw [if_pos z]
        decide
      · rw [if_neg z]
        exact h (q - 1) (by omega)
    by_cases hc : ln q < (if q = 0 then 5 else ln (q - 1))
    · rw [grF, if_pos hc]
      unfold fu
      by_cases z : i = q
      · rw [if_pos z]
        omega
      · rw [if_neg z]
        exact h i hi
    · rw [grF, if_neg hc]
      refine ih _ (by omega) (fun j hj => ?_) i hi
      unfold fu
      by_cases z : j = q
      · rw [if_pos z]
        omega
      · rw [if_neg z]
        exact h j hj
theorem grF_z : ∀ (q : Nat) (ln : Nat → Nat), q ≤ 5 → (∀ i, 5 ≤ i → ln i = 0) → ∀ i, 5 ≤ i → grF ln q i = 0 := by
  intro q
  induction q with
  | zero => intro ln _ h; exact h
  | succ q ih =>
    intro ln hq h i hi
    by_cases hc : ln q < (if q = 0 then 5 else ln (q - 1))
    · rw [grF, if_pos hc, fu_ne (by omega)]
      exact h i hi
    · rw [grF, if_neg hc]
      exact ih (fu ln q 0) (by omega) (fun j hj => by rw [fu_ne (by omega)]; exact h j hj) i hi
theorem grF_n {ln : Nat → Nat} {q : Nat} (h : ¬ ln q < (if q = 0 then 5 else ln (q - 1))) : grF (fu ln q 0) q = grF ln (q + 1) := by
  show _ = (if ln q < (if q = 0 then 5 else ln (q - 1)) then fu ln q (ln q + 1) else grF (fu ln q 0) q)
  rw [if_neg h]
theorem grF_y {ln : Nat → Nat} {q : Nat} (h : ln q < (if q = 0 then 5 else ln (q - 1))) : fu ln q (ln q + 1) = grF ln (q + 1) := by
  show _ = (if ln q < (if q = 0 then 5 else ln (q - 1)) then fu ln q (ln q + 1) else grF (fu ln q 0) q)
  rw [if_pos h]
/-- what is learnt: which are lost (by bits), and the last shelf -/
def lrn : Nat → (Nat → Nat) × (Nat → Nat)
  | 0 => (fun _ => 0, fun _ => 0)
  | i + 1 => if lw (lrn i).1 (grF (lrn i).2 5) = 4294967290 then (fu (lrn i).1 (cA (grF (lrn i).2 5) 5 0 5 / 32) ((lrn i).1 (cA (grF (lrn i).2 5) 5 0 5 / 32) ||| 2 ^ (cA (grF (lrn i).2 5) 5 0 5 % 32)), grF (lrn i).2 5) else ((lrn i).1, grF (lrn i).2 5)
theorem lrn_le : ∀ i, ∀ x, x < 5 → (lrn i).2 x ≤ 5 := by
  intro i
  induction i with
  | zero => intro x _; exact Nat.zero_le _
  | succ i ih =>
    intro x hx
    rw [lrn]
    split <;> exact grF_le 5 _ (Nat.le_refl _) ih x hx
theorem lrn_z : ∀ i, (∀ x, 243 ≤ x → (lrn i).1 x = 0) ∧ ∀ x, 5 ≤ x → (lrn i).2 x = 0 := by
  intro i
  induction i with
  | zero => exact ⟨fun _ _ => rfl, fun _ _ => rfl⟩
  | succ i ih =>
    have h1 := cA_lt (r := 5) (p := 0) (grF_le 5 _ (Nat.le_refl _) (lrn_le i)) 5 (Nat.le_refl _)
    rw [lrn]
    split
    · refine ⟨fun x hx => ?_, fun x hx => grF_z 5 _ (Nat.le_refl _) ih.2 x hx⟩
      show fu _ _ _ x = 0
      rw [fu_ne (by omega)]
      exact ih.1 x hx
    · exact ⟨ih.1, fun x hx => grF_z 5 _ (Nat.le_refl _) ih.2 x hx⟩
theorem qX7_codeAfter_15 : Cond.fieldLink RX7 15 (TX7 1).1 (TX7 1).2.1 (TX7 1).2.2.1 ∈ wsX7_codeAfter := List.mem_of_getElem? (i := 1) rfl
theorem iX7_codeAfter_X7 : ∀ w ∈ wsX70, w ∈ wsX7_codeAfter := fun _ h => List.mem_cons_of_mem _ (List.mem_append_right _ h)
theorem qX7_codeAfter_54 : Cond.methodLink RX7 54 Lib.Math.min.name ∈ wsX7_codeAfter := List.mem_of_getElem? (i := 2) rfl
theorem qX7_codeAfter_w3 : Cond.static Lib.Math.min.name ∈ wsX7_codeAfter := List.mem_of_getElem? (i := 3) rfl
theorem qX7_codeAfter_w4 : Cond.initialized "java/lang/Math" ∈ wsX7_codeAfter := List.mem_of_getElem? (i := 4) rfl
theorem qX7_codeAfter_w5 : Cond.code Lib.Math.min.name Lib.Math.min.code 2 (some .int) ∈ wsX7_codeAfter := List.mem_of_getElem? (i := 5) rfl
theorem qX7_isLost_11 : Cond.fieldLink RX7 11 (TX7 0).1 (TX7 0).2.1 (TX7 0).2.2.1 ∈ wsX7_isLost := List.mem_of_getElem? (i := 1) rfl
theorem iX7_isLost_X7 : ∀ w ∈ wsX70, w ∈ wsX7_isLost := fun _ h => List.mem_cons_of_mem _ (List.mem_append_right _ h)
theorem qX7_leastWinning_15 : Cond.fieldLink RX7 15 (TX7 1).1 (TX7 1).2.1 (TX7 1).2.2.1 ∈ wsX7_leastWinning := List.mem_of_getElem? (i := 1) rfl
theorem iX7_leastWinning_X7 : ∀ w ∈ wsX70, w ∈ wsX7_leastWinning := fun _ h => List.mem_cons_of_mem _ (List.mem_append_right _ h)
theorem qX7_growToNext_15 : Cond.fieldLink RX7 15 (TX7 1).1 (TX7 1).2.1 (TX7 1).2.2.1 ∈ wsX7_growToNext := List.mem_of_getElem? (i := 1) rfl
theorem iX7_growToNext_X7 : ∀ w ∈ wsX70, w ∈ wsX7_growToNext := fun _ h => List.mem_cons_of_mem _ (List.mem_append_right _ h)
theorem qX7_learn_11 : Cond.fieldLink RX7 11 (TX7 0).1 (TX7 0).2.1 (TX7 0).2.2.1 ∈ wsX7_learn := List.mem_of_getElem? (i := 1) rfl
theorem iX7_learn_X7 : ∀ w ∈ wsX70, w ∈ wsX7_learn := fun _ h => List.mem_cons_of_mem _ (List.mem_append_right _ h)
theorem qX7_learn_15 : Cond.fieldLink RX7 15 (TX7 1).1 (TX7 1).2.1 (TX7 1).2.2.1 ∈ wsX7_learn := List.mem_of_getElem? (i := 2) rfl
set_option maxHeartbeats 4000000 in
set_option maxRecDepth 100000 in
theorem c_X7_codeAfter (l : Launch) (G : uG) (r p : Nat) (hr : r ≤ 5) (hp : p ≤ 5) (M : uM) (ln : Nat → Nat) (hln : ∀ i, M.1 48 i = nI (ln i)) (hl5 : ∀ i, i < 5 → ln i ≤ 5) : CTi l G yX7_codeAfter wsX7_codeAfter 1 21 [.ref (G.2.2 46), .int (nI r), .int (nI p)] M (fun x M2 => x = nI (cA ln r p 5) ∧ M2 = M) := by
  refine ustart_i (cc := cX7_codeAfter) (maxL := 6) (ret := (some .int)) (own := RX7) rfl (by decide) rfl (Nat.le_of_ble_eq_true rfl) ?_
  intro xp xe xs xm xa xb xt xc xA ls S hK hA Z hre hlk hl
  have hl : lv_has ls 6 [(0, .ref (G.2.2 46)), (1, .int (nI r)), (2, .int (nI p))] := hl
  refine lv_iconst (v := 0) S.1 S.2.1 dX7_codeAfter_0 (by decide) ?_
  refine lv_istore_n (lv' := [(3, .int 0), (0, .ref (G.2.2 46)), (1, .int (nI r)), (2, .int (nI p))]) S.1 S.2.1 dX7_codeAfter_1 rfl hl (by decide) rfl (fun ls hl => ?_)
  refine lv_iconst (v := 0) S.1 S.2.1 dX7_codeAfter_2 (by decide) ?_
  refine lv_istore (lv' := [(4, .int 0), (3, .int 0), (0, .ref (G.2.2 46)), (1, .int (nI r)), (2, .int (nI p))]) S.1 S.2.1 dX7_codeAfter_3 hl (by decide) rfl (fun ls hl => ?_)
  have LP5 : ∀ (fU : Nat) (cd : Nat) (i : Nat), (5 < i + fU) → (i ≤ 5) → (cd = cA ln r p i) → ∀ (H : Heap) (locs : List Loc) (ls : Array Slot), uZ G xA M xs.heap H locs → lv_has ls 6 [(4, .int (nI i)), (3, .int (nI cd)), (0, .ref (G.2.2 46)), (1, .int (nI r)), (2, .int (nI p))] → W xp l xe (uRm 1 21) xs xm xa xb xt xc H locs 0 0 (MQ xb (va_Qi (fun x M2 => x = nI (cA ln r p 5) ∧ M2 = M) (fun M' t => uB G M' t) xA) xa xs 0 0 xA) (F0 xm 5 ls []) := by
    intro fU
    induction fU with
    | zero =>
      intro cd i hfl i1 i2 H locs ls Z hl
      exfalso
      omega
    | succ fU ih5 =>
      intro cd i hfl i1 i2 H locs ls Z hl
      refine lv_iload S.1 S.2.1 dX7_codeAfter_5 (lv_at hl 0 rfl) ?_
      refine lv_iconst (v := 5) S.1 S.2.1 dX7_codeAfter_7 (by decide) ?_
      refine lv_icmp_ge (tgt := 58) S.1 S.2.1 dX7_codeAfter_8 (by decide) (fun c_1 => ?_) (fun c_1 => ?_)
      · skip
        have c_1 : 5 ≤ i := (nI_leI (a := 5) (b := i) (by omega) (by omega)).mp c_1
        refine lv_iload_n S.1 S.2.1 dX7_codeAfter_58 rfl (lv_at hl 1 rfl) ?_
        refine uret_i S hK Z hre hlk dX7_codeAfter_59 ?_
        obtain rfl : i = 5 := by omega
        rw [i2]
        exact ⟨rfl, rfl⟩
      · skip
        have c_1 : ¬ 5 ≤ i := fun z9 => c_1 ((nI_leI (a := 5) (b := i) (by omega) (by omega)).mpr z9)
        have b1 := hl5 i (by omega)
        refine lv_iload S.1 S.2.1 dX7_codeAfter_11 (lv_at hl 0 rfl) ?_
        refine lv_iload_n S.1 S.2.1 dX7_codeAfter_13 rfl (lv_at hl 3 rfl) ?_
        refine lv_icmp_ge (tgt := 29) S.1 S.2.1 dX7_codeAfter_14 (by decide) (fun c_2 => ?_) (fun c_2 => ?_)
        · skip
          have c_2 : r ≤ i := (nI_leI (a := r) (b := i) (by omega) (by omega)).mp c_2
          refine lv_iload_n S.1 S.2.1 dX7_codeAfter_29 rfl (lv_at hl 4 rfl) ?_
          refine lv_aload_n S.1 S.2.1 dX7_codeAfter_30 rfl (lv_at hl 2 rfl) ?_
          refine ug_r S hK Z (j := 1) 48 (by decide) rfl rfl rfl (by decide) iX7_codeAfter_X7 qX7_codeAfter_15 dX7_codeAfter_31 ?_
          refine lv_iload S.1 S.2.1 dX7_codeAfter_34 (lv_at hl 0 rfl) ?_
          refine ud_Si (As := [.ref (G.2.2 48), .int (nI i)]) (rest := [.int (nI p)]) S hK hA Z (c_X5_at l G 48 5 i (by decide) rfl (by omega) M) (va_cwS 2 S.2.2.2.2 gX7_codeAfter_X5_at rfl rfl rfl (by decide +kernel) ⟨Nat.le_of_ble_eq_true rfl, Nat.le_of_ble_eq_true rfl⟩) rfl hl.1 rfl (Nat.le_of_ble_eq_true rfl) dX7_codeAfter_36 ⟨Nat.zero_le _, Nat.zero_le _⟩ (fun H locs Z => ?_)
          refine utop (y := (nI (ln i))) (hln i) ?_
          refine va_mmin S.1 S.2.1 (S.2.2.1.trans hl.1.symm) S.2.2.2.1 (S.2.2.2.2 _ qX7_codeAfter_54) (S.2.2.2.2 _ qX7_codeAfter_w3) (S.2.2.2.2 _ qX7_codeAfter_w4) (S.2.2.2.2 _ qX7_codeAfter_w5) (Nat.le_of_ble_eq_true rfl) (Nat.le_of_ble_eq_true rfl) (Nat.zero_le _) (Nat.zero_le _) dX7_codeAfter_39 ?_
          refine utop (u_mmin (a := p) (b := (ln i)) (by omega) (by omega)) ?_
          refine lv_istore (lv' := [(5, .int (nI (min p (ln i)))), (4, .int (nI i)), (3, .int (nI cd)), (0, .ref (G.2.2 46)), (1, .int (nI r)), (2, .int (nI p))]) S.1 S.2.1 dX7_codeAfter_42 hl (by decide) rfl (fun ls hl => ?_)
          refine lv_iload_n S.1 S.2.1 dX7_codeAfter_44 rfl (lv_at hl 2 rfl) ?_
          refine lv_bipush (v := 6) S.1 S.2.1 dX7_codeAfter_45 (by decide) ?_
          refine lv_imul S.1 S.2.1 dX7_codeAfter_47 ?_
          refine utop (pk_mul cd 6) ?_
          refine lv_iload S.1 S.2.1 dX7_codeAfter_48 (lv_at hl 0 rfl) ?_
          refine lv_iadd S.1 S.2.1 dX7_codeAfter_50 ?_
          refine utop (nI_add (cd * 6) (min p (ln i))) ?_
          refine lv_istore_n (lv' := [(3, .int (nI ((cd * 6) + (min p (ln i))))), (5, .int (nI (min p (ln i)))), (4, .int (nI i)), (0, .ref (G.2.2 46)), (1, .int (nI r)), (2, .int (nI p))]) S.1 S.2.1 dX7_codeAfter_51 rfl hl (by decide) rfl (fun ls hl => ?_)
          refine lv_iinc (v := (nI (i + 1))) (lv' := [(4, .int (nI (i + 1))), (3, .int (nI ((cd * 6) + (min p (ln i))))), (5, .int (nI (min p (ln i)))), (0, .ref (G.2.2 46)), (1, .int (nI r)), (2, .int (nI p))]) S.1 S.2.1 dX7_codeAfter_52 hl (k := 2) rfl (u_inc1 i) (by decide) rfl (fun ls hl => ?_)
          refine lv_goto (tgt := 5) S.1 S.2.1 dX7_codeAfter_55 (by decide) ?_
          exact ih5 ((cd * 6) + (min p (ln i))) (i + 1) (by omega) (by omega) (by
              rw [cA, ← i2]
              first | rw [if_pos (by omega)] | rw [if_neg (by omega)]) _ _ _ Z (lv_sub hl [0, 1, 3, 4, 5] rfl)
        · skip
          have c_2 : ¬ r ≤ i := fun z9 => c_2 ((nI_leI (a := r) (b := i) (by omega) (by omega)).mpr z9)
          refine lv_aload_n S.1 S.2.1 dX7_codeAfter_17 rfl (lv_at hl 2 rfl) ?_
          refine ug_r S hK Z (j := 1) 48 (by decide) rfl rfl rfl (by decide) iX7_codeAfter_X7 qX7_codeAfter_15 dX7_codeAfter_18 ?_
          refine lv_iload S.1 S.2.1 dX7_codeAfter_21 (lv_at hl 0 rfl) ?_
          refine ud_Si (As := [.ref (G.2.2 48), .int (nI i)]) (rest := []) S hK hA Z (c_X5_at l G 48 5 i (by decide) rfl (by omega) M) (va_cwS 2 S.2.2.2.2 gX7_codeAfter_X5_at rfl rfl rfl (by decide +kernel) ⟨Nat.le_of_ble_eq_true rfl, Nat.le_of_ble_eq_true rfl⟩) rfl hl.1 rfl (Nat.le_of_ble_eq_true rfl) dX7_codeAfter_23 ⟨Nat.zero_le _, Nat.zero_le _⟩ (fun H locs Z => ?_)
          refine utop (y := (nI (ln i))) (hln i) ?_
          refine lv_goto (tgt := 42) S.1 S.2.1 dX7_codeAfter_26 (by decide) ?_
          refine lv_istore (lv' := [(5, .int (nI (ln i))), (4, .int (nI i)), (3, .int (nI cd)), (0, .ref (G.2.2 46)), (1, .int (nI r)), (2, .int (nI p))]) S.1 S.2.1 dX7_codeAfter_42 hl (by decide) rfl (fun ls hl => ?_)
          refine lv_iload_n S.1 S.2.1 dX7_codeAfter_44 rfl (lv_at hl 2 rfl) ?_
          refine lv_bipush (v := 6) S.1 S.2.1 dX7_codeAfter_45 (by decide) ?_
          refine lv_imul S.1 S.2.1 dX7_codeAfter_47 ?_
          refine utop (pk_mul cd 6) ?_
          refine lv_iload S.1 S.2.1 dX7_codeAfter_48 (lv_at hl 0 rfl) ?_
          refine lv_iadd S.1 S.2.1 dX7_codeAfter_50 ?_
          refine utop (nI_add (cd * 6) (ln i)) ?_
          refine lv_istore_n (lv' := [(3, .int (nI ((cd * 6) + (ln i)))), (5, .int (nI (ln i))), (4, .int (nI i)), (0, .ref (G.2.2 46)), (1, .int (nI r)), (2, .int (nI p))]) S.1 S.2.1 dX7_codeAfter_51 rfl hl (by decide) rfl (fun ls hl => ?_)
          refine lv_iinc (v := (nI (i + 1))) (lv' := [(4, .int (nI (i + 1))), (3, .int (nI ((cd * 6) + (ln i)))), (5, .int (nI (ln i))), (0, .ref (G.2.2 46)), (1, .int (nI r)), (2, .int (nI p))]) S.1 S.2.1 dX7_codeAfter_52 hl (k := 2) rfl (u_inc1 i) (by decide) rfl (fun ls hl => ?_)
          refine lv_goto (tgt := 5) S.1 S.2.1 dX7_codeAfter_55 (by decide) ?_
          exact ih5 ((cd * 6) + (ln i)) (i + 1) (by omega) (by omega) (by
              rw [cA, ← i2]
              first | rw [if_pos (by omega)] | rw [if_neg (by omega)]) _ _ _ Z (lv_sub hl [0, 1, 3, 4, 5] rfl)
  exact LP5 6 0 0 (by omega) (by omega) (by rfl) _ _ _ Z (lv_sub hl [0, 1, 2, 3, 4] rfl)
set_option maxHeartbeats 4000000 in
set_option maxRecDepth 100000 in
theorem c_X7_isLost (l : Launch) (G : uG) (cd : Nat) (hc : cd < 7776) (M : uM) (L : Nat → Nat) (hL : ∀ i, M.1 47 i = nI (L i)) : CTi l G yX7_isLost wsX7_isLost 1 21 [.ref (G.2.2 46), .int (nI cd)] M (fun r M2 => ((r = 1 ∧ bitS L cd = 1) ∨ (r = 0 ∧ ¬ bitS L cd = 1)) ∧ M2 = M) := by
  refine ustart_i (cc := cX7_isLost) (maxL := 2) (ret := (some .boolean)) (own := RX7) rfl (by decide) rfl (Nat.le_of_ble_eq_true rfl) ?_
  intro xp xe xs xm xa xb xt xc xA ls S hK hA Z hre hlk hl
  have hl : lv_has ls 2 [(0, .ref (G.2.2 46)), (1, .int (nI cd))] := hl
  refine lv_aload_n S.1 S.2.1 dX7_isLost_0 rfl (lv_at hl 0 rfl) ?_
  refine ug_r S hK Z (j := 0) 47 (by decide) rfl rfl rfl (by decide) iX7_isLost_X7 qX7_isLost_11 dX7_isLost_1 ?_
  refine lv_iload_n S.1 S.2.1 dX7_isLost_4 rfl (lv_at hl 1 rfl) ?_
  refine lv_bipush (v := 32) S.1 S.2.1 dX7_isLost_5 (by decide) ?_
  refine lv_idiv S.1 S.2.1 dX7_isLost_7 (by decide) ?_
  refine utop (pk_div (a := cd) (d := 32) (by omega) (by omega) (by omega)) ?_
  refine ud_Si (As := [.ref (G.2.2 47), .int (nI (cd / 32))]) (rest := []) S hK hA Z (c_X5_at l G 47 243 (cd / 32) (by decide) rfl (by omega) M) (va_cwS 2 S.2.2.2.2 gX7_isLost_X5_at rfl rfl rfl (by decide +kernel) ⟨Nat.le_of_ble_eq_true rfl, Nat.le_of_ble_eq_true rfl⟩) rfl hl.1 rfl (Nat.le_of_ble_eq_true rfl) dX7_isLost_8 ⟨Nat.zero_le _, Nat.zero_le _⟩ (fun H locs Z => ?_)
  refine utop (y := (nI (L (cd / 32)))) (hL (cd / 32)) ?_
  refine lv_iload_n S.1 S.2.1 dX7_isLost_11 rfl (lv_at hl 1 rfl) ?_
  refine lv_bipush (v := 32) S.1 S.2.1 dX7_isLost_12 (by decide) ?_
  refine lv_irem S.1 S.2.1 dX7_isLost_14 (by decide) ?_
  refine utop (pk_rem (a := cd) (d := 32) (by omega) (by omega) (by omega)) ?_
  refine lv_ishr S.1 S.2.1 dX7_isLost_15 ?_
  refine lv_iconst (v := 1) S.1 S.2.1 dX7_isLost_16 (by decide) ?_
  refine lv_iand S.1 S.2.1 dX7_isLost_17 ?_
  refine utop (u_bit32 (a := (L (cd / 32))) (k := (cd % 32)) (by omega)) ?_
  refine lv_iconst (v := 1) S.1 S.2.1 dX7_isLost_18 (by decide) ?_
  refine lv_icmp_ne (tgt := 26) S.1 S.2.1 dX7_isLost_19 (by decide) (fun c_2 => ?_) (fun c_2 => ?_)
  · skip
    have c_2 : ¬ ((L (cd / 32)) / 2 ^ (cd % 32) % 2) = 1 := fun z9 => c_2 ((nI_eq (a := ((L (cd / 32)) / 2 ^ (cd % 32) % 2)) (b := 1) (by omega) (by omega)).mpr z9)
    refine lv_iconst (v := 0) S.1 S.2.1 dX7_isLost_26 (by decide) ?_
    refine uret_z S hK Z hre hlk (by decide) dX7_isLost_27 ?_
    exact ⟨Or.inr ⟨rfl, by assumption⟩, rfl⟩
  · skip
    have c_2 : ((L (cd / 32)) / 2 ^ (cd % 32) % 2) = 1 := (nI_eq (a := ((L (cd / 32)) / 2 ^ (cd % 32) % 2)) (b := 1) (by omega) (by omega)).mp c_2
    refine lv_iconst (v := 1) S.1 S.2.1 dX7_isLost_22 (by decide) ?_
    refine lv_goto (tgt := 27) S.1 S.2.1 dX7_isLost_23 (by decide) ?_
    refine uret_z S hK Z hre hlk (by decide) dX7_isLost_27 ?_
    exact ⟨Or.inl ⟨rfl, by assumption⟩, rfl⟩
set_option maxHeartbeats 4000000 in
set_option maxRecDepth 100000 in
theorem c_X7_leastWinning (l : Launch) (G : uG) (M : uM) (L ln : Nat → Nat) (hL : ∀ i, M.1 47 i = nI (L i)) (hln : ∀ i, M.1 48 i = nI (ln i)) (hl5 : ∀ i, i < 5 → ln i ≤ 5) : CTi l G yX7_leastWinning wsX7_leastWinning 2 46 [.ref (G.2.2 46)] M (fun x M2 => x = nI (lw L ln) ∧ M2 = M) := by
  refine ustart_i (cc := cX7_leastWinning) (maxL := 3) (ret := (some .int)) (own := RX7) rfl (by decide) rfl (Nat.le_of_ble_eq_true rfl) ?_
  intro xp xe xs xm xa xb xt xc xA ls S hK hA Z hre hlk hl
  have hl : lv_has ls 3 [(0, .ref (G.2.2 46))] := hl
  refine lv_iconst (v := 0) S.1 S.2.1 dX7_leastWinning_0 (by decide) ?_
  refine lv_istore_n (lv' := [(1, .int 0), (0, .ref (G.2.2 46))]) S.1 S.2.1 dX7_leastWinning_1 rfl hl (by decide) rfl (fun ls hl => ?_)
  have LP2 : ∀ (fU : Nat) (r : Nat), (5 < r + fU) → (r ≤ 5) → (lwr L ln (5 - r) r = lw L ln) → ∀ (H : Heap) (locs : List Loc) (ls : Array Slot), uZ G xA M xs.heap H locs → lv_has ls 3 [(1, .int (nI r)), (0, .ref (G.2.2 46))] → W xp l xe (uRm 2 46) xs xm xa xb xt xc H locs 0 0 (MQ xb (va_Qi (fun x M2 => x = nI (lw L ln) ∧ M2 = M) (fun M' t => uB G M' t) xA) xa xs 0 0 xA) (F0 xm 2 ls []) := by
    intro fU
    induction fU with
    | zero =>
      intro r hfl i1 i2 H locs ls Z hl
      exfalso
      omega
    | succ fU ih2 =>
      intro r hfl i1 i2 H locs ls Z hl
      refine lv_iload_n S.1 S.2.1 dX7_leastWinning_2 rfl (lv_at hl 0 rfl) ?_
      refine lv_iconst (v := 5) S.1 S.2.1 dX7_leastWinning_3 (by decide) ?_
      refine lv_icmp_ge (tgt := 58) S.1 S.2.1 dX7_leastWinning_4 (by decide) (fun c_1 => ?_) (fun c_1 => ?_)
      · skip
        have c_1 : 5 ≤ r := (nI_leI (a := 5) (b := r) (by omega) (by omega)).mp c_1
        refine lv_bipush (v := (-6)) S.1 S.2.1 dX7_leastWinning_58 (by decide) ?_
        refine uret_i S hK Z hre hlk dX7_leastWinning_60 ?_
        rw [← i2, show 5 - r = 0 from by omega]
        exact ⟨n6.symm, rfl⟩
      · skip
        have c_1 : ¬ 5 ≤ r := fun z9 => c_1 ((nI_leI (a := 5) (b := r) (by omega) (by omega)).mpr z9)
        have e0 : 5 - r = (5 - (r + 1)) + 1 := by omega
        have b1 := hl5 r (by omega)
        refine lv_iconst (v := 0) S.1 S.2.1 dX7_leastWinning_7 (by decide) ?_
        refine lv_istore_n (lv' := [(2, .int 0), (1, .int (nI r)), (0, .ref (G.2.2 46))]) S.1 S.2.1 dX7_leastWinning_8 rfl hl (by decide) rfl (fun ls hl => ?_)
        have LP9 : ∀ (fU : Nat) (p : Nat), (5 < p + fU) → (p ≤ 5) → (lwp L ln r (6 - p) p = lwp L ln r 6 0) → ∀ (H : Heap) (locs : List Loc) (ls : Array Slot), uZ G xA M xs.heap H locs → lv_has ls 3 [(2, .int (nI p)), (1, .int (nI r)), (0, .ref (G.2.2 46))] → W xp l xe (uRm 2 46) xs xm xa xb xt xc H locs 0 0 (MQ xb (va_Qi (fun x M2 => x = nI (lw L ln) ∧ M2 = M) (fun M' t => uB G M' t) xA) xa xs 0 0 xA) (F0 xm 9 ls []) := by
          intro fU
          induction fU with
          | zero =>
            intro p hfl i3 i4 H locs ls Z hl
            exfalso
            omega
          | succ fU ih9 =>
            intro p hfl i3 i4 H locs ls Z hl
            refine lv_iload_n S.1 S.2.1 dX7_leastWinning_9 rfl (lv_at hl 0 rfl) ?_
            refine lv_aload_n S.1 S.2.1 dX7_leastWinning_10 rfl (lv_at hl 2 rfl) ?_
            refine ug_r S hK Z (j := 1) 48 (by decide) rfl rfl rfl (by decide) iX7_leastWinning_X7 qX7_leastWinning_15 dX7_leastWinning_11 ?_
            refine lv_iload_n S.1 S.2.1 dX7_leastWinning_14 rfl (lv_at hl 1 rfl) ?_
            refine ud_Si (As := [.ref (G.2.2 48), .int (nI r)]) (rest := [.int (nI p)]) S hK hA Z (c_X5_at l G 48 5 r (by decide) rfl (by omega) M) (va_cwS 2 S.2.2.2.2 gX7_leastWinning_X5_at rfl rfl rfl (by decide +kernel) ⟨Nat.le_of_ble_eq_true rfl, Nat.le_of_ble_eq_true rfl⟩) rfl hl.1 rfl (Nat.le_of_ble_eq_true rfl) dX7_leastWinning_15 ⟨Nat.zero_le _, Nat.zero_le _⟩ (fun H locs Z => ?_)
            refine utop (y := (nI (ln r))) (hln r) ?_
            refine lv_icmp_ge (tgt := 52) S.1 S.2.1 dX7_leastWinning_18 (by decide) (fun c_3 => ?_) (fun c_3 => ?_)
            · skip
              have c_3 : (ln r) ≤ p := (nI_leI (a := (ln r)) (b := p) (by omega) (by omega)).mp c_3
              have e9 : lwp L ln r (6 - p) p = 4294967290 := by
                rw [show 6 - p = (5 - p) + 1 from by omega, lwp, if_neg (by omega)]
              refine lv_iinc (v := (nI (r + 1))) (lv' := [(1, .int (nI (r + 1))), (2, .int (nI p)), (0, .ref (G.2.2 46))]) S.1 S.2.1 dX7_leastWinning_52 hl (k := 1) rfl (u_inc1 r) (by decide) rfl (fun ls hl => ?_)
              refine lv_goto (tgt := 2) S.1 S.2.1 dX7_leastWinning_55 (by decide) ?_
              exact ih2 (r + 1) (by omega) (by omega) (by rw [← i2, e0, lwr, if_pos (by rw [← i4]; exact e9)]) _ _ _ Z (lv_sub hl [0, 2] rfl)
            · skip
              have c_3 : ¬ (ln r) ≤ p := fun z9 => c_3 ((nI_leI (a := (ln r)) (b := p) (by omega) (by omega)).mpr z9)
              refine lv_iload_n S.1 S.2.1 dX7_leastWinning_21 rfl (lv_at hl 0 rfl) ?_
              refine lv_iconst (v := 5) S.1 S.2.1 dX7_leastWinning_22 (by decide) ?_
              refine lv_icmp_ge (tgt := 52) S.1 S.2.1 dX7_leastWinning_23 (by decide) (fun c_4 => ?_) (fun c_4 => ?_)
              · skip
                have c_4 : 5 ≤ p := (nI_leI (a := 5) (b := p) (by omega) (by omega)).mp c_4
                have e9 : lwp L ln r (6 - p) p = 4294967290 := by
                  rw [show 6 - p = (5 - p) + 1 from by omega, lwp, if_neg (by omega)]
                refine lv_iinc (v := (nI (r + 1))) (lv' := [(1, .int (nI (r + 1))), (2, .int (nI p)), (0, .ref (G.2.2 46))]) S.1 S.2.1 dX7_leastWinning_52 hl (k := 1) rfl (u_inc1 r) (by decide) rfl (fun ls hl => ?_)
                refine lv_goto (tgt := 2) S.1 S.2.1 dX7_leastWinning_55 (by decide) ?_
                exact ih2 (r + 1) (by omega) (by omega) (by rw [← i2, e0, lwr, if_pos (by rw [← i4]; exact e9)]) _ _ _ Z (lv_sub hl [0, 2] rfl)
              · skip
                have c_4 : ¬ 5 ≤ p := fun z9 => c_4 ((nI_leI (a := 5) (b := p) (by omega) (by omega)).mpr z9)
                have e1 : 6 - p = (5 - p) + 1 := by omega
                have b2 := cA_lt (r := r) (p := p) hl5 5 (Nat.le_refl _)
                refine lv_aload_n S.1 S.2.1 dX7_leastWinning_26 rfl (lv_at hl 2 rfl) ?_
                refine lv_aload_n S.1 S.2.1 dX7_leastWinning_27 rfl (lv_at hl 2 rfl) ?_
                refine lv_iload_n S.1 S.2.1 dX7_leastWinning_28 rfl (lv_at hl 1 rfl) ?_
                refine lv_iload_n S.1 S.2.1 dX7_leastWinning_29 rfl (lv_at hl 0 rfl) ?_
                refine ud_Vi (As := [.int (nI r), .int (nI p)]) (rest := [.ref (G.2.2 46)]) S hK hA Z (c_X7_codeAfter l G r p (by omega) (by omega) M ln hln hl5) (cwV 2 S.2.2.2.2 gX7_leastWinning_X7_codeAfter rfl rfl rfl (by decide +kernel) ⟨Nat.le_of_ble_eq_true rfl, Nat.le_of_ble_eq_true rfl⟩) (by decide) rfl rfl rfl hl.1 rfl (Nat.le_of_ble_eq_true rfl) dX7_leastWinning_30 ⟨Nat.zero_le _, Nat.zero_le _⟩ (fun H locs Z => ?_)
                refine uc_Vi (As := [.int (nI (cA ln r p 5))]) (rest := []) S hK hA Z (c_X7_isLost l G (cA ln r p 5) (by omega) M L hL) (cwV 1 S.2.2.2.2 gX7_leastWinning_X7_isLost rfl rfl rfl (by decide +kernel) ⟨Nat.le_of_ble_eq_true rfl, Nat.le_of_ble_eq_true rfl⟩) (by decide) rfl rfl rfl hl.1 rfl (Nat.le_of_ble_eq_true rfl) dX7_leastWinning_33 ⟨Nat.zero_le _, Nat.zero_le _⟩ (fun r_6 M_6 H locs hp Z => ?_)
                obtain ⟨⟨rfl, w_6⟩ | ⟨rfl, w_6⟩, hM_6⟩ := hp
                · skip
                  have w0 := w_6
                  rw [hM_6] at Z
                  refine lv_if_eq (tgt := 46) S.1 S.2.1 dX7_leastWinning_36 (by decide) (fun c => absurd c (by decide)) (fun _ => ?_)
                  refine lv_bipush (v := 10) S.1 S.2.1 dX7_leastWinning_39 (by decide) ?_
                  refine lv_iload_n S.1 S.2.1 dX7_leastWinning_41 rfl (lv_at hl 1 rfl) ?_
                  refine lv_imul S.1 S.2.1 dX7_leastWinning_42 ?_
                  refine utop (pk_mul 10 r) ?_
                  refine lv_iload_n S.1 S.2.1 dX7_leastWinning_43 rfl (lv_at hl 0 rfl) ?_
                  refine lv_iadd S.1 S.2.1 dX7_leastWinning_44 ?_
                  refine utop (nI_add (10 * r) p) ?_
                  refine uret_i S hK Z hre hlk dX7_leastWinning_45 ?_
                  have e8 : lwp L ln r 6 0 = 10 * r + p := by
                    rw [← i4, e1, lwp, if_pos ⟨by omega, by omega⟩, if_pos w0]
                  rw [← i2, e0, lwr, if_neg (by rw [e8]; omega), e8]
                  exact ⟨rfl, rfl⟩
                · skip
                  have w0 := w_6
                  rw [hM_6] at Z
                  refine lv_if_eq (tgt := 46) S.1 S.2.1 dX7_leastWinning_36 (by decide) (fun _ => ?_) (fun c => absurd c (by decide))
                  refine lv_iinc (v := (nI (p + 1))) (lv' := [(2, .int (nI (p + 1))), (1, .int (nI r)), (0, .ref (G.2.2 46))]) S.1 S.2.1 dX7_leastWinning_46 hl (k := 0) rfl (u_inc1 p) (by decide) rfl (fun ls hl => ?_)
                  refine lv_goto (tgt := 9) S.1 S.2.1 dX7_leastWinning_49 (by decide) ?_
                  exact ih9 (p + 1) (by omega) (by omega) (by rw [← i4, e1, lwp, if_pos ⟨by omega, by omega⟩, if_neg w0, show 5 - p = 6 - (p + 1) from by omega]) _ _ _ Z (lv_sub hl [0, 1, 2] rfl)
        exact LP9 6 0 (by omega) (by omega) (by rfl) _ _ _ Z (lv_sub hl [0, 1, 2] rfl)
  exact LP2 6 0 (by omega) (by omega) (by rfl) _ _ _ Z (lv_sub hl [0, 1] rfl)
set_option maxHeartbeats 4000000 in
set_option maxRecDepth 100000 in
theorem c_X7_growToNext (l : Launch) (G : uG) (M : uM) (ln : Nat → Nat) (hl5 : ∀ i, i < 5 → ln i ≤ 5) : CTv l G yX7_growToNext wsX7_growToNext 1 22 [.ref (G.2.2 46)] (uAr M 48 ln) (fun M2 => M2 = uAr M 48 (grF ln 5)) := by
  refine ustart_v (cc := cX7_growToNext) (maxL := 3) (ret := none) (own := RX7) rfl (by decide) rfl (Nat.le_of_ble_eq_true rfl) ?_
  intro xp xe xs xm xa xb xt xc xA ls S hK hA Z hre hlk hl
  have hl : lv_has ls 3 [(0, .ref (G.2.2 46))] := hl
  refine lv_iconst (v := 4) S.1 S.2.1 dX7_growToNext_0 (by decide) ?_
  refine lv_istore_n (lv' := [(1, .int 4), (0, .ref (G.2.2 46))]) S.1 S.2.1 dX7_growToNext_1 rfl hl (by decide) rfl (fun ls hl => ?_)
  have LP2 : ∀ (fU : Nat) (q : Nat) (x4 : Int32) (ln1 : Nat → Nat), (q < fU) → (q ≤ 5) → ((q = 0 ∧ x4 = -1) ∨ ∃ q1, q = q1 + 1 ∧ x4 = nI q1) → (grF ln1 q = grF ln 5) → (∀ i, i < 5 → ln1 i ≤ 5) → ∀ (H : Heap) (locs : List Loc) (ls : Array Slot), uZ G xA (uAr M 48 ln1) xs.heap H locs → lv_has ls 3 [(1, .int x4), (0, .ref (G.2.2 46))] → W xp l xe (uRm 1 22) xs xm xa xb xt xc H locs 0 0 (MQ xb (va_Qv (fun M2 => M2 = uAr M 48 (grF ln 5)) (fun M' t => uB G M' t) xA) xa xs 0 0 xA) (F0 xm 2 ls []) := by
    intro fU
    induction fU with
    | zero =>
      intro q x4 ln1 hfl i1 hx i2 i3 H locs ls Z hl
      exfalso
      omega
    | succ fU ih2 =>
      intro q x4 ln1 hfl i1 hx i2 i3 H locs ls Z hl
      rcases hx with ⟨hq0, hx⟩ | ⟨_ | q1, hq0, hx⟩
      · skip
        subst hq0
        subst hx
        refine lv_iload_n S.1 S.2.1 dX7_growToNext_2 rfl (lv_at hl 0 rfl) ?_
        refine lv_if_lt (tgt := 71) S.1 S.2.1 dX7_growToNext_3 (by decide) (fun _ => ?_) (fun c => absurd c (by decide))
        refine uret_v S hK Z hre hlk dX7_growToNext_71 ?_
        exact congrArg (uAr M 48) i2
      · skip
        subst hq0
        subst hx
        refine lv_iload_n S.1 S.2.1 dX7_growToNext_2 rfl (lv_at hl 0 rfl) ?_
        refine lv_if_lt (tgt := 71) S.1 S.2.1 dX7_growToNext_3 (by decide) (fun c => absurd c (by decide)) (fun _ => ?_)
        refine lv_iload_n S.1 S.2.1 dX7_growToNext_6 rfl (lv_at hl 0 rfl) ?_
        refine lv_if_ne (tgt := 14) S.1 S.2.1 dX7_growToNext_7 (by decide) (fun c => absurd c (by decide)) (fun _ => ?_)
        refine lv_iconst (v := 5) S.1 S.2.1 dX7_growToNext_10 (by decide) ?_
        refine lv_goto (tgt := 24) S.1 S.2.1 dX7_growToNext_11 (by decide) ?_
        refine lv_istore_n (lv' := [(2, .int 5), (1, .int (nI 0)), (0, .ref (G.2.2 46))]) S.1 S.2.1 dX7_growToNext_24 rfl hl (by decide) rfl (fun ls hl => ?_)
        have b1 := i3 0 (by omega)
        refine lv_aload_n S.1 S.2.1 dX7_growToNext_25 rfl (lv_at hl 2 rfl) ?_
        refine ug_r S hK Z (j := 1) 48 (by decide) rfl rfl rfl (by decide) iX7_growToNext_X7 qX7_growToNext_15 dX7_growToNext_26 ?_
        refine lv_iload_n S.1 S.2.1 dX7_growToNext_29 rfl (lv_at hl 1 rfl) ?_
        refine ud_Si (As := [.ref (G.2.2 48), .int (nI 0)]) (rest := []) S hK hA Z (c_X5_at l G 48 5 0 (by decide) rfl (by omega) (uAr M 48 ln1)) (va_cwS 2 S.2.2.2.2 gX7_growToNext_X5_at rfl rfl rfl (by decide +kernel) ⟨Nat.le_of_ble_eq_true rfl, Nat.le_of_ble_eq_true rfl⟩) rfl hl.1 rfl (Nat.le_of_ble_eq_true rfl) dX7_growToNext_30 ⟨Nat.zero_le _, Nat.zero_le _⟩ (fun H locs Z => ?_)
        refine utop (y := (nI (ln1 0))) (uAr_g M 48 ln1 0) ?_
        refine lv_iload_n S.1 S.2.1 dX7_growToNext_33 rfl (lv_at hl 0 rfl) ?_
        refine lv_icmp_ge (tgt := 56) S.1 S.2.1 dX7_growToNext_34 (by decide) (fun c_5 => ?_) (fun c_5 => ?_)
        · skip
          have c_5 : 5 ≤ (ln1 0) := (nI_leI (a := 5) (b := (ln1 0)) (by omega) (by omega)).mp c_5
          refine lv_aload_n S.1 S.2.1 dX7_growToNext_56 rfl (lv_at hl 2 rfl) ?_
          refine ug_r S hK Z (j := 1) 48 (by decide) rfl rfl rfl (by decide) iX7_growToNext_X7 qX7_growToNext_15 dX7_growToNext_57 ?_
          refine lv_iload_n S.1 S.2.1 dX7_growToNext_60 rfl (lv_at hl 1 rfl) ?_
          refine lv_iconst (v := 0) S.1 S.2.1 dX7_growToNext_61 (by decide) ?_
          refine ud_Sv (As := [.ref (G.2.2 48), .int (nI 0), .int 0]) (rest := []) S hK hA Z (c_X5_put l G 48 5 0 (by decide) rfl (by omega) 0 (uAr M 48 ln1)) (va_cwS 3 S.2.2.2.2 gX7_growToNext_X5_put rfl rfl rfl (by decide +kernel) ⟨Nat.le_of_ble_eq_true rfl, Nat.le_of_ble_eq_true rfl⟩) rfl hl.1 rfl (Nat.le_of_ble_eq_true rfl) dX7_growToNext_62 ⟨Nat.zero_le _, Nat.zero_le _⟩ (fun H locs Z => ?_)
          have Z := uZ_eq (uAr_s M 48 ln1 0 0) Z
          refine lv_iinc (v := ((nI 0) + (-1))) (lv' := [(1, .int ((nI 0) + (-1))), (2, .int 5), (0, .ref (G.2.2 46))]) S.1 S.2.1 dX7_growToNext_65 hl (k := 1) rfl rfl (by decide) rfl (fun ls hl => ?_)
          refine lv_goto (tgt := 2) S.1 S.2.1 dX7_growToNext_68 (by decide) ?_
          exact ih2 0 ((nI 0) + (-1)) (fu ln1 0 0) (by omega) (by omega) (by exact u_down 0) (by exact (grF_n (by show ¬ ln1 0 < 5; omega)).trans i2) (by
              intro i hi
              unfold fu
              split
              · omega
              · exact i3 i hi) _ _ _ Z (lv_sub hl [0, 2] rfl)
        · skip
          have c_5 : ¬ 5 ≤ (ln1 0) := fun z9 => c_5 ((nI_leI (a := 5) (b := (ln1 0)) (by omega) (by omega)).mpr z9)
          refine lv_aload_n S.1 S.2.1 dX7_growToNext_37 rfl (lv_at hl 2 rfl) ?_
          refine ug_r S hK Z (j := 1) 48 (by decide) rfl rfl rfl (by decide) iX7_growToNext_X7 qX7_growToNext_15 dX7_growToNext_38 ?_
          refine lv_iload_n S.1 S.2.1 dX7_growToNext_41 rfl (lv_at hl 1 rfl) ?_
          refine lv_aload_n S.1 S.2.1 dX7_growToNext_42 rfl (lv_at hl 2 rfl) ?_
          refine ug_r S hK Z (j := 1) 48 (by decide) rfl rfl rfl (by decide) iX7_growToNext_X7 qX7_growToNext_15 dX7_growToNext_43 ?_
          refine lv_iload_n S.1 S.2.1 dX7_growToNext_46 rfl (lv_at hl 1 rfl) ?_
          refine ud_Si (As := [.ref (G.2.2 48), .int (nI 0)]) (rest := [.int (nI 0), .ref (G.2.2 48)]) S hK hA Z (c_X5_at l G 48 5 0 (by decide) rfl (by omega) (uAr M 48 ln1)) (va_cwS 2 S.2.2.2.2 gX7_growToNext_X5_at rfl rfl rfl (by decide +kernel) ⟨Nat.le_of_ble_eq_true rfl, Nat.le_of_ble_eq_true rfl⟩) rfl hl.1 rfl (Nat.le_of_ble_eq_true rfl) dX7_growToNext_47 ⟨Nat.zero_le _, Nat.zero_le _⟩ (fun H locs Z => ?_)
          refine utop (y := (nI (ln1 0))) (uAr_g M 48 ln1 0) ?_
          refine lv_iconst (v := 1) S.1 S.2.1 dX7_growToNext_50 (by decide) ?_
          refine lv_iadd S.1 S.2.1 dX7_growToNext_51 ?_
          refine utop (nI_add (ln1 0) 1) ?_
          refine ud_Sv (As := [.ref (G.2.2 48), .int (nI 0), .int (nI ((ln1 0) + 1))]) (rest := []) S hK hA Z (c_X5_put l G 48 5 0 (by decide) rfl (by omega) (nI ((ln1 0) + 1)) (uAr M 48 ln1)) (va_cwS 3 S.2.2.2.2 gX7_growToNext_X5_put rfl rfl rfl (by decide +kernel) ⟨Nat.le_of_ble_eq_true rfl, Nat.le_of_ble_eq_true rfl⟩) rfl hl.1 rfl (Nat.le_of_ble_eq_true rfl) dX7_growToNext_52 ⟨Nat.zero_le _, Nat.zero_le _⟩ (fun H locs Z => ?_)
          have Z := uZ_eq (uAr_s M 48 ln1 0 ((ln1 0) + 1)) Z
          refine uret_v S hK Z hre hlk dX7_growToNext_55 ?_
          exact congrArg (uAr M 48) ((grF_y (by show ln1 0 < 5; omega)).trans i2)
      · skip
        subst hq0
        subst hx
        refine lv_iload_n S.1 S.2.1 dX7_growToNext_2 rfl (lv_at hl 0 rfl) ?_
        refine lv_if_lt (tgt := 71) S.1 S.2.1 dX7_growToNext_3 (by decide) (fun c_9 => ?_) (fun c_9 => ?_)
        · skip
          have c_9 : (q1 + 1) < 0 := (nI_ltI (a := (q1 + 1)) (b := 0) (by omega) (by omega)).mp c_9
          omega
        · skip
          have c_9 : ¬ (q1 + 1) < 0 := fun z9 => c_9 ((nI_ltI (a := (q1 + 1)) (b := 0) (by omega) (by omega)).mpr z9)
          refine lv_iload_n S.1 S.2.1 dX7_growToNext_6 rfl (lv_at hl 0 rfl) ?_
          refine lv_if_ne (tgt := 14) S.1 S.2.1 dX7_growToNext_7 (by decide) (fun c_10 => ?_) (fun c_10 => ?_)
          · skip
            have c_10 : ¬ (q1 + 1) = 0 := fun z9 => c_10 ((nI_eq (a := (q1 + 1)) (b := 0) (by omega) (by omega)).mpr z9)
            refine lv_aload_n S.1 S.2.1 dX7_growToNext_14 rfl (lv_at hl 1 rfl) ?_
            refine ug_r S hK Z (j := 1) 48 (by decide) rfl rfl rfl (by decide) iX7_growToNext_X7 qX7_growToNext_15 dX7_growToNext_15 ?_
            refine lv_iload_n S.1 S.2.1 dX7_growToNext_18 rfl (lv_at hl 0 rfl) ?_
            refine lv_iconst (v := 1) S.1 S.2.1 dX7_growToNext_19 (by decide) ?_
            refine lv_isub S.1 S.2.1 dX7_growToNext_20 ?_
            refine utop (y := (nI q1)) (pk_sub (a := (q1 + 1)) (b := 1) (by omega)) ?_
            refine ud_Si (As := [.ref (G.2.2 48), .int (nI q1)]) (rest := []) S hK hA Z (c_X5_at l G 48 5 q1 (by decide) rfl (by omega) (uAr M 48 ln1)) (va_cwS 2 S.2.2.2.2 gX7_growToNext_X5_at rfl rfl rfl (by decide +kernel) ⟨Nat.le_of_ble_eq_true rfl, Nat.le_of_ble_eq_true rfl⟩) rfl hl.1 rfl (Nat.le_of_ble_eq_true rfl) dX7_growToNext_21 ⟨Nat.zero_le _, Nat.zero_le _⟩ (fun H locs Z => ?_)
            refine utop (y := (nI (ln1 q1))) (uAr_g M 48 ln1 q1) ?_
            refine lv_istore_n (lv' := [(2, .int (nI (ln1 q1))), (1, .int (nI (q1 + 1))), (0, .ref (G.2.2 46))]) S.1 S.2.1 dX7_growToNext_24 rfl hl (by decide) rfl (fun ls hl => ?_)
            have b1 := i3 (q1 + 1) (by omega)
            have b2 := i3 q1 (by omega)
            refine lv_aload_n S.1 S.2.1 dX7_growToNext_25 rfl (lv_at hl 2 rfl) ?_
            refine ug_r S hK Z (j := 1) 48 (by decide) rfl rfl rfl (by decide) iX7_growToNext_X7 qX7_growToNext_15 dX7_growToNext_26 ?_
            refine lv_iload_n S.1 S.2.1 dX7_growToNext_29 rfl (lv_at hl 1 rfl) ?_
            refine ud_Si (As := [.ref (G.2.2 48), .int (nI (q1 + 1))]) (rest := []) S hK hA Z (c_X5_at l G 48 5 (q1 + 1) (by decide) rfl (by omega) (uAr M 48 ln1)) (va_cwS 2 S.2.2.2.2 gX7_growToNext_X5_at rfl rfl rfl (by decide +kernel) ⟨Nat.le_of_ble_eq_true rfl, Nat.le_of_ble_eq_true rfl⟩) rfl hl.1 rfl (Nat.le_of_ble_eq_true rfl) dX7_growToNext_30 ⟨Nat.zero_le _, Nat.zero_le _⟩ (fun H locs Z => ?_)
            refine utop (y := (nI (ln1 (q1 + 1)))) (uAr_g M 48 ln1 (q1 + 1)) ?_
            refine lv_iload_n S.1 S.2.1 dX7_growToNext_33 rfl (lv_at hl 0 rfl) ?_
            refine lv_icmp_ge (tgt := 56) S.1 S.2.1 dX7_growToNext_34 (by decide) (fun c_13 => ?_) (fun c_13 => ?_)
            · skip
              have c_13 : (ln1 q1) ≤ (ln1 (q1 + 1)) := (nI_leI (a := (ln1 q1)) (b := (ln1 (q1 + 1))) (by omega) (by omega)).mp c_13
              refine lv_aload_n S.1 S.2.1 dX7_growToNext_56 rfl (lv_at hl 2 rfl) ?_
              refine ug_r S hK Z (j := 1) 48 (by decide) rfl rfl rfl (by decide) iX7_growToNext_X7 qX7_growToNext_15 dX7_growToNext_57 ?_
              refine lv_iload_n S.1 S.2.1 dX7_growToNext_60 rfl (lv_at hl 1 rfl) ?_
              refine lv_iconst (v := 0) S.1 S.2.1 dX7_growToNext_61 (by decide) ?_
              refine ud_Sv (As := [.ref (G.2.2 48), .int (nI (q1 + 1)), .int 0]) (rest := []) S hK hA Z (c_X5_put l G 48 5 (q1 + 1) (by decide) rfl (by omega) 0 (uAr M 48 ln1)) (va_cwS 3 S.2.2.2.2 gX7_growToNext_X5_put rfl rfl rfl (by decide +kernel) ⟨Nat.le_of_ble_eq_true rfl, Nat.le_of_ble_eq_true rfl⟩) rfl hl.1 rfl (Nat.le_of_ble_eq_true rfl) dX7_growToNext_62 ⟨Nat.zero_le _, Nat.zero_le _⟩ (fun H locs Z => ?_)
              have Z := uZ_eq (uAr_s M 48 ln1 (q1 + 1) 0) Z
              refine lv_iinc (v := (nI q1)) (lv' := [(1, .int (nI q1)), (2, .int (nI (ln1 q1))), (0, .ref (G.2.2 46))]) S.1 S.2.1 dX7_growToNext_65 hl (k := 1) rfl (u_dec1 q1) (by decide) rfl (fun ls hl => ?_)
              refine lv_goto (tgt := 2) S.1 S.2.1 dX7_growToNext_68 (by decide) ?_
              exact ih2 (q1 + 1) (nI q1) (fu ln1 (q1 + 1) 0) (by omega) (by omega) (by exact Or.inr ⟨q1, rfl, rfl⟩) (by exact (grF_n (by rw [if_neg (by omega)]; show ¬ ln1 (q1 + 1) < ln1 q1; omega)).trans i2) (by
                  intro i hi
                  unfold fu
                  split
                  · omega
                  · exact i3 i hi) _ _ _ Z (lv_sub hl [0, 2] rfl)
            · skip
              have c_13 : ¬ (ln1 q1) ≤ (ln1 (q1 + 1)) := fun z9 => c_13 ((nI_leI (a := (ln1 q1)) (b := (ln1 (q1 + 1))) (by omega) (by omega)).mpr z9)
              refine lv_aload_n S.1 S.2.1 dX7_growToNext_37 rfl (lv_at hl 2 rfl) ?_
              refine ug_r S hK Z (j := 1) 48 (by decide) rfl rfl rfl (by decide) iX7_growToNext_X7 qX7_growToNext_15 dX7_growToNext_38 ?_
              refine lv_iload_n S.1 S.2.1 dX7_growToNext_41 rfl (lv_at hl 1 rfl) ?_
              refine lv_aload_n S.1 S.2.1 dX7_growToNext_42 rfl (lv_at hl 2 rfl) ?_
              refine ug_r S hK Z (j := 1) 48 (by decide) rfl rfl rfl (by decide) iX7_growToNext_X7 qX7_growToNext_15 dX7_growToNext_43 ?_
              refine lv_iload_n S.1 S.2.1 dX7_growToNext_46 rfl (lv_at hl 1 rfl) ?_
              refine ud_Si (As := [.ref (G.2.2 48), .int (nI (q1 + 1))]) (rest := [.int (nI (q1 + 1)), .ref (G.2.2 48)]) S hK hA Z (c_X5_at l G 48 5 (q1 + 1) (by decide) rfl (by omega) (uAr M 48 ln1)) (va_cwS 2 S.2.2.2.2 gX7_growToNext_X5_at rfl rfl rfl (by decide +kernel) ⟨Nat.le_of_ble_eq_true rfl, Nat.le_of_ble_eq_true rfl⟩) rfl hl.1 rfl (Nat.le_of_ble_eq_true rfl) dX7_growToNext_47 ⟨Nat.zero_le _, Nat.zero_le _⟩ (fun H locs Z => ?_)
              refine utop (y := (nI (ln1 (q1 + 1)))) (uAr_g M 48 ln1 (q1 + 1)) ?_
              refine lv_iconst (v := 1) S.1 S.2.1 dX7_growToNext_50 (by decide) ?_
              refine lv_iadd S.1 S.2.1 dX7_growToNext_51 ?_
              refine utop (nI_add (ln1 (q1 + 1)) 1) ?_
              refine ud_Sv (As := [.ref (G.2.2 48), .int (nI (q1 + 1)), .int (nI ((ln1 (q1 + 1)) + 1))]) (rest := []) S hK hA Z (c_X5_put l G 48 5 (q1 + 1) (by decide) rfl (by omega) (nI ((ln1 (q1 + 1)) + 1)) (uAr M 48 ln1)) (va_cwS 3 S.2.2.2.2 gX7_growToNext_X5_put rfl rfl rfl (by decide +kernel) ⟨Nat.le_of_ble_eq_true rfl, Nat.le_of_ble_eq_true rfl⟩) rfl hl.1 rfl (Nat.le_of_ble_eq_true rfl) dX7_growToNext_52 ⟨Nat.zero_le _, Nat.zero_le _⟩ (fun H locs Z => ?_)
              have Z := uZ_eq (uAr_s M 48 ln1 (q1 + 1) ((ln1 (q1 + 1)) + 1)) Z
              refine uret_v S hK Z hre hlk dX7_growToNext_55 ?_
              exact congrArg (uAr M 48) ((grF_y (by rw [if_neg (by omega)]; show ln1 (q1 + 1) < ln1 q1; omega)).trans i2)
          · skip
            have c_10 : (q1 + 1) = 0 := (nI_eq (a := (q1 + 1)) (b := 0) (by omega) (by omega)).mp c_10
            omega
  exact LP2 6 5 4 ln (by omega) (by omega) (by exact Or.inr ⟨4, rfl, rfl⟩) (by rfl) (by exact hl5) _ _ _ Z (lv_sub hl [0, 1] rfl)
set_option maxHeartbeats 4000000 in
set_option maxRecDepth 100000 in
theorem c_X7_learn (l : Launch) (G : uG) (M : uM) (L0 ln0 : Nat → Nat) (hz1 : ∀ i, 243 ≤ i → L0 i = 0) (hz2 : ∀ i, 5 ≤ i → ln0 i = 0) : CTv l G yX7_learn wsX7_learn 3 68 [.ref (G.2.2 46)] (uAr (uAr M 47 L0) 48 ln0) (fun M2 => M2 = uAr (uAr M 47 (lrn 251).1) 48 (lrn 251).2) := by
  refine ustart_v (cc := cX7_learn) (maxL := 3) (ret := none) (own := RX7) rfl (by decide) rfl (Nat.le_of_ble_eq_true rfl) ?_
  intro xp xe xs xm xa xb xt xc xA ls S hK hA Z hre hlk hl
  have hl : lv_has ls 3 [(0, .ref (G.2.2 46))] := hl
  refine lv_aload_n S.1 S.2.1 dX7_learn_0 rfl (lv_at hl 0 rfl) ?_
  refine ug_r S hK Z (j := 0) 47 (by decide) rfl rfl rfl (by decide) iX7_learn_X7 qX7_learn_11 dX7_learn_1 ?_
  refine lv_iconst (v := 0) S.1 S.2.1 dX7_learn_4 (by decide) ?_
  refine ud_Sv (As := [.ref (G.2.2 47), .int 0]) (rest := []) S hK hA Z (c_X5_fill l G 47 243 (by decide) rfl 0 (uAr (uAr M 47 L0) 48 ln0)) (va_cwS 2 S.2.2.2.2 gX7_learn_X5_fill rfl rfl rfl (by decide +kernel) ⟨Nat.le_of_ble_eq_true rfl, Nat.le_of_ble_eq_true rfl⟩) rfl hl.1 rfl (Nat.le_of_ble_eq_true rfl) dX7_learn_5 ⟨Nat.zero_le _, Nat.zero_le _⟩ (fun H locs Z => ?_)
  have Z := uZ_eq (M' := (uAr (uAr M 47 (fun _ => 0)) 48 ln0)) (((uAr_fillc (uAr M 47 L0) 48 ln0 (a := 47) 243 (nI 0) (by decide)).trans (congrArg (fun X => uAr X 48 ln0) (uAr_fill M 47 L0 243 0))).trans (by rw [show (fun i => if i < 243 then 0 else L0 i) = (fun _ => 0) from funext fun i => by
      by_cases q : i < 243
      · rw [if_pos q]
      · rw [if_neg q]; exact hz1 i (by omega)])) Z
  refine lv_aload_n S.1 S.2.1 dX7_learn_8 rfl (lv_at hl 0 rfl) ?_
  refine ug_r S hK Z (j := 1) 48 (by decide) rfl rfl rfl (by decide) iX7_learn_X7 qX7_learn_15 dX7_learn_9 ?_
  refine lv_iconst (v := 0) S.1 S.2.1 dX7_learn_12 (by decide) ?_
  refine ud_Sv (As := [.ref (G.2.2 48), .int 0]) (rest := []) S hK hA Z (c_X5_fill l G 48 5 (by decide) rfl 0 (uAr (uAr M 47 (fun _ => 0)) 48 ln0)) (va_cwS 2 S.2.2.2.2 gX7_learn_X5_fill rfl rfl rfl (by decide +kernel) ⟨Nat.le_of_ble_eq_true rfl, Nat.le_of_ble_eq_true rfl⟩) rfl hl.1 rfl (Nat.le_of_ble_eq_true rfl) dX7_learn_13 ⟨Nat.zero_le _, Nat.zero_le _⟩ (fun H locs Z => ?_)
  have Z := uZ_eq (M' := (uAr (uAr M 47 (fun _ => 0)) 48 (fun _ => 0))) ((uAr_fill (uAr M 47 (fun _ => 0)) 48 ln0 5 0).trans (by rw [show (fun i => if i < 5 then 0 else ln0 i) = (fun _ => 0) from funext fun i => by
      by_cases q : i < 5
      · rw [if_pos q]
      · rw [if_neg q]; exact hz2 i (by omega)])) Z
  refine lv_iconst (v := 1) S.1 S.2.1 dX7_learn_16 (by decide) ?_
  refine lv_istore_n (lv' := [(1, .int 1), (0, .ref (G.2.2 46))]) S.1 S.2.1 dX7_learn_17 rfl hl (by decide) rfl (fun ls hl => ?_)
  have LP18 : ∀ (fU : Nat) (i : Nat) (L1 : Nat → Nat) (ln1 : Nat → Nat), (252 < i + fU) → (1 ≤ i ∧ i ≤ 252) → ((L1, ln1) = lrn (i - 1)) → ∀ (H : Heap) (locs : List Loc) (ls : Array Slot), uZ G xA (uAr (uAr M 47 L1) 48 ln1) xs.heap H locs → lv_has ls 3 [(1, .int (nI i)), (0, .ref (G.2.2 46))] → W xp l xe (uRm 3 68) xs xm xa xb xt xc H locs 0 0 (MQ xb (va_Qv (fun M2 => M2 = uAr (uAr M 47 (lrn 251).1) 48 (lrn 251).2) (fun M' t => uB G M' t) xA) xa xs 0 0 xA) (F0 xm 18 ls []) := by
    intro fU
    induction fU with
    | zero =>
      intro i L1 ln1 hfl i1 i2 H locs ls Z hl
      exfalso
      omega
    | succ fU ih18 =>
      intro i L1 ln1 hfl i1 i2 H locs ls Z hl
      refine lv_iload_n S.1 S.2.1 dX7_learn_18 rfl (lv_at hl 0 rfl) ?_
      refine lv_sipush (v := 252) S.1 S.2.1 dX7_learn_19 (by decide) ?_
      refine lv_icmp_ge (tgt := 80) S.1 S.2.1 dX7_learn_22 (by decide) (fun c_3 => ?_) (fun c_3 => ?_)
      · skip
        have c_3 : 252 ≤ i := (nI_leI (a := 252) (b := i) (by omega) (by omega)).mp c_3
        refine uret_v S hK Z hre hlk dX7_learn_80 ?_
        obtain rfl : i = 252 := by omega
        have e1 : (L1, ln1) = lrn 251 := i2
        rw [← e1]
      · skip
        have c_3 : ¬ 252 ≤ i := fun z9 => c_3 ((nI_leI (a := 252) (b := i) (by omega) (by omega)).mpr z9)
        have h5 : ∀ x, x < 5 → ln1 x ≤ 5 := by
          have h7 := lrn_le (i - 1)
          rw [← i2] at h7
          exact h7
        refine lv_aload_n S.1 S.2.1 dX7_learn_25 rfl (lv_at hl 1 rfl) ?_
        refine ud_Vv (As := []) (rest := []) S hK hA Z (c_X7_growToNext l G (uAr M 47 L1) ln1 h5) (cwV 0 S.2.2.2.2 gX7_learn_X7_growToNext rfl rfl rfl (by decide +kernel) ⟨Nat.le_of_ble_eq_true rfl, Nat.le_of_ble_eq_true rfl⟩) (by decide) rfl rfl rfl hl.1 rfl (Nat.le_of_ble_eq_true rfl) dX7_learn_26 ⟨Nat.zero_le _, Nat.zero_le _⟩ (fun H locs Z => ?_)
        have h6 := grF_le 5 _ (Nat.le_refl _) h5
        have b2 := cA_lt (r := 5) (p := 0) h6 5 (Nat.le_refl _)
        refine lv_aload_n S.1 S.2.1 dX7_learn_29 rfl (lv_at hl 1 rfl) ?_
        refine ud_Vi (As := []) (rest := []) S hK hA Z (c_X7_leastWinning l G (uAr (uAr M 47 L1) 48 (grF ln1 5)) L1 (grF ln1 5) (fun x => (uAr_o _ _ _ _ (by decide)).trans (uAr_g _ _ _ _)) (fun x => uAr_g _ _ _ _) h6) (cwV 0 S.2.2.2.2 gX7_learn_X7_leastWinning rfl rfl rfl (by decide +kernel) ⟨Nat.le_of_ble_eq_true rfl, Nat.le_of_ble_eq_true rfl⟩) (by decide) rfl rfl rfl hl.1 rfl (Nat.le_of_ble_eq_true rfl) dX7_learn_30 ⟨Nat.zero_le _, Nat.zero_le _⟩ (fun H locs Z => ?_)
        refine lv_bipush (v := (-6)) S.1 S.2.1 dX7_learn_33 (by decide) ?_
        refine lv_icmp_ne (tgt := 74) S.1 S.2.1 dX7_learn_35 (by decide) (fun c_6 => ?_) (fun c_6 => ?_)
        · skip
          refine lv_iinc (v := (nI (i + 1))) (lv' := [(1, .int (nI (i + 1))), (0, .ref (G.2.2 46))]) S.1 S.2.1 dX7_learn_74 hl (k := 0) rfl (u_inc1 i) (by decide) rfl (fun ls hl => ?_)
          refine lv_goto (tgt := 18) S.1 S.2.1 dX7_learn_77 (by decide) ?_
          exact ih18 (i + 1) L1 (grF ln1 5) (by omega) (by omega) (by
              rw [show i + 1 - 1 = (i - 1) + 1 from by omega, lrn, ← i2]
              first
                | rw [if_pos ((lw_m6 _ _).mp (by assumption))]
                | rw [if_neg (fun q => absurd ((lw_m6 _ _).mpr q) (by assumption))]) _ _ _ Z (lv_sub hl [0, 1] rfl)
        · skip
          refine lv_aload_n S.1 S.2.1 dX7_learn_38 rfl (lv_at hl 1 rfl) ?_
          refine lv_iconst (v := 5) S.1 S.2.1 dX7_learn_39 (by decide) ?_
          refine lv_iconst (v := 0) S.1 S.2.1 dX7_learn_40 (by decide) ?_
          refine ud_Vi (As := [.int 5, .int 0]) (rest := []) S hK hA Z (c_X7_codeAfter l G 5 0 (by omega) (by omega) (uAr (uAr M 47 L1) 48 (grF ln1 5)) (grF ln1 5) (fun x => uAr_g _ _ _ _) h6) (cwV 2 S.2.2.2.2 gX7_learn_X7_codeAfter rfl rfl rfl (by decide +kernel) ⟨Nat.le_of_ble_eq_true rfl, Nat.le_of_ble_eq_true rfl⟩) (by decide) rfl rfl rfl hl.1 rfl (Nat.le_of_ble_eq_true rfl) dX7_learn_41 ⟨Nat.zero_le _, Nat.zero_le _⟩ (fun H locs Z => ?_)
          refine lv_istore_n (lv' := [(2, .int (nI (cA (grF ln1 5) 5 0 5))), (1, .int (nI i)), (0, .ref (G.2.2 46))]) S.1 S.2.1 dX7_learn_44 rfl hl (by decide) rfl (fun ls hl => ?_)
          refine lv_aload_n S.1 S.2.1 dX7_learn_45 rfl (lv_at hl 2 rfl) ?_
          refine ug_r S hK Z (j := 0) 47 (by decide) rfl rfl rfl (by decide) iX7_learn_X7 qX7_learn_11 dX7_learn_46 ?_
          refine lv_iload_n S.1 S.2.1 dX7_learn_49 rfl (lv_at hl 0 rfl) ?_
          refine lv_bipush (v := 32) S.1 S.2.1 dX7_learn_50 (by decide) ?_
          refine lv_idiv S.1 S.2.1 dX7_learn_52 (by decide) ?_
          refine utop (pk_div (a := (cA (grF ln1 5) 5 0 5)) (d := 32) (by omega) (by omega) (by omega)) ?_
          refine lv_aload_n S.1 S.2.1 dX7_learn_53 rfl (lv_at hl 2 rfl) ?_
          refine ug_r S hK Z (j := 0) 47 (by decide) rfl rfl rfl (by decide) iX7_learn_X7 qX7_learn_11 dX7_learn_54 ?_
          refine lv_iload_n S.1 S.2.1 dX7_learn_57 rfl (lv_at hl 0 rfl) ?_
          refine lv_bipush (v := 32) S.1 S.2.1 dX7_learn_58 (by decide) ?_
          refine lv_idiv S.1 S.2.1 dX7_learn_60 (by decide) ?_
          refine utop (pk_div (a := (cA (grF ln1 5) 5 0 5)) (d := 32) (by omega) (by omega) (by omega)) ?_
          refine ud_Si (As := [.ref (G.2.2 47), .int (nI ((cA (grF ln1 5) 5 0 5) / 32))]) (rest := [.int (nI ((cA (grF ln1 5) 5 0 5) / 32)), .ref (G.2.2 47)]) S hK hA Z (c_X5_at l G 47 243 ((cA (grF ln1 5) 5 0 5) / 32) (by decide) rfl (by omega) (uAr (uAr M 47 L1) 48 (grF ln1 5))) (va_cwS 2 S.2.2.2.2 gX7_learn_X5_at rfl rfl rfl (by decide +kernel) ⟨Nat.le_of_ble_eq_true rfl, Nat.le_of_ble_eq_true rfl⟩) rfl hl.1 rfl (Nat.le_of_ble_eq_true rfl) dX7_learn_61 ⟨Nat.zero_le _, Nat.zero_le _⟩ (fun H locs Z => ?_)
          refine utop (y := (nI (L1 ((cA (grF ln1 5) 5 0 5) / 32)))) ((uAr_o (uAr M 47 L1) 48 (grF ln1 5) ((cA (grF ln1 5) 5 0 5) / 32) (a := 47) (by decide)).trans (uAr_g M 47 L1 ((cA (grF ln1 5) 5 0 5) / 32))) ?_
          refine lv_iconst (v := 1) S.1 S.2.1 dX7_learn_64 (by decide) ?_
          refine lv_iload_n S.1 S.2.1 dX7_learn_65 rfl (lv_at hl 0 rfl) ?_
          refine lv_bipush (v := 32) S.1 S.2.1 dX7_learn_66 (by decide) ?_
          refine lv_irem S.1 S.2.1 dX7_learn_68 (by decide) ?_
          refine utop (pk_rem (a := (cA (grF ln1 5) 5 0 5)) (d := 32) (by omega) (by omega) (by omega)) ?_
          refine lv_ishl S.1 S.2.1 dX7_learn_69 ?_
          refine utop (u_shl1 (k := ((cA (grF ln1 5) 5 0 5) % 32)) (by omega)) ?_
          refine lv_ior S.1 S.2.1 dX7_learn_70 ?_
          refine utop (nx_or (L1 ((cA (grF ln1 5) 5 0 5) / 32)) (2 ^ ((cA (grF ln1 5) 5 0 5) % 32))) ?_
          refine ud_Sv (As := [.ref (G.2.2 47), .int (nI ((cA (grF ln1 5) 5 0 5) / 32)), .int (nI ((L1 ((cA (grF ln1 5) 5 0 5) / 32)) ||| (2 ^ ((cA (grF ln1 5) 5 0 5) % 32))))]) (rest := []) S hK hA Z (c_X5_put l G 47 243 ((cA (grF ln1 5) 5 0 5) / 32) (by decide) rfl (by omega) (nI ((L1 ((cA (grF ln1 5) 5 0 5) / 32)) ||| (2 ^ ((cA (grF ln1 5) 5 0 5) % 32)))) (uAr (uAr M 47 L1) 48 (grF ln1 5))) (va_cwS 3 S.2.2.2.2 gX7_learn_X5_put rfl rfl rfl (by decide +kernel) ⟨Nat.le_of_ble_eq_true rfl, Nat.le_of_ble_eq_true rfl⟩) rfl hl.1 rfl (Nat.le_of_ble_eq_true rfl) dX7_learn_71 ⟨Nat.zero_le _, Nat.zero_le _⟩ (fun H locs Z => ?_)
          have Z := uZ_eq ((uAr_c (uAr M 47 L1) 48 (grF ln1 5) (a := 47) ((cA (grF ln1 5) 5 0 5) / 32) (nI ((L1 ((cA (grF ln1 5) 5 0 5) / 32)) ||| (2 ^ ((cA (grF ln1 5) 5 0 5) % 32)))) (by decide)).trans (congrArg (fun X => uAr X 48 (grF ln1 5)) (uAr_s M 47 L1 ((cA (grF ln1 5) 5 0 5) / 32) ((L1 ((cA (grF ln1 5) 5 0 5) / 32)) ||| (2 ^ ((cA (grF ln1 5) 5 0 5) % 32)))))) Z
          refine lv_iinc (v := (nI (i + 1))) (lv' := [(1, .int (nI (i + 1))), (2, .int (nI (cA (grF ln1 5) 5 0 5))), (0, .ref (G.2.2 46))]) S.1 S.2.1 dX7_learn_74 hl (k := 1) rfl (u_inc1 i) (by decide) rfl (fun ls hl => ?_)
          refine lv_goto (tgt := 18) S.1 S.2.1 dX7_learn_77 (by decide) ?_
          exact ih18 (i + 1) (fu L1 ((cA (grF ln1 5) 5 0 5) / 32) ((L1 ((cA (grF ln1 5) 5 0 5) / 32)) ||| (2 ^ ((cA (grF ln1 5) 5 0 5) % 32)))) (grF ln1 5) (by omega) (by omega) (by
              rw [show i + 1 - 1 = (i - 1) + 1 from by omega, lrn, ← i2]
              first
                | rw [if_pos ((lw_m6 _ _).mp (by assumption))]
                | rw [if_neg (fun q => absurd ((lw_m6 _ _).mpr q) (by assumption))]) _ _ _ Z (lv_sub hl [0, 2] rfl)
  exact LP18 253 1 (fun _ => 0) (fun _ => 0) (by omega) (by omega) (by rfl) _ _ _ Z (lv_sub hl [0, 1] rfl)
