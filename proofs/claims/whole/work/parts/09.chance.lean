/-- only the cells from lo on and below hi have changed -/
def uSm (lo hi : Nat) (M M2 : uM) : Prop := ∀ a, (a < lo ∨ hi ≤ a) → M2.1 a = M.1 a
theorem uSm_rf (lo hi : Nat) (M : uM) : uSm lo hi M M := fun _ _ => rfl
theorem uSm_tr {lo hi : Nat} {M M1 M2 : uM} (h : uSm lo hi M M1) (h2 : uSm lo hi M1 M2) : uSm lo hi M M2 := fun a ha => (h2 a ha).trans (h a ha)
theorem uSm_1 {lo hi : Nat} {M M1 : uM} {k j : Nat} {v : Int32} (h : uSm lo hi M M1) (hk : lo ≤ k) (hh : k < hi) : uSm lo hi M (u1 M1 k j v) := fun a ha => (u1_ne (by omega)).trans (h a ha)
theorem uSm_2 {lo hi : Nat} {M M1 : uM} {k j : Nat} {v : Int64} (h : uSm lo hi M M1) : uSm lo hi M (u2 M1 k j v) := fun a ha => h a ha
theorem uSm_r {lo hi : Nat} {M M1 : uM} {k : Nat} {f : Nat → Nat} (h : uSm lo hi M M1) (hk : lo ≤ k) (hh : k < hi) : uSm lo hi M (uAr M1 k f) := fun a ha => by
  rw [← h a ha]
  funext i
  exact uAr_o _ _ _ _ (by omega)
/-! fractions -/
theorem u_lne {b : Nat} (h0 : 0 < b) (hb : b < 2 ^ 63) : ¬ lN b = 0 := fun h => by
  have := (pk_lEQ hb (b := 0) (by omega)).mp h
  omega
theorem gc_half {a b : Nat} (h : b ≤ a) (hb : 0 < b) : a % b * 2 ≤ a := by
  have h1 := Nat.mod_lt a hb
  have h2 : a % b + b ≤ a := by
    have h3 := Nat.div_add_mod a b
    have h4 : b * 1 ≤ b * (a / b) := Nat.mul_le_mul_left b (Nat.div_pos h hb)
    omega
  omega
theorem gc_p (i : Nat) : 2 ^ ((i + 2) / 2) = 2 * 2 ^ (i / 2) := by
  rw [show (i + 2) / 2 = i / 2 + 1 from by omega, Nat.pow_succ, Nat.mul_comm]
/-! doors -/
def cw (d : Nat) : Nat → Nat → Nat
  | 0, i => if i = 0 then 1 else 0
  | n + 1, i => cw d n i * i + (if i = 0 then 0 else cw d n (i - 1) * (d + 1 - i))
theorem cw_big (d : Nat) : ∀ n i, d < i → cw d n i = 0 := by
  intro n
  induction n with
  | zero => intro i hi; rw [cw, if_neg (by omega)]
  | succ n ih =>
    intro i hi
    rw [cw, ih i hi, if_neg (by omega), show d + 1 - i = 0 from by omega]
    omega
theorem cw_le (d : Nat) : ∀ n i, cw d n i ≤ (d + 1) ^ n := by
  intro n
  induction n with
  | zero =>
    intro i
    rw [cw]
    split <;> simp
  | succ n ih =>
    intro i
    rw [cw]
    have hp : 0 < (d + 1) ^ n := Nat.pow_pos (by omega)
    rcases Nat.lt_or_ge d i with q | q
    · rw [cw_big d n i q, show d + 1 - i = 0 from by omega]
      simp
    · by_cases h0 : i = 0
      · subst h0
        simp
      · rw [if_neg h0]
        have h1 := Nat.mul_le_mul_right i (ih i)
        have h2 := Nat.mul_le_mul_right (d + 1 - i) (ih (i - 1))
        have h3 : (d + 1) ^ n * i + (d + 1) ^ n * (d + 1 - i) = (d + 1) ^ (n + 1) := by
          rw [← Nat.mul_add, Nat.pow_succ, show i + (d + 1 - i) = d + 1 from by omega]
        omega
theorem cw_bd {d n : Nat} (hd : d ≤ 10) (hn : n ≤ 12) (i : Nat) : cw d n i < 4398046511104 := by
  have h1 := cw_le d n i
  have h2 : (d + 1) ^ n ≤ 11 ^ n := Nat.pow_le_pow_left (by omega) n
  have h3 : 11 ^ n ≤ 11 ^ 12 := Nat.pow_le_pow_right (by decide) hn
  omega
theorem cw_z (d t : Nat) : cw d (t + 1) 0 = cw d t 0 * 0 + 0 := rfl
theorem cw_s (d t q : Nat) : cw d (t + 1) (q + 1) = cw d t (q + 1) * (q + 1) + cw d t q * (d + 1 - (q + 1)) := rfl
theorem u_cw {d n i : Nat} (hd : d ≤ 10) (hi : 1 ≤ i) (hi2 : i ≤ 12) : lN (cw d n (i - 1)) * ((nI d - nI i) + 1).toInt64 = lN (cw d n (i - 1) * (d + 1 - i)) := by
  rcases Nat.lt_or_ge d (i - 1) with q | q
  · rw [cw_big d n (i - 1) q, Nat.zero_mul]
    show (0 : Int64) * _ = 0
    exact Int64.zero_mul
  · have h1 : (nI d - nI i) + 1 = nI (d + 1 - i) := by
      have h2 : nI d - nI i + 1 = nI d + 1 - nI i := by
        rw [Int32.sub_eq_add_neg, Int32.sub_eq_add_neg, Int32.add_assoc, Int32.add_comm (-nI i), ← Int32.add_assoc]
      rw [h2, nI_1, pk_sub (by omega)]
    rw [h1, nI_l (by omega), lN_mul]
/-! when to sell: the class's way -/
def jS (wd : Nat → Nat) (t : Nat) : Nat → Nat × Nat × Nat
  | 0 => (0, wd 0, 1)
  | i + 1 => if i = 0 then (0, wd 0, 1) else if (jS wd t i).2.1 * 10 ^ i < wd i * (10 - t) ^ i * (jS wd t i).2.2 then (i, wd i * (10 - t) ^ i, 10 ^ i) else jS wd t i
theorem jS_bd {wd : Nat → Nat} (t : Nat) (hw : ∀ i, i < 9 → wd i ≤ 9) : ∀ n, n ≤ 9 → (jS wd t n).2.1 ≤ 900000000 ∧ (jS wd t n).2.2 ≤ 100000000 ∧ 1 ≤ (jS wd t n).2.2 := by
  intro n
  induction n with
  | zero => intro _; have := hw 0 (by omega); exact ⟨by show wd 0 ≤ _; omega, by show (1 : Nat) ≤ 100000000; decide, by show (1 : Nat) ≤ 1; decide⟩
  | succ n ih =>
    intro hn
    have h1 := ih (by omega)
    rw [jS]
    split
    · have := hw 0 (by omega); exact ⟨by show wd 0 ≤ _; omega, by show (1 : Nat) ≤ 100000000; decide, by show (1 : Nat) ≤ 1; decide⟩
    · split
      · have h2 : (10 - t) ^ n ≤ 10 ^ n := Nat.pow_le_pow_left (by omega) n
        have h3 : 10 ^ n ≤ 10 ^ 8 := Nat.pow_le_pow_right (by decide) (by omega)
        have h4 := Nat.mul_le_mul (hw n (by omega)) (Nat.le_trans h2 h3)
        exact ⟨by show wd n * (10 - t) ^ n ≤ _; omega, by show 10 ^ n ≤ _; omega, Nat.pow_pos (by decide)⟩
      · exact h1
theorem qX1_waysTo_9 : Cond.fieldLink RX1 9 (TX1 0).1 (TX1 0).2.1 (TX1 0).2.2.1 ∈ wsX1_waysTo := List.mem_of_getElem? (i := 1) rfl
theorem iX1_waysTo_X1 : ∀ w ∈ wsX10, w ∈ wsX1_waysTo := fun _ h => List.mem_cons_of_mem _ (List.mem_append_right _ h)
theorem qX1_countWays_9 : Cond.fieldLink RX1 9 (TX1 0).1 (TX1 0).2.1 (TX1 0).2.2.1 ∈ wsX1_countWays := List.mem_of_getElem? (i := 1) rfl
theorem iX1_countWays_X1 : ∀ w ∈ wsX10, w ∈ wsX1_countWays := fun _ h => List.mem_cons_of_mem _ (List.mem_append_right _ h)
theorem qX1_countWays_13 : Cond.fieldLink RX1 13 (TX1 1).1 (TX1 1).2.1 (TX1 1).2.2.1 ∈ wsX1_countWays := List.mem_of_getElem? (i := 2) rfl
theorem qX0_read_19 : Cond.fieldLink RX0 19 (TX0 1).1 (TX0 1).2.1 (TX0 1).2.2.1 ∈ wsX0_read := List.mem_of_getElem? (i := 1) rfl
theorem iX0_read_X0 : ∀ w ∈ wsX00, w ∈ wsX0_read := fun _ h => List.mem_cons_of_mem _ (List.mem_append_right _ h)
theorem qX0_read_9 : Cond.fieldLink RX0 9 (TX0 0).1 (TX0 0).2.1 (TX0 0).2.2.1 ∈ wsX0_read := List.mem_of_getElem? (i := 2) rfl
set_option maxHeartbeats 4000000 in
set_option maxRecDepth 100000 in
theorem c_X1_gcd (l : Launch) (G : uG) (u v : Nat) (hu : u < 17592186044416) (hv : v < 17592186044416) (M : uM) : CTl l G yX1_greatestCommon wsX1_greatestCommon 0 0 [.long (lN u), .long (lN v)] M (fun r M2 => r = lN (Nat.gcd u v) ∧ M2 = M) := by
  refine ustart_l (cc := cX1_greatestCommon) (maxL := 11) (ret := (some .long)) (own := RX1) rfl (by decide) rfl (Nat.le_of_ble_eq_true rfl) ?_
  intro xp xe xs xm xa xb xt xc xA ls S hK hA Z hre hlk hl
  have hl : lv_has ls 11 [(0, .long (lN u)), (2, .long (lN v))] := hl
  refine lv_lload_n S.1 S.2.1 dX1_greatestCommon_0 rfl (lv_at hl 0 rfl) ?_
  refine lv_lstore (lv' := [(4, .long (lN u)), (0, .long (lN u)), (2, .long (lN v))]) S.1 S.2.1 dX1_greatestCommon_1 hl (by decide) rfl (fun ls hl => ?_)
  refine lv_lload_n S.1 S.2.1 dX1_greatestCommon_3 rfl (lv_at hl 2 rfl) ?_
  refine lv_lstore (lv' := [(6, .long (lN v)), (4, .long (lN u)), (0, .long (lN u)), (2, .long (lN v))]) S.1 S.2.1 dX1_greatestCommon_4 hl (by decide) rfl (fun ls hl => ?_)
  refine lv_iconst (v := 0) S.1 S.2.1 dX1_greatestCommon_6 (by decide) ?_
  refine lv_istore (lv' := [(8, .int 0), (6, .long (lN v)), (4, .long (lN u)), (0, .long (lN u)), (2, .long (lN v))]) S.1 S.2.1 dX1_greatestCommon_7 hl (by decide) rfl (fun ls hl => ?_)
  have LP9 : ∀ (fU : Nat) (i : Nat) (a : Nat) (b : Nat), (100 < i + fU) → (i ≤ 100) → (Nat.gcd a b = Nat.gcd u v) → (i = 0 ∨ b < a) → (a * 2 ^ (i / 2) < 35184372088832) → (b * 2 ^ ((i + 1) / 2) < 35184372088832) → (a < 17592186044416 ∧ b < 17592186044416) → ∀ (H : Heap) (locs : List Loc) (ls : Array Slot), uZ G xA M xs.heap H locs → lv_has ls 11 [(8, .int (nI i)), (6, .long (lN b)), (4, .long (lN a)), (0, .long (lN u)), (2, .long (lN v))] → W xp l xe (uRm 0 0) xs xm xa xb xt xc H locs 0 0 (MQ xb (va_Ql (fun r M2 => r = lN (Nat.gcd u v) ∧ M2 = M) (fun M' t => uB G M' t) xA) xa xs 0 0 xA) (F0 xm 9 ls []) := by
    intro fU
    induction fU with
    | zero =>
      intro i a b hfl i1 i2 i3 i4 i5 i6 H locs ls Z hl
      exfalso
      omega
    | succ fU ih9 =>
      intro i a b hfl i1 i2 i3 i4 i5 i6 H locs ls Z hl
      refine lv_iload S.1 S.2.1 dX1_greatestCommon_9 (lv_at hl 0 rfl) ?_
      refine lv_bipush (v := 100) S.1 S.2.1 dX1_greatestCommon_11 (by decide) ?_
      refine lv_icmp_ge (tgt := 44) S.1 S.2.1 dX1_greatestCommon_13 (by decide) (fun c_1 => ?_) (fun c_1 => ?_)
      · skip
        have c_1 : 100 ≤ i := (nI_leI (a := 100) (b := i) (by omega) (by omega)).mp c_1
        refine lv_lload S.1 S.2.1 dX1_greatestCommon_44 (lv_at hl 2 rfl) ?_
        refine uret_l S hK Z hre hlk dX1_greatestCommon_46 ?_
        have hb0 : b = 0 := by
          rcases (show i = 100 ∨ b = 0 by omega) with q | q
          · subst q
            rw [show (100 + 1 : Nat) / 2 = 50 from rfl] at i5
            omega
          · exact q
        subst hb0
        rw [Nat.gcd_zero_right] at i2
        rw [i2]
        exact ⟨rfl, rfl⟩
      · skip
        have c_1 : ¬ 100 ≤ i := fun z9 => c_1 ((nI_leI (a := 100) (b := i) (by omega) (by omega)).mpr z9)
        refine lv_lload S.1 S.2.1 dX1_greatestCommon_16 (lv_at hl 1 rfl) ?_
        refine lv_lconst (v := 0) S.1 S.2.1 dX1_greatestCommon_18 (by decide) ?_
        refine W.lcmp S.1 S.2.1 dX1_greatestCommon_19 ?_
        refine lv_if_eq (tgt := 44) S.1 S.2.1 dX1_greatestCommon_20 (by decide) (fun c_2 => ?_) (fun c_2 => ?_)
        · skip
          have c_2 : (lN b) = 0 := (lg_cmp_eq (lN b) 0).mp c_2
          have c_2 : b = 0 := (pk_lEQ (a := b) (b := 0) (by omega) (by omega)).mp c_2
          refine lv_lload S.1 S.2.1 dX1_greatestCommon_44 (lv_at hl 2 rfl) ?_
          refine uret_l S hK Z hre hlk dX1_greatestCommon_46 ?_
          have hb0 : b = 0 := by
            rcases (show i = 100 ∨ b = 0 by omega) with q | q
            · subst q
              rw [show (100 + 1 : Nat) / 2 = 50 from rfl] at i5
              omega
            · exact q
          subst hb0
          rw [Nat.gcd_zero_right] at i2
          rw [i2]
          exact ⟨rfl, rfl⟩
        · skip
          have c_2 : ¬ (lN b) = 0 := fun z9 => c_2 ((lg_cmp_eq (lN b) 0).mpr z9)
          have c_2 : ¬ b = 0 := fun z9 => c_2 ((pk_lEQ (a := b) (b := 0) (by omega) (by omega)).mpr z9)
          have y0 : 0 < b := by omega
          have y1 : a % b < b := Nat.mod_lt a y0
          have y2 : a % b * 2 ^ ((i + 1 + 1) / 2) < 35184372088832 := by
            rw [gc_p, ← Nat.mul_assoc]
            rcases i3 with q | q
            · subst q
              rw [show (0 : Nat) / 2 = 0 from rfl, Nat.pow_zero]
              have := Nat.mod_le a b
              omega
            · exact Nat.lt_of_le_of_lt (Nat.mul_le_mul_right _ (gc_half (Nat.le_of_lt q) y0)) i4
          refine lv_lload S.1 S.2.1 dX1_greatestCommon_23 (lv_at hl 2 rfl) ?_
          refine lv_lload S.1 S.2.1 dX1_greatestCommon_25 (lv_at hl 1 rfl) ?_
          refine lv_lrem S.1 S.2.1 dX1_greatestCommon_27 (u_lne (by omega) (by omega)) ?_
          refine utopl (pk_lRem (a := a) (b := b) (by omega) (by omega) (by omega)) ?_
          refine lv_lstore (lv' := [(9, .long (lN (a % b))), (8, .int (nI i)), (6, .long (lN b)), (4, .long (lN a)), (0, .long (lN u)), (2, .long (lN v))]) S.1 S.2.1 dX1_greatestCommon_28 hl (by decide) rfl (fun ls hl => ?_)
          refine lv_lload S.1 S.2.1 dX1_greatestCommon_30 (lv_at hl 2 rfl) ?_
          refine lv_lstore (lv' := [(4, .long (lN b)), (9, .long (lN (a % b))), (8, .int (nI i)), (6, .long (lN b)), (0, .long (lN u)), (2, .long (lN v))]) S.1 S.2.1 dX1_greatestCommon_32 hl (by decide) rfl (fun ls hl => ?_)
          refine lv_lload S.1 S.2.1 dX1_greatestCommon_34 (lv_at hl 1 rfl) ?_
          refine lv_lstore (lv' := [(6, .long (lN (a % b))), (4, .long (lN b)), (9, .long (lN (a % b))), (8, .int (nI i)), (0, .long (lN u)), (2, .long (lN v))]) S.1 S.2.1 dX1_greatestCommon_36 hl (by decide) rfl (fun ls hl => ?_)
          refine lv_iinc (v := (nI (i + 1))) (lv' := [(8, .int (nI (i + 1))), (6, .long (lN (a % b))), (4, .long (lN b)), (9, .long (lN (a % b))), (0, .long (lN u)), (2, .long (lN v))]) S.1 S.2.1 dX1_greatestCommon_38 hl (k := 3) rfl (u_inc1 i) (by decide) rfl (fun ls hl => ?_)
          refine lv_goto (tgt := 9) S.1 S.2.1 dX1_greatestCommon_41 (by decide) ?_
          exact ih9 (i + 1) b (a % b) (by omega) (by omega) (by rw [← i2, Nat.gcd_comm a b, Nat.gcd_rec b a, Nat.gcd_comm]) (by exact Or.inr y1) (by exact i5) (by exact y2) (by omega) _ _ _ Z (lv_sub hl [0, 1, 2, 4, 5] rfl)
  exact LP9 101 0 u v (by omega) (by omega) (by rfl) (by exact Or.inl rfl) (by rw [show (0 : Nat) / 2 = 0 from rfl]; omega) (by rw [show (0 + 1 : Nat) / 2 = 0 from rfl]; omega) (by omega) _ _ _ Z (lv_sub hl [0, 1, 2, 3, 4] rfl)
set_option maxHeartbeats 4000000 in
set_option maxRecDepth 100000 in
theorem c_X1_lowest (l : Launch) (G : uG) (u v pt : Nat) (hu : u < 17592186044416) (hv : v < 17592186044416) (hv0 : 0 < v) (hp : pt ≤ 1) (M : uM) : CTl l G yX1_inLowestTerms wsX1_inLowestTerms 1 30 [.long (lN u), .long (lN v), .int (nI pt)] M (fun r M2 => r = lN ((if pt = 0 then u else v) / Nat.gcd u v) ∧ M2 = M) := by
  have hg0 : 0 < Nat.gcd u v := Nat.gcd_pos_of_pos_right u hv0
  have hg1 : Nat.gcd u v ≤ v := Nat.le_of_dvd hv0 (Nat.gcd_dvd_right u v)
  refine ustart_l (cc := cX1_inLowestTerms) (maxL := 9) (ret := (some .long)) (own := RX1) rfl (by decide) rfl (Nat.le_of_ble_eq_true rfl) ?_
  intro xp xe xs xm xa xb xt xc xA ls S hK hA Z hre hlk hl
  have hl : lv_has ls 9 [(0, .long (lN u)), (2, .long (lN v)), (4, .int (nI pt))] := hl
  refine lv_lload_n S.1 S.2.1 dX1_inLowestTerms_0 rfl (lv_at hl 0 rfl) ?_
  refine lv_lload_n S.1 S.2.1 dX1_inLowestTerms_1 rfl (lv_at hl 1 rfl) ?_
  refine ud_Sl (As := [.long (lN u), .long (lN v)]) (rest := []) S hK hA Z (c_X1_gcd l G u v hu hv M) (va_cwS 2 S.2.2.2.2 gX1_inLowestTerms_X1_greatestCommon rfl rfl rfl (by decide +kernel) ⟨Nat.le_of_ble_eq_true rfl, Nat.le_of_ble_eq_true rfl⟩) rfl hl.1 rfl (Nat.le_of_ble_eq_true rfl) dX1_inLowestTerms_2 ⟨Nat.zero_le _, Nat.zero_le _⟩ (fun H locs Z => ?_)
  refine lv_lstore (lv' := [(5, .long (lN (Nat.gcd u v))), (0, .long (lN u)), (2, .long (lN v)), (4, .int (nI pt))]) S.1 S.2.1 dX1_inLowestTerms_5 hl (by decide) rfl (fun ls hl => ?_)
  refine lv_iload S.1 S.2.1 dX1_inLowestTerms_7 (lv_at hl 3 rfl) ?_
  refine lv_if_ne (tgt := 16) S.1 S.2.1 dX1_inLowestTerms_9 (by decide) (fun c_2 => ?_) (fun c_2 => ?_)
  · skip
    have c_2 : ¬ pt = 0 := fun z9 => c_2 ((nI_eq (a := pt) (b := 0) (by omega) (by omega)).mpr z9)
    refine lv_lload_n S.1 S.2.1 dX1_inLowestTerms_16 rfl (lv_at hl 2 rfl) ?_
    refine lv_lstore (lv' := [(7, .long (lN v)), (5, .long (lN (Nat.gcd u v))), (0, .long (lN u)), (2, .long (lN v)), (4, .int (nI pt))]) S.1 S.2.1 dX1_inLowestTerms_17 hl (by decide) rfl (fun ls hl => ?_)
    refine lv_lload S.1 S.2.1 dX1_inLowestTerms_19 (lv_at hl 1 rfl) ?_
    refine lv_lconst (v := 0) S.1 S.2.1 dX1_inLowestTerms_21 (by decide) ?_
    refine W.lcmp S.1 S.2.1 dX1_inLowestTerms_22 ?_
    refine lv_if_le (tgt := 34) S.1 S.2.1 dX1_inLowestTerms_23 (by decide) (fun c_3 => ?_) (fun c_3 => ?_)
    · skip
      have c_3 : (lN (Nat.gcd u v)) ≤ 0 := (lg_cmp_le (lN (Nat.gcd u v)) 0).mp c_3
      have c_3 : (Nat.gcd u v) ≤ 0 := (pk_lLE (a := (Nat.gcd u v)) (b := 0) (by omega) (by omega)).mp c_3
      omega
    · skip
      have c_3 : ¬ (lN (Nat.gcd u v)) ≤ 0 := fun z9 => c_3 ((lg_cmp_le (lN (Nat.gcd u v)) 0).mpr z9)
      have c_3 : ¬ (Nat.gcd u v) ≤ 0 := fun z9 => c_3 ((pk_lLE (a := (Nat.gcd u v)) (b := 0) (by omega) (by omega)).mpr z9)
      refine lv_lload S.1 S.2.1 dX1_inLowestTerms_26 (lv_at hl 0 rfl) ?_
      refine lv_lload S.1 S.2.1 dX1_inLowestTerms_28 (lv_at hl 1 rfl) ?_
      refine lv_ldiv S.1 S.2.1 dX1_inLowestTerms_30 (u_lne (by omega) (by omega)) ?_
      refine utopl (pk_lDiv (a := v) (b := (Nat.gcd u v)) (by omega) (by omega) (by omega)) ?_
      refine lv_goto (tgt := 36) S.1 S.2.1 dX1_inLowestTerms_31 (by decide) ?_
      refine uret_l S hK Z hre hlk dX1_inLowestTerms_36 ?_
      rw [if_neg (by omega)]
      exact ⟨rfl, rfl⟩
  · skip
    have c_2 : pt = 0 := (nI_eq (a := pt) (b := 0) (by omega) (by omega)).mp c_2
    refine lv_lload_n S.1 S.2.1 dX1_inLowestTerms_12 rfl (lv_at hl 1 rfl) ?_
    refine lv_goto (tgt := 17) S.1 S.2.1 dX1_inLowestTerms_13 (by decide) ?_
    refine lv_lstore (lv' := [(7, .long (lN u)), (5, .long (lN (Nat.gcd u v))), (0, .long (lN u)), (2, .long (lN v)), (4, .int (nI pt))]) S.1 S.2.1 dX1_inLowestTerms_17 hl (by decide) rfl (fun ls hl => ?_)
    refine lv_lload S.1 S.2.1 dX1_inLowestTerms_19 (lv_at hl 1 rfl) ?_
    refine lv_lconst (v := 0) S.1 S.2.1 dX1_inLowestTerms_21 (by decide) ?_
    refine W.lcmp S.1 S.2.1 dX1_inLowestTerms_22 ?_
    refine lv_if_le (tgt := 34) S.1 S.2.1 dX1_inLowestTerms_23 (by decide) (fun c_4 => ?_) (fun c_4 => ?_)
    · skip
      have c_4 : (lN (Nat.gcd u v)) ≤ 0 := (lg_cmp_le (lN (Nat.gcd u v)) 0).mp c_4
      have c_4 : (Nat.gcd u v) ≤ 0 := (pk_lLE (a := (Nat.gcd u v)) (b := 0) (by omega) (by omega)).mp c_4
      omega
    · skip
      have c_4 : ¬ (lN (Nat.gcd u v)) ≤ 0 := fun z9 => c_4 ((lg_cmp_le (lN (Nat.gcd u v)) 0).mpr z9)
      have c_4 : ¬ (Nat.gcd u v) ≤ 0 := fun z9 => c_4 ((pk_lLE (a := (Nat.gcd u v)) (b := 0) (by omega) (by omega)).mpr z9)
      refine lv_lload S.1 S.2.1 dX1_inLowestTerms_26 (lv_at hl 0 rfl) ?_
      refine lv_lload S.1 S.2.1 dX1_inLowestTerms_28 (lv_at hl 1 rfl) ?_
      refine lv_ldiv S.1 S.2.1 dX1_inLowestTerms_30 (u_lne (by omega) (by omega)) ?_
      refine utopl (pk_lDiv (a := u) (b := (Nat.gcd u v)) (by omega) (by omega) (by omega)) ?_
      refine lv_goto (tgt := 36) S.1 S.2.1 dX1_inLowestTerms_31 (by decide) ?_
      refine uret_l S hK Z hre hlk dX1_inLowestTerms_36 ?_
      rw [if_pos (by omega)]
      exact ⟨rfl, rfl⟩
set_option maxHeartbeats 4000000 in
set_option maxRecDepth 100000 in
theorem c_X1_waysTo (l : Launch) (G : uG) (i : Nat) (hi : i < 13) (M : uM) : CTl l G yX1_waysTo wsX1_waysTo 0 0 [.ref (G.2.2 49), .int (nI i)] M (fun r M2 => r = M.2 50 i ∧ M2 = M) := by
  refine ustart_l (cc := cX1_waysTo) (maxL := 2) (ret := (some .long)) (own := RX1) rfl (by decide) rfl (Nat.le_of_ble_eq_true rfl) ?_
  intro xp xe xs xm xa xb xt xc xA ls S hK hA Z hre hlk hl
  have hl : lv_has ls 2 [(0, .ref (G.2.2 49)), (1, .int (nI i))] := hl
  refine lv_iload_n S.1 S.2.1 dX1_waysTo_0 rfl (lv_at hl 1 rfl) ?_
  refine lv_if_lt (tgt := 22) S.1 S.2.1 dX1_waysTo_1 (by decide) (fun c_1 => ?_) (fun c_1 => ?_)
  · skip
    have c_1 : i < 0 := (nI_ltI (a := i) (b := 0) (by omega) (by omega)).mp c_1
    omega
  · skip
    have c_1 : ¬ i < 0 := fun z9 => c_1 ((nI_ltI (a := i) (b := 0) (by omega) (by omega)).mpr z9)
    refine lv_iload_n S.1 S.2.1 dX1_waysTo_4 rfl (lv_at hl 1 rfl) ?_
    refine lv_aload_n S.1 S.2.1 dX1_waysTo_5 rfl (lv_at hl 0 rfl) ?_
    refine ug_r S hK Z (j := 0) 50 (by decide) rfl rfl rfl (by decide) iX1_waysTo_X1 qX1_waysTo_9 dX1_waysTo_6 ?_
    refine ua_len S hK Z (by decide) rfl dX1_waysTo_9 ?_
    refine lv_icmp_ge (tgt := 22) S.1 S.2.1 dX1_waysTo_10 (by decide) (fun c_2 => ?_) (fun c_2 => ?_)
    · skip
      have c_2 : 13 ≤ i := (nI_leI (a := 13) (b := i) (by omega) (by omega)).mp c_2
      omega
    · skip
      have c_2 : ¬ 13 ≤ i := fun z9 => c_2 ((nI_leI (a := 13) (b := i) (by omega) (by omega)).mpr z9)
      refine lv_aload_n S.1 S.2.1 dX1_waysTo_13 rfl (lv_at hl 0 rfl) ?_
      refine ug_r S hK Z (j := 0) 50 (by decide) rfl rfl rfl (by decide) iX1_waysTo_X1 qX1_waysTo_9 dX1_waysTo_14 ?_
      refine lv_iload_n S.1 S.2.1 dX1_waysTo_17 rfl (lv_at hl 1 rfl) ?_
      refine ua_lld S hK Z i (by decide) rfl rfl (by omega) dX1_waysTo_18 ?_
      refine lv_goto (tgt := 23) S.1 S.2.1 dX1_waysTo_19 (by decide) ?_
      refine uret_l S hK Z hre hlk dX1_waysTo_23 ?_
      exact ⟨rfl, rfl⟩
set_option maxHeartbeats 4000000 in
set_option maxRecDepth 100000 in
theorem c_X1_waysToN (l : Launch) (G : uG) (M : uM) : CTl l G yX1_waysTo wsX1_waysTo 0 0 [.ref (G.2.2 49), .int (-1)] M (fun r M2 => r = 0 ∧ M2 = M) := by
  refine ustart_l (cc := cX1_waysTo) (maxL := 2) (ret := (some .long)) (own := RX1) rfl (by decide) rfl (Nat.le_of_ble_eq_true rfl) ?_
  intro xp xe xs xm xa xb xt xc xA ls S hK hA Z hre hlk hl
  have hl : lv_has ls 2 [(0, .ref (G.2.2 49)), (1, .int (-1))] := hl
  refine lv_iload_n S.1 S.2.1 dX1_waysTo_0 rfl (lv_at hl 1 rfl) ?_
  refine lv_if_lt (tgt := 22) S.1 S.2.1 dX1_waysTo_1 (by decide) (fun _ => ?_) (fun c => absurd c (by decide))
  refine lv_lconst (v := 0) S.1 S.2.1 dX1_waysTo_22 (by decide) ?_
  refine uret_l S hK Z hre hlk dX1_waysTo_23 ?_
  exact ⟨rfl, rfl⟩
set_option maxHeartbeats 4000000 in
set_option maxRecDepth 100000 in
theorem c_X1_countWays (l : Launch) (G : uG) (n d : Nat) (hn : n ≤ 12) (hd1 : 1 ≤ d) (hd : d ≤ 10) (M : uM) : CTv l G yX1_countWays wsX1_countWays 1 21 [.ref (G.2.2 49), .int (nI n), .int (nI d)] M (fun M2 => (∀ i, i < 13 → M2.2 50 i = lN (cw d n i)) ∧ M2.2 49 1 = lN (d ^ n) ∧ M2.1 = M.1) := by
  refine ustart_v (cc := cX1_countWays) (maxL := 5) (ret := none) (own := RX1) rfl (by decide) rfl (Nat.le_of_ble_eq_true rfl) ?_
  intro xp xe xs xm xa xb xt xc xA ls S hK hA Z hre hlk hl
  have hl : lv_has ls 5 [(0, .ref (G.2.2 49)), (1, .int (nI n)), (2, .int (nI d))] := hl
  refine lv_iconst (v := 0) S.1 S.2.1 dX1_countWays_0 (by decide) ?_
  refine lv_istore_n (lv' := [(3, .int 0), (0, .ref (G.2.2 49)), (1, .int (nI n)), (2, .int (nI d))]) S.1 S.2.1 dX1_countWays_1 rfl hl (by decide) rfl (fun ls hl => ?_)
  have LP2 : ∀ (fU : Nat) (j : Nat) (M1 : uM), (13 < j + fU) → (j ≤ 13) → (∀ i, i < j → M1.2 50 i = lN (cw d 0 i)) → (M1.1 = M.1) → ∀ (H : Heap) (locs : List Loc) (ls : Array Slot), uZ G xA M1 xs.heap H locs → lv_has ls 5 [(3, .int (nI j)), (0, .ref (G.2.2 49)), (1, .int (nI n)), (2, .int (nI d))] → W xp l xe (uRm 1 21) xs xm xa xb xt xc H locs 0 0 (MQ xb (va_Qv (fun M2 => (∀ i, i < 13 → M2.2 50 i = lN (cw d n i)) ∧ M2.2 49 1 = lN (d ^ n) ∧ M2.1 = M.1) (fun M' t => uB G M' t) xA) xa xs 0 0 xA) (F0 xm 2 ls []) := by
    intro fU
    induction fU with
    | zero =>
      intro j M1 hfl i1 i2 i3 H locs ls Z hl
      exfalso
      omega
    | succ fU ih2 =>
      intro j M1 hfl i1 i2 i3 H locs ls Z hl
      refine lv_iload_n S.1 S.2.1 dX1_countWays_2 rfl (lv_at hl 0 rfl) ?_
      refine lv_aload_n S.1 S.2.1 dX1_countWays_3 rfl (lv_at hl 1 rfl) ?_
      refine ug_r S hK Z (j := 0) 50 (by decide) rfl rfl rfl (by decide) iX1_countWays_X1 qX1_countWays_9 dX1_countWays_4 ?_
      refine ua_len S hK Z (by decide) rfl dX1_countWays_7 ?_
      refine lv_icmp_ge (tgt := 32) S.1 S.2.1 dX1_countWays_8 (by decide) (fun c_1 => ?_) (fun c_1 => ?_)
      · skip
        have c_1 : 13 ≤ j := (nI_leI (a := 13) (b := j) (by omega) (by omega)).mp c_1
        refine lv_aload_n S.1 S.2.1 dX1_countWays_32 rfl (lv_at hl 1 rfl) ?_
        refine lv_lconst (v := 1) S.1 S.2.1 dX1_countWays_33 (by decide) ?_
        refine up_l S hK Z (j := 1) (by decide) rfl rfl rfl (by decide) iX1_countWays_X1 tyX1_ok nmX1 qX1_countWays_13 rfl rfl rfl dX1_countWays_34 (fun H locs Z => ?_)
        refine lv_iconst (v := 0) S.1 S.2.1 dX1_countWays_37 (by decide) ?_
        refine lv_istore_n (lv' := [(3, .int 0), (0, .ref (G.2.2 49)), (1, .int (nI n)), (2, .int (nI d))]) S.1 S.2.1 dX1_countWays_38 rfl hl (by decide) rfl (fun ls hl => ?_)
        have LP39 : ∀ (fU : Nat) (t : Nat) (M2 : uM), (n < t + fU) → (t ≤ n) → (∀ i, i < 13 → M2.2 50 i = lN (cw d t i)) → (M2.2 49 1 = lN (d ^ t)) → (M2.1 = M.1) → ∀ (H : Heap) (locs : List Loc) (ls : Array Slot), uZ G xA M2 xs.heap H locs → lv_has ls 5 [(3, .int (nI t)), (0, .ref (G.2.2 49)), (1, .int (nI n)), (2, .int (nI d))] → W xp l xe (uRm 1 21) xs xm xa xb xt xc H locs 0 0 (MQ xb (va_Qv (fun M2 => (∀ i, i < 13 → M2.2 50 i = lN (cw d n i)) ∧ M2.2 49 1 = lN (d ^ n) ∧ M2.1 = M.1) (fun M' t => uB G M' t) xA) xa xs 0 0 xA) (F0 xm 39 ls []) := by
          intro fU
          induction fU with
          | zero =>
            intro t M2 hfl k1 k2 k3 k4 H locs ls Z hl
            exfalso
            omega
          | succ fU ih39 =>
            intro t M2 hfl k1 k2 k3 k4 H locs ls Z hl
            refine lv_iload_n S.1 S.2.1 dX1_countWays_39 rfl (lv_at hl 0 rfl) ?_
            refine lv_iload_n S.1 S.2.1 dX1_countWays_40 rfl (lv_at hl 2 rfl) ?_
            refine lv_icmp_ge (tgt := 115) S.1 S.2.1 dX1_countWays_41 (by decide) (fun c_2 => ?_) (fun c_2 => ?_)
            · skip
              have c_2 : n ≤ t := (nI_leI (a := n) (b := t) (by omega) (by omega)).mp c_2
              refine uret_v S hK Z hre hlk dX1_countWays_115 ?_
              obtain rfl : t = n := by omega
              exact ⟨k2, k3, k4⟩
            · skip
              have c_2 : ¬ n ≤ t := fun z9 => c_2 ((nI_leI (a := n) (b := t) (by omega) (by omega)).mpr z9)
              refine lv_aload_n S.1 S.2.1 dX1_countWays_44 rfl (lv_at hl 1 rfl) ?_
              refine lv_dup S.1 S.2.1 dX1_countWays_45 rfl ?_
              refine ug_l S hK Z (j := 1) (by decide) rfl rfl rfl (by decide) iX1_countWays_X1 qX1_countWays_13 dX1_countWays_46 ?_
              refine utopl (y := (lN (d ^ t))) k3 ?_
              refine lv_iload_n S.1 S.2.1 dX1_countWays_49 rfl (lv_at hl 3 rfl) ?_
              refine lv_i2l (v := (lN d)) S.1 S.2.1 dX1_countWays_50 (nI_l (by omega)) ?_
              refine lv_lmul S.1 S.2.1 dX1_countWays_51 ?_
              refine utopl (lN_mul (d ^ t) d) ?_
              refine up_l S hK Z (j := 1) (by decide) rfl rfl rfl (by decide) iX1_countWays_X1 tyX1_ok nmX1 qX1_countWays_13 rfl rfl rfl dX1_countWays_52 (fun H locs Z => ?_)
              refine lv_aload_n S.1 S.2.1 dX1_countWays_55 rfl (lv_at hl 1 rfl) ?_
              refine ug_r S hK Z (j := 0) 50 (by decide) rfl rfl rfl (by decide) iX1_countWays_X1 qX1_countWays_9 dX1_countWays_56 ?_
              refine ua_len S hK Z (by decide) rfl dX1_countWays_59 ?_
              refine lv_iconst (v := 1) S.1 S.2.1 dX1_countWays_60 (by decide) ?_
              refine lv_isub S.1 S.2.1 dX1_countWays_61 ?_
              refine utop (y := 12) (by decide) ?_
              refine lv_istore (lv' := [(4, .int 12), (3, .int (nI t)), (0, .ref (G.2.2 49)), (1, .int (nI n)), (2, .int (nI d))]) S.1 S.2.1 dX1_countWays_62 hl (by decide) rfl (fun ls hl => ?_)
              have LP64 : ∀ (fU : Nat) (q : Nat) (x4 : Int32) (M3 : uM), (q < fU) → (q ≤ 13) → ((q = 0 ∧ x4 = -1) ∨ ∃ q1, q = q1 + 1 ∧ x4 = nI q1) → (∀ i, i < q → M3.2 50 i = lN (cw d t i)) → (∀ i, q ≤ i → i < 13 → M3.2 50 i = lN (cw d (t + 1) i)) → (M3.2 49 1 = lN (d ^ (t + 1))) → (M3.1 = M.1) → ∀ (H : Heap) (locs : List Loc) (ls : Array Slot), uZ G xA M3 xs.heap H locs → lv_has ls 5 [(4, .int x4), (3, .int (nI t)), (0, .ref (G.2.2 49)), (1, .int (nI n)), (2, .int (nI d))] → W xp l xe (uRm 1 21) xs xm xa xb xt xc H locs 0 0 (MQ xb (va_Qv (fun M2 => (∀ i, i < 13 → M2.2 50 i = lN (cw d n i)) ∧ M2.2 49 1 = lN (d ^ n) ∧ M2.1 = M.1) (fun M' t => uB G M' t) xA) xa xs 0 0 xA) (F0 xm 64 ls []) := by
                intro fU
                induction fU with
                | zero =>
                  intro q x4 M3 hfl r0 hx r1 r2 r3 r4 H locs ls Z hl
                  exfalso
                  omega
                | succ fU ih64 =>
                  intro q x4 M3 hfl r0 hx r1 r2 r3 r4 H locs ls Z hl
                  rcases hx with ⟨hq0, hx⟩ | ⟨_ | q1, hq0, hx⟩
                  · skip
                    subst hq0
                    subst hx
                    refine lv_iload S.1 S.2.1 dX1_countWays_64 (lv_at hl 0 rfl) ?_
                    refine lv_if_lt (tgt := 109) S.1 S.2.1 dX1_countWays_66 (by decide) (fun _ => ?_) (fun c => absurd c (by decide))
                    refine lv_iinc (v := (nI (t + 1))) (lv' := [(3, .int (nI (t + 1))), (4, .int (-1)), (0, .ref (G.2.2 49)), (1, .int (nI n)), (2, .int (nI d))]) S.1 S.2.1 dX1_countWays_109 hl (k := 1) rfl (u_inc1 t) (by decide) rfl (fun ls hl => ?_)
                    refine lv_goto (tgt := 39) S.1 S.2.1 dX1_countWays_112 (by decide) ?_
                    exact ih39 (t + 1) M3 (by omega) (by omega) (by
                        intro i hi
                        exact r2 i (Nat.zero_le _) hi) (by exact r3) (by exact r4) _ _ _ Z (lv_sub hl [0, 2, 3, 4] rfl)
                  · skip
                    subst hq0
                    subst hx
                    refine lv_iload S.1 S.2.1 dX1_countWays_64 (lv_at hl 0 rfl) ?_
                    refine lv_if_lt (tgt := 109) S.1 S.2.1 dX1_countWays_66 (by decide) (fun c => absurd c (by decide)) (fun _ => ?_)
                    refine lv_aload_n S.1 S.2.1 dX1_countWays_69 rfl (lv_at hl 2 rfl) ?_
                    refine ug_r S hK Z (j := 0) 50 (by decide) rfl rfl rfl (by decide) iX1_countWays_X1 qX1_countWays_9 dX1_countWays_70 ?_
                    refine lv_iload S.1 S.2.1 dX1_countWays_73 (lv_at hl 0 rfl) ?_
                    refine lv_aload_n S.1 S.2.1 dX1_countWays_75 rfl (lv_at hl 2 rfl) ?_
                    refine lv_iload S.1 S.2.1 dX1_countWays_76 (lv_at hl 0 rfl) ?_
                    refine ud_Vl (As := [.int (nI 0)]) (rest := [.int (nI 0), .ref (G.2.2 50)]) S hK hA Z (c_X1_waysTo l G 0 (by omega) M3) (cwV 1 S.2.2.2.2 gX1_countWays_X1_waysTo rfl rfl rfl (by decide +kernel) ⟨Nat.le_of_ble_eq_true rfl, Nat.le_of_ble_eq_true rfl⟩) (by decide) rfl rfl rfl hl.1 rfl (Nat.le_of_ble_eq_true rfl) dX1_countWays_78 ⟨Nat.zero_le _, Nat.zero_le _⟩ (fun H locs Z => ?_)
                    refine utopl (y := lN (cw d t 0)) (r1 0 (by omega)) ?_
                    refine lv_iload S.1 S.2.1 dX1_countWays_81 (lv_at hl 0 rfl) ?_
                    refine lv_i2l (v := 0) S.1 S.2.1 dX1_countWays_83 (by decide) ?_
                    refine lv_lmul S.1 S.2.1 dX1_countWays_84 ?_
                    refine utopl (lN_mul (cw d t 0) 0) ?_
                    refine lv_aload_n S.1 S.2.1 dX1_countWays_85 rfl (lv_at hl 2 rfl) ?_
                    refine lv_iload S.1 S.2.1 dX1_countWays_86 (lv_at hl 0 rfl) ?_
                    refine lv_iconst (v := 1) S.1 S.2.1 dX1_countWays_88 (by decide) ?_
                    refine lv_isub S.1 S.2.1 dX1_countWays_89 ?_
                    refine utop (y := (-1)) (by decide) ?_
                    refine ud_Vl (As := [.int (-1)]) (rest := [.long (lN ((cw d t 0) * 0)), .int (nI 0), .ref (G.2.2 50)]) S hK hA Z (c_X1_waysToN l G M3) (cwV 1 S.2.2.2.2 gX1_countWays_X1_waysTo rfl rfl rfl (by decide +kernel) ⟨Nat.le_of_ble_eq_true rfl, Nat.le_of_ble_eq_true rfl⟩) (by decide) rfl rfl rfl hl.1 rfl (Nat.le_of_ble_eq_true rfl) dX1_countWays_90 ⟨Nat.zero_le _, Nat.zero_le _⟩ (fun H locs Z => ?_)
                    refine lv_iload_n S.1 S.2.1 dX1_countWays_93 rfl (lv_at hl 4 rfl) ?_
                    refine lv_iload S.1 S.2.1 dX1_countWays_94 (lv_at hl 0 rfl) ?_
                    refine lv_isub S.1 S.2.1 dX1_countWays_96 ?_
                    refine lv_iconst (v := 1) S.1 S.2.1 dX1_countWays_97 (by decide) ?_
                    refine lv_iadd S.1 S.2.1 dX1_countWays_98 ?_
                    refine lv_i2l (v := ((((nI d) - (nI 0)) + 1).toInt64)) S.1 S.2.1 dX1_countWays_99 rfl ?_
                    refine lv_lmul S.1 S.2.1 dX1_countWays_100 ?_
                    refine utopl (y := lN 0) (by rw [Int64.zero_mul]; rfl) ?_
                    refine lv_ladd S.1 S.2.1 dX1_countWays_101 ?_
                    refine utopl (lN_add ((cw d t 0) * 0) 0) ?_
                    refine ua_lst S hK Z 0 (by decide) rfl rfl (by omega) dX1_countWays_102 (fun H locs Z => ?_)
                    refine lv_iinc (v := ((nI 0) + (-1))) (lv' := [(4, .int ((nI 0) + (-1))), (3, .int (nI t)), (0, .ref (G.2.2 49)), (1, .int (nI n)), (2, .int (nI d))]) S.1 S.2.1 dX1_countWays_103 hl (k := 0) rfl rfl (by decide) rfl (fun ls hl => ?_)
                    refine lv_goto (tgt := 64) S.1 S.2.1 dX1_countWays_106 (by decide) ?_
                    exact ih64 0 ((nI 0) + (-1)) (u2 M3 50 0 (lN (((cw d t 0) * 0) + 0))) (by omega) (by omega) (by exact u_down 0) (by
                        intro i hi
                        rw [u2_2, if_neg (fun y => by omega)]
                        exact r1 i (by omega)) (by
                        intro i hi hi2
                        rw [u2_2]
                        by_cases z : i = 0
                        · subst z
                          rw [if_pos ⟨rfl, rfl⟩, cw_z]
                        · rw [if_neg (fun y => z y.2)]
                          exact r2 i (by omega) hi2) (by rw [u2_2, if_neg (by omega)]; exact r3) (by exact r4) _ _ _ Z (lv_sub hl [0, 1, 2, 3, 4] rfl)
                  · skip
                    subst hq0
                    subst hx
                    refine lv_iload S.1 S.2.1 dX1_countWays_64 (lv_at hl 0 rfl) ?_
                    refine lv_if_lt (tgt := 109) S.1 S.2.1 dX1_countWays_66 (by decide) (fun c_7 => ?_) (fun c_7 => ?_)
                    · skip
                      have c_7 : (q1 + 1) < 0 := (nI_ltI (a := (q1 + 1)) (b := 0) (by omega) (by omega)).mp c_7
                      omega
                    · skip
                      have c_7 : ¬ (q1 + 1) < 0 := fun z9 => c_7 ((nI_ltI (a := (q1 + 1)) (b := 0) (by omega) (by omega)).mpr z9)
                      refine lv_aload_n S.1 S.2.1 dX1_countWays_69 rfl (lv_at hl 2 rfl) ?_
                      refine ug_r S hK Z (j := 0) 50 (by decide) rfl rfl rfl (by decide) iX1_countWays_X1 qX1_countWays_9 dX1_countWays_70 ?_
                      refine lv_iload S.1 S.2.1 dX1_countWays_73 (lv_at hl 0 rfl) ?_
                      refine lv_aload_n S.1 S.2.1 dX1_countWays_75 rfl (lv_at hl 2 rfl) ?_
                      refine lv_iload S.1 S.2.1 dX1_countWays_76 (lv_at hl 0 rfl) ?_
                      refine ud_Vl (As := [.int (nI (q1 + 1))]) (rest := [.int (nI (q1 + 1)), .ref (G.2.2 50)]) S hK hA Z (c_X1_waysTo l G (q1 + 1) (by omega) M3) (cwV 1 S.2.2.2.2 gX1_countWays_X1_waysTo rfl rfl rfl (by decide +kernel) ⟨Nat.le_of_ble_eq_true rfl, Nat.le_of_ble_eq_true rfl⟩) (by decide) rfl rfl rfl hl.1 rfl (Nat.le_of_ble_eq_true rfl) dX1_countWays_78 ⟨Nat.zero_le _, Nat.zero_le _⟩ (fun H locs Z => ?_)
                      refine utopl (y := lN (cw d t (q1 + 1))) (r1 (q1 + 1) (by omega)) ?_
                      refine lv_iload S.1 S.2.1 dX1_countWays_81 (lv_at hl 0 rfl) ?_
                      refine lv_i2l (v := (lN (q1 + 1))) S.1 S.2.1 dX1_countWays_83 (nI_l (by omega)) ?_
                      refine lv_lmul S.1 S.2.1 dX1_countWays_84 ?_
                      refine utopl (lN_mul (cw d t (q1 + 1)) (q1 + 1)) ?_
                      refine lv_aload_n S.1 S.2.1 dX1_countWays_85 rfl (lv_at hl 2 rfl) ?_
                      refine lv_iload S.1 S.2.1 dX1_countWays_86 (lv_at hl 0 rfl) ?_
                      refine lv_iconst (v := 1) S.1 S.2.1 dX1_countWays_88 (by decide) ?_
                      refine lv_isub S.1 S.2.1 dX1_countWays_89 ?_
                      refine utop (y := (nI q1)) (pk_sub (a := (q1 + 1)) (b := 1) (by omega)) ?_
                      refine ud_Vl (As := [.int (nI q1)]) (rest := [.long (lN ((cw d t (q1 + 1)) * (q1 + 1))), .int (nI (q1 + 1)), .ref (G.2.2 50)]) S hK hA Z (c_X1_waysTo l G q1 (by omega) M3) (cwV 1 S.2.2.2.2 gX1_countWays_X1_waysTo rfl rfl rfl (by decide +kernel) ⟨Nat.le_of_ble_eq_true rfl, Nat.le_of_ble_eq_true rfl⟩) (by decide) rfl rfl rfl hl.1 rfl (Nat.le_of_ble_eq_true rfl) dX1_countWays_90 ⟨Nat.zero_le _, Nat.zero_le _⟩ (fun H locs Z => ?_)
                      refine utopl (y := lN (cw d t q1)) (r1 q1 (by omega)) ?_
                      refine lv_iload_n S.1 S.2.1 dX1_countWays_93 rfl (lv_at hl 4 rfl) ?_
                      refine lv_iload S.1 S.2.1 dX1_countWays_94 (lv_at hl 0 rfl) ?_
                      refine lv_isub S.1 S.2.1 dX1_countWays_96 ?_
                      refine lv_iconst (v := 1) S.1 S.2.1 dX1_countWays_97 (by decide) ?_
                      refine lv_iadd S.1 S.2.1 dX1_countWays_98 ?_
                      refine lv_i2l (v := ((((nI d) - (nI (q1 + 1))) + 1).toInt64)) S.1 S.2.1 dX1_countWays_99 rfl ?_
                      refine lv_lmul S.1 S.2.1 dX1_countWays_100 ?_
                      refine utopl (u_cw (d := d) (n := t) (i := q1 + 1) hd (by omega) (by omega)) ?_
                      refine lv_ladd S.1 S.2.1 dX1_countWays_101 ?_
                      refine utopl (lN_add ((cw d t (q1 + 1)) * (q1 + 1)) (cw d t q1 * (d + 1 - (q1 + 1)))) ?_
                      refine ua_lst S hK Z (q1 + 1) (by decide) rfl rfl (by omega) dX1_countWays_102 (fun H locs Z => ?_)
                      refine lv_iinc (v := (nI q1)) (lv' := [(4, .int (nI q1)), (3, .int (nI t)), (0, .ref (G.2.2 49)), (1, .int (nI n)), (2, .int (nI d))]) S.1 S.2.1 dX1_countWays_103 hl (k := 0) rfl (u_dec1 q1) (by decide) rfl (fun ls hl => ?_)
                      refine lv_goto (tgt := 64) S.1 S.2.1 dX1_countWays_106 (by decide) ?_
                      exact ih64 (q1 + 1) (nI q1) (u2 M3 50 (q1 + 1) (lN (((cw d t (q1 + 1)) * (q1 + 1)) + (cw d t q1 * (d + 1 - (q1 + 1)))))) (by omega) (by omega) (by exact Or.inr ⟨q1, rfl, rfl⟩) (by
                          intro i hi
                          rw [u2_2, if_neg (fun y => by omega)]
                          exact r1 i (by omega)) (by
                          intro i hi hi2
                          rw [u2_2]
                          by_cases z : i = (q1 + 1)
                          · subst z
                            rw [if_pos ⟨rfl, rfl⟩, cw_s]
                          · rw [if_neg (fun y => z y.2)]
                            exact r2 i (by omega) hi2) (by rw [u2_2, if_neg (by omega)]; exact r3) (by exact r4) _ _ _ Z (lv_sub hl [0, 1, 2, 3, 4] rfl)
              exact LP64 14 13 12 (u2 M2 49 1 (lN ((d ^ t) * d))) (by omega) (by omega) (by exact Or.inr ⟨12, rfl, rfl⟩) (by
                  intro i hi
                  rw [u2_2, if_neg (by omega)]
                  exact k2 i hi) (by intro i hi hi2; omega) (by rw [u2_2, if_pos ⟨rfl, rfl⟩, Nat.pow_succ]) (by exact k4) _ _ _ Z (lv_sub hl [0, 1, 2, 3, 4] rfl)
        exact LP39 (n + 1) 0 (u2 M1 49 1 1) (by omega) (by omega) (by
            intro i hi
            rw [u2_2, if_neg (by omega)]
            exact i2 i (by omega)) (by rw [u2_2, if_pos ⟨rfl, rfl⟩]; rfl) (by exact i3) _ _ _ Z (lv_sub hl [0, 1, 2, 3] rfl)
      · skip
        have c_1 : ¬ 13 ≤ j := fun z9 => c_1 ((nI_leI (a := 13) (b := j) (by omega) (by omega)).mpr z9)
        refine lv_aload_n S.1 S.2.1 dX1_countWays_11 rfl (lv_at hl 1 rfl) ?_
        refine ug_r S hK Z (j := 0) 50 (by decide) rfl rfl rfl (by decide) iX1_countWays_X1 qX1_countWays_9 dX1_countWays_12 ?_
        refine lv_iload_n S.1 S.2.1 dX1_countWays_15 rfl (lv_at hl 0 rfl) ?_
        refine lv_iload_n S.1 S.2.1 dX1_countWays_16 rfl (lv_at hl 0 rfl) ?_
        refine lv_if_ne (tgt := 24) S.1 S.2.1 dX1_countWays_17 (by decide) (fun c_10 => ?_) (fun c_10 => ?_)
        · skip
          have c_10 : ¬ j = 0 := fun z9 => c_10 ((nI_eq (a := j) (b := 0) (by omega) (by omega)).mpr z9)
          refine lv_lconst (v := 0) S.1 S.2.1 dX1_countWays_24 (by decide) ?_
          refine ua_lst S hK Z j (by decide) rfl rfl (by omega) dX1_countWays_25 (fun H locs Z => ?_)
          refine lv_iinc (v := (nI (j + 1))) (lv' := [(3, .int (nI (j + 1))), (0, .ref (G.2.2 49)), (1, .int (nI n)), (2, .int (nI d))]) S.1 S.2.1 dX1_countWays_26 hl (k := 0) rfl (u_inc1 j) (by decide) rfl (fun ls hl => ?_)
          refine lv_goto (tgt := 2) S.1 S.2.1 dX1_countWays_29 (by decide) ?_
          exact ih2 (j + 1) (u2 M1 50 j 0) (by omega) (by omega) (by
              intro i hi
              rw [u2_2]
              by_cases z : i = j
              · subst z
                rw [if_pos ⟨rfl, rfl⟩]
                unfold cw
                first | rw [if_pos (by omega)] <;> rfl | rw [if_neg (by omega)] <;> rfl
              · rw [if_neg (fun y => z y.2)]
                exact i2 i (by omega)) (by exact i3) _ _ _ Z (lv_sub hl [0, 1, 2, 3] rfl)
        · skip
          have c_10 : j = 0 := (nI_eq (a := j) (b := 0) (by omega) (by omega)).mp c_10
          refine lv_lconst (v := 1) S.1 S.2.1 dX1_countWays_20 (by decide) ?_
          refine lv_goto (tgt := 25) S.1 S.2.1 dX1_countWays_21 (by decide) ?_
          refine ua_lst S hK Z j (by decide) rfl rfl (by omega) dX1_countWays_25 (fun H locs Z => ?_)
          refine lv_iinc (v := (nI (j + 1))) (lv' := [(3, .int (nI (j + 1))), (0, .ref (G.2.2 49)), (1, .int (nI n)), (2, .int (nI d))]) S.1 S.2.1 dX1_countWays_26 hl (k := 0) rfl (u_inc1 j) (by decide) rfl (fun ls hl => ?_)
          refine lv_goto (tgt := 2) S.1 S.2.1 dX1_countWays_29 (by decide) ?_
          exact ih2 (j + 1) (u2 M1 50 j 1) (by omega) (by omega) (by
              intro i hi
              rw [u2_2]
              by_cases z : i = j
              · subst z
                rw [if_pos ⟨rfl, rfl⟩]
                unfold cw
                first | rw [if_pos (by omega)] <;> rfl | rw [if_neg (by omega)] <;> rfl
              · rw [if_neg (fun y => z y.2)]
                exact i2 i (by omega)) (by exact i3) _ _ _ Z (lv_sub hl [0, 1, 2, 3] rfl)
  exact LP2 14 0 M (by omega) (by omega) (by intro i hi; omega) (by rfl) _ _ _ Z (lv_sub hl [0, 1, 2, 3] rfl)
theorem nI_inj {a b : Nat} (ha : a < 2147483648) (hb : b < 2147483648) (h : nI a = nI b) : a = b := (nI_eq ha hb).mp h
set_option maxHeartbeats 4000000 in
set_option maxRecDepth 100000 in
theorem c_X0_readA (l : Launch) (G : uG) (v : Nat) (hv : v < 2147483648) (n : Int32) (M : uM) : CTi l G yX0_read wsX0_read 2 46 [.ref (G.2.2 41), .int (nI v), .int n] M (fun r M2 => ((∃ v1 d, nI v = nI v1 ∧ v1 < 2147483648 ∧ n = nI d ∧ 1 ≤ d ∧ d ≤ 9 ∧ v1 / 10 ^ d = 0 ∧ r = 1 ∧ (∀ i, i < d → M2.1 42 i = nI (dg v1 d i)) ∧ M2.1 41 1 = nI d) ∨ (r = 0 ∧ ¬ (∃ v1 d, nI v = nI v1 ∧ v1 < 2147483648 ∧ n = nI d ∧ 1 ≤ d ∧ d ≤ 9 ∧ v1 / 10 ^ d = 0))) ∧ uSm 41 43 M M2) := by
  obtain ⟨fw, hfw⟩ := uAr_ex (u1 M 41 1 n) 42
  refine ustart_i (cc := cX0_read) (maxL := 3) (ret := (some .boolean)) (own := RX0) rfl (by decide) rfl (Nat.le_of_ble_eq_true rfl) ?_
  intro xp xe xs xm xa xb xt xc xA ls S hK hA Z hre hlk hl
  have hl : lv_has ls 3 [(0, .ref (G.2.2 41)), (1, .int (nI v)), (2, .int n)] := hl
  refine lv_iload_n S.1 S.2.1 dX0_read_0 rfl (lv_at hl 2 rfl) ?_
  refine lv_iconst (v := 1) S.1 S.2.1 dX0_read_1 (by decide) ?_
  refine lv_bipush (v := 9) S.1 S.2.1 dX0_read_2 (by decide) ?_
  refine uc_Si (As := [.int n, .int 1, .int 9]) (rest := []) S hK hA Z (c_X5_within l G n 1 9 M) (va_cwS 3 S.2.2.2.2 gX0_read_X5_within rfl rfl rfl (by decide +kernel) ⟨Nat.le_of_ble_eq_true rfl, Nat.le_of_ble_eq_true rfl⟩) rfl hl.1 rfl (Nat.le_of_ble_eq_true rfl) dX0_read_4 ⟨Nat.zero_le _, Nat.zero_le _⟩ (fun r_1 M_1 H locs hp Z => ?_)
  obtain ⟨⟨rfl, w_1⟩ | ⟨rfl, w_1⟩, hM_1⟩ := hp
  · skip
    rw [hM_1] at Z
    refine lv_if_ne (tgt := 12) S.1 S.2.1 dX0_read_7 (by decide) (fun _ => ?_) (fun c => absurd c (by decide))
    obtain ⟨d, hd2, rfl⟩ := u_rng2 (n := 9) (Int32.le_trans (by decide) w_1.1) w_1.2 (by decide)
    have hd1 : 1 ≤ d := (nI_leI (a := 1) (b := d) (by decide) (by omega)).mp w_1.1
    refine lv_aload_n S.1 S.2.1 dX0_read_12 rfl (lv_at hl 0 rfl) ?_
    refine lv_iload_n S.1 S.2.1 dX0_read_13 rfl (lv_at hl 2 rfl) ?_
    refine up_i S hK Z (j := 1) (by decide) rfl rfl rfl (by decide) iX0_read_X0 tyX0_ok nmX0 qX0_read_19 rfl rfl rfl dX0_read_14 (fun H locs Z => ?_)
    refine lv_iload_n S.1 S.2.1 dX0_read_17 rfl (lv_at hl 1 rfl) ?_
    refine lv_iload_n S.1 S.2.1 dX0_read_18 rfl (lv_at hl 2 rfl) ?_
    refine lv_aload_n S.1 S.2.1 dX0_read_19 rfl (lv_at hl 0 rfl) ?_
    refine ug_r S hK Z (j := 0) 42 (by decide) rfl rfl rfl (by decide) iX0_read_X0 qX0_read_9 dX0_read_20 ?_
    rw [← hfw] at Z
    refine uc_Si (As := [.int (nI v), .int (nI d), .ref (G.2.2 42)]) (rest := []) S hK hA Z (c_X5_readDigits l G v d 42 9 hv hd1 hd2 (by decide) rfl (u1 M 41 1 (nI d)) fw) (va_cwS 3 S.2.2.2.2 gX0_read_X5_readDigits rfl rfl rfl (by decide +kernel) ⟨Nat.le_of_ble_eq_true rfl, Nat.le_of_ble_eq_true rfl⟩) rfl hl.1 rfl (Nat.le_of_ble_eq_true rfl) dX0_read_23 ⟨Nat.zero_le _, Nat.zero_le _⟩ (fun r_3 M_3 H locs hp Z => ?_)
    obtain ⟨⟨rfl, w_3⟩ | ⟨rfl, w_3⟩, hM_3⟩ := hp
    · skip
      have w0 := w_3
      have hM := hM_3
      refine uret_z S hK Z hre hlk (by decide) dX0_read_26 ?_
      have h2 : uSm 41 43 M M_3 := by
        rw [hM]
        exact uSm_r (uSm_1 (uSm_rf 41 43 M) (by decide) (by decide)) (by decide) (by decide)
      refine ⟨Or.inl ⟨v, d, rfl, hv, rfl, hd1, hd2, w0, rfl, fun i hi => ?_, ?_⟩, h2⟩
      · rw [hM, uAr_g, if_pos hi]
      · rw [hM, uAr_o _ _ _ _ (by decide), u1_1, if_pos ⟨rfl, rfl⟩]
    · skip
      have w0 := w_3
      have hM := hM_3
      refine uret_z S hK Z hre hlk (by decide) dX0_read_26 ?_
      have h2 : uSm 41 43 M M_3 := by
        rw [hM]
        exact uSm_r (uSm_1 (uSm_rf 41 43 M) (by decide) (by decide)) (by decide) (by decide)
      refine ⟨Or.inr ⟨rfl, fun ⟨v2, d2, q1, q2, q3, q4, q5, q6⟩ => ?_⟩, h2⟩
      have e1 := nI_inj hv q2 q1
      have e2 := nI_inj (by omega) (by omega) q3
      subst e1
      subst e2
      exact w0 q6
  · skip
    rw [hM_1] at Z
    refine lv_if_ne (tgt := 12) S.1 S.2.1 dX0_read_7 (by decide) (fun c => absurd c (by decide)) (fun _ => ?_)
    refine lv_iconst (v := 0) S.1 S.2.1 dX0_read_10 (by decide) ?_
    refine uret_z S hK Z hre hlk (by decide) dX0_read_11 ?_
    refine ⟨Or.inr ⟨rfl, fun ⟨v2, d2, q1, q2, q3, q4, q5, q6⟩ => ?_⟩, uSm_rf _ _ _⟩
    subst q3
    exact w_1 ⟨(nI_leI (a := 1) (b := d2) (by decide) (by omega)).mpr q4, (nI_leI (a := d2) (b := 9) (by omega) (by decide)).mpr q5⟩
set_option maxHeartbeats 4000000 in
set_option maxRecDepth 100000 in
theorem c_X0_readN (l : Launch) (G : uG) (x : Int32) (hx0 : x < 0) (n : Int32) (M : uM) : CTi l G yX0_read wsX0_read 2 46 [.ref (G.2.2 41), .int x, .int n] M (fun r M2 => r = 0 ∧ uSm 41 43 M M2) := by
  refine ustart_i (cc := cX0_read) (maxL := 3) (ret := (some .boolean)) (own := RX0) rfl (by decide) rfl (Nat.le_of_ble_eq_true rfl) ?_
  intro xp xe xs xm xa xb xt xc xA ls S hK hA Z hre hlk hl
  have hl : lv_has ls 3 [(0, .ref (G.2.2 41)), (1, .int x), (2, .int n)] := hl
  refine lv_iload_n S.1 S.2.1 dX0_read_0 rfl (lv_at hl 2 rfl) ?_
  refine lv_iconst (v := 1) S.1 S.2.1 dX0_read_1 (by decide) ?_
  refine lv_bipush (v := 9) S.1 S.2.1 dX0_read_2 (by decide) ?_
  refine uc_Si (As := [.int n, .int 1, .int 9]) (rest := []) S hK hA Z (c_X5_within l G n 1 9 M) (va_cwS 3 S.2.2.2.2 gX0_read_X5_within rfl rfl rfl (by decide +kernel) ⟨Nat.le_of_ble_eq_true rfl, Nat.le_of_ble_eq_true rfl⟩) rfl hl.1 rfl (Nat.le_of_ble_eq_true rfl) dX0_read_4 ⟨Nat.zero_le _, Nat.zero_le _⟩ (fun r_1 M_1 H locs hp Z => ?_)
  obtain ⟨⟨rfl, w_1⟩ | ⟨rfl, w_1⟩, hM_1⟩ := hp
  · skip
    rw [hM_1] at Z
    refine lv_if_ne (tgt := 12) S.1 S.2.1 dX0_read_7 (by decide) (fun _ => ?_) (fun c => absurd c (by decide))
    obtain ⟨d, hd2, rfl⟩ := u_rng2 (n := 9) (Int32.le_trans (by decide) w_1.1) w_1.2 (by decide)
    have hd1 : 1 ≤ d := (nI_leI (a := 1) (b := d) (by decide) (by omega)).mp w_1.1
    refine lv_aload_n S.1 S.2.1 dX0_read_12 rfl (lv_at hl 0 rfl) ?_
    refine lv_iload_n S.1 S.2.1 dX0_read_13 rfl (lv_at hl 2 rfl) ?_
    refine up_i S hK Z (j := 1) (by decide) rfl rfl rfl (by decide) iX0_read_X0 tyX0_ok nmX0 qX0_read_19 rfl rfl rfl dX0_read_14 (fun H locs Z => ?_)
    refine lv_iload_n S.1 S.2.1 dX0_read_17 rfl (lv_at hl 1 rfl) ?_
    refine lv_iload_n S.1 S.2.1 dX0_read_18 rfl (lv_at hl 2 rfl) ?_
    refine lv_aload_n S.1 S.2.1 dX0_read_19 rfl (lv_at hl 0 rfl) ?_
    refine ug_r S hK Z (j := 0) 42 (by decide) rfl rfl rfl (by decide) iX0_read_X0 qX0_read_9 dX0_read_20 ?_
    refine uc_Si (As := [.int x, .int (nI d), .ref (G.2.2 42)]) (rest := []) S hK hA Z (c_X5_readDigitsN l G x d 42 9 hx0 hd1 hd2 (by decide) rfl (u1 M 41 1 (nI d))) (va_cwS 3 S.2.2.2.2 gX0_read_X5_readDigits rfl rfl rfl (by decide +kernel) ⟨Nat.le_of_ble_eq_true rfl, Nat.le_of_ble_eq_true rfl⟩) rfl hl.1 rfl (Nat.le_of_ble_eq_true rfl) dX0_read_23 ⟨Nat.zero_le _, Nat.zero_le _⟩ (fun r_3 M_3 H locs hp Z => ?_)
    obtain ⟨hr_3, hM_3⟩ := hp
    refine utop hr_3 ?_
    refine uret_z S hK Z hre hlk (by decide) dX0_read_26 ?_
    exact ⟨rfl, fun a ha => (hM_3 a (by omega)).trans (u1_ne (by omega))⟩
  · skip
    rw [hM_1] at Z
    refine lv_if_ne (tgt := 12) S.1 S.2.1 dX0_read_7 (by decide) (fun c => absurd c (by decide)) (fun _ => ?_)
    refine lv_iconst (v := 0) S.1 S.2.1 dX0_read_10 (by decide) ?_
    refine uret_z S hK Z hre hlk (by decide) dX0_read_11 ?_
    exact ⟨rfl, uSm_rf _ _ _⟩
