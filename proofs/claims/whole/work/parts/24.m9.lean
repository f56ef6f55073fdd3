/-- the mean of selling behind i takings, times 10^d -/
def mnS (wd : Nat → Nat) (d t i : Nat) : Nat := wd i * (10 - t) ^ i * 10 ^ (d - i)
def bsS (wd : Nat → Nat) (d t : Nat) : Nat → Nat
  | 0 => 0
  | i + 1 => if i = 0 then 0 else if mnS wd d t (bsS wd d t i) < mnS wd d t i then i else bsS wd d t i
theorem bsS_le (wd : Nat → Nat) (d t : Nat) : ∀ i, bsS wd d t i ≤ i - 1 := by
  intro i
  induction i with
  | zero => exact Nat.le_refl _
  | succ i ih =>
    rw [bsS]
    split
    · omega
    · split <;> omega
theorem mn_cmp {a b d i x y : Nat} (hx : a ≤ d) (hy : i ≤ d) : x * 10 ^ i < y * 10 ^ a ↔ x * 10 ^ (d - a) < y * 10 ^ (d - i) := by
  have e1 : x * 10 ^ i * (10 ^ (d - a) * 10 ^ (d - i)) = x * 10 ^ (d - a) * 10 ^ d := by
    rw [show (10 : Nat) ^ d = 10 ^ i * 10 ^ (d - i) from by rw [← Nat.pow_add, show i + (d - i) = d from by omega]]
    simp only [Nat.mul_assoc, Nat.mul_left_comm]
  have e2 : y * 10 ^ a * (10 ^ (d - a) * 10 ^ (d - i)) = y * 10 ^ (d - i) * 10 ^ d := by
    rw [show (10 : Nat) ^ d = 10 ^ a * 10 ^ (d - a) from by rw [← Nat.pow_add, show a + (d - a) = d from by omega]]
    simp only [Nat.mul_assoc, Nat.mul_left_comm, Nat.mul_comm]
  have hp : 0 < 10 ^ (d - a) * 10 ^ (d - i) := Nat.mul_pos (Nat.pow_pos (by decide)) (Nat.pow_pos (by decide))
  have hq : 0 < 10 ^ d := Nat.pow_pos (by decide)
  rw [← Nat.mul_lt_mul_right hp, e1, e2, Nat.mul_lt_mul_right hq]
theorem jS_bs (wd : Nat → Nat) {d : Nat} (t : Nat) : ∀ i, i ≤ d → jS wd t i = (bsS wd d t i, wd (bsS wd d t i) * (10 - t) ^ (bsS wd d t i), 10 ^ (bsS wd d t i)) := by
  intro i
  induction i with
  | zero => intro _; rw [jS, bsS, Nat.pow_zero, Nat.pow_zero, Nat.mul_one]
  | succ i ih =>
    intro hi
    rw [jS, bsS]
    by_cases h0 : i = 0
    · rw [if_pos h0, if_pos h0, Nat.pow_zero, Nat.pow_zero, Nat.mul_one]
    · rw [if_neg h0, if_neg h0, ih (by omega)]
      dsimp only
      have hb := bsS_le wd d t i
      by_cases q : mnS wd d t (bsS wd d t i) < mnS wd d t i
      · rw [if_pos q, if_pos ((mn_cmp (by omega) (by omega)).mpr q)]
      · rw [if_neg q, if_neg (fun z => q ((mn_cmp (by omega) (by omega)).mp z))]
theorem mn_bd {wd : Nat → Nat} {d t i : Nat} (hd : d ≤ 9) (hi : i < d) (hw : wd i ≤ 9) : mnS wd d t i ≤ 9000000000 := by
  unfold mnS
  have h1 : (10 - t) ^ i ≤ 10 ^ i := Nat.pow_le_pow_left (by omega) i
  have h2 : 10 ^ i * 10 ^ (d - i) ≤ 10 ^ 9 := by
    rw [← Nat.pow_add]
    exact Nat.pow_le_pow_right (by decide) (by omega)
  have h3 := Nat.mul_le_mul hw (Nat.le_trans (Nat.mul_le_mul_right (10 ^ (d - i)) h1) h2)
  rw [← Nat.mul_assoc] at h3
  exact h3
theorem mnS_congr {wd wd' : Nat → Nat} {d t i : Nat} (h : wd i = wd' i) : mnS wd d t i = mnS wd' d t i := by
  unfold mnS
  rw [h]
theorem bsS_congr {wd wd' : Nat → Nat} {d t : Nat} (h : ∀ i, i < d → wd i = wd' i) : ∀ i, i ≤ d → bsS wd d t i = bsS wd' d t i := by
  intro i
  induction i with
  | zero => intro _; rfl
  | succ i ih =>
    intro hi
    have hb := bsS_le wd d t i
    rw [bsS, bsS, ← ih (by omega)]
    by_cases h0 : i = 0
    · rw [if_pos h0, if_pos h0]
    · rw [if_neg h0, if_neg h0, mnS_congr (h i (by omega)), mnS_congr (i := bsS wd d t i) (h _ (by omega))]
theorem low_mul {u w k : Nat} (hk : 0 < k) : u * k / Nat.gcd (u * k) (w * k) = u / Nat.gcd u w ∧ w * k / Nat.gcd (u * k) (w * k) = w / Nat.gcd u w := by
  rw [Nat.gcd_mul_right]
  exact ⟨Nat.mul_div_mul_right u (Nat.gcd u w) hk, Nat.mul_div_mul_right w (Nat.gcd u w) hk⟩
/-- in lowest terms, the two ways come to the same -/
theorem stop_low {wd : Nat → Nat} {d t : Nat} (hd : 1 ≤ d) : mnS wd d t (bsS wd d t d) / Nat.gcd (mnS wd d t (bsS wd d t d)) (10 ^ d) = (jS wd t d).2.1 / Nat.gcd (jS wd t d).2.1 (jS wd t d).2.2 ∧ 10 ^ d / Nat.gcd (mnS wd d t (bsS wd d t d)) (10 ^ d) = (jS wd t d).2.2 / Nat.gcd (jS wd t d).2.1 (jS wd t d).2.2 := by
  have hb := bsS_le wd d t d
  rw [jS_bs wd t d (Nat.le_refl _)]
  dsimp only
  have e : (10 : Nat) ^ d = 10 ^ (bsS wd d t d) * 10 ^ (d - bsS wd d t d) := by rw [← Nat.pow_add, show bsS wd d t d + (d - bsS wd d t d) = d from by omega]
  unfold mnS
  rw [e]
  exact low_mul (Nat.pow_pos (by decide))
theorem gcd_step (a b : Nat) : Nat.gcd b (a % b) = Nat.gcd a b := by
  rw [Nat.gcd_comm a b, Nat.gcd_rec b a, Nat.gcd_comm]
theorem pow_lt63 {b e : Nat} (hb : b ≤ 10) (he : e ≤ 12) : b ^ e < 17592186044416 := dn_bd hb he
theorem qX12_readDigits_58 : Cond.fieldLink RX12 58 (TX12 27).1 (TX12 27).2.1 (TX12 27).2.2.1 ∈ wsX12_readDigits := List.mem_of_getElem? (i := 1) rfl
theorem iX12_readDigits_X12 : ∀ w ∈ wsX120, w ∈ wsX12_readDigits := fun _ h => List.mem_cons_of_mem _ (List.mem_append_right _ h)
theorem qX12_isStop_103 : Cond.constantLong RX12 103 9 ∈ wsX12_isStop := List.mem_of_getElem? (i := 1) rfl
theorem qX12_isStop_272 : Cond.constantLong RX12 272 10 ∈ wsX12_isStop := List.mem_of_getElem? (i := 2) rfl
theorem qX12_meanOf_58 : Cond.fieldLink RX12 58 (TX12 27).1 (TX12 27).2.1 (TX12 27).2.2.1 ∈ wsX12_meanOf := List.mem_of_getElem? (i := 1) rfl
theorem iX12_meanOf_X12 : ∀ w ∈ wsX120, w ∈ wsX12_meanOf := fun _ h => List.mem_cons_of_mem _ (List.mem_append_right _ h)
theorem qX12_meanOf_272 : Cond.constantLong RX12 272 10 ∈ wsX12_meanOf := List.mem_of_getElem? (i := 2) rfl
theorem qX12_stop_272 : Cond.constantLong RX12 272 10 ∈ wsX12_stop := List.mem_of_getElem? (i := 2) rfl
theorem qX12_stop_289 : Cond.constantLong RX12 289 (-1000000000000000002) ∈ wsX12_stop := List.mem_of_getElem? (i := 1) rfl
set_option maxHeartbeats 4000000 in
set_option maxRecDepth 100000 in
theorem c_X12_readDigits (l : Launch) (G : uG) (v d : Nat) (hv : v < 2147483648) (hd1 : 1 ≤ d) (hd : d ≤ 9) (M : uM) (f : Nat → Nat) : CTi l G yX12_readDigits wsX12_readDigits 0 0 [.ref (G.2.2 71), .int (nI v), .int (nI d)] (uAr M 88 f) (fun r M2 => ((r = 1 ∧ v / 10 ^ d = 0) ∨ (r = 0 ∧ ¬ v / 10 ^ d = 0)) ∧ ∃ h, M2 = uAr M 88 h ∧ ∀ i, i < d → h i = dg v d i) := by
  refine ustart_i (cc := cX12_readDigits) (maxL := 5) (ret := (some .boolean)) (own := RX12) rfl (by decide) rfl (Nat.le_of_ble_eq_true rfl) ?_
  intro xp xe xs xm xa xb xt xc xA ls S hK hA Z hre hlk hl
  have hl : lv_has ls 5 [(0, .ref (G.2.2 71)), (1, .int (nI v)), (2, .int (nI d))] := hl
  refine lv_iload_n S.1 S.2.1 dX12_readDigits_0 rfl (lv_at hl 1 rfl) ?_
  refine lv_istore_n (lv' := [(3, .int (nI v)), (0, .ref (G.2.2 71)), (1, .int (nI v)), (2, .int (nI d))]) S.1 S.2.1 dX12_readDigits_1 rfl hl (by decide) rfl (fun ls hl => ?_)
  refine lv_iload_n S.1 S.2.1 dX12_readDigits_2 rfl (lv_at hl 3 rfl) ?_
  refine lv_iconst (v := 1) S.1 S.2.1 dX12_readDigits_3 (by decide) ?_
  refine lv_isub S.1 S.2.1 dX12_readDigits_4 ?_
  refine utop (pk_sub (a := d) (b := 1) (by omega)) ?_
  refine lv_istore (lv' := [(4, .int (nI (d - 1))), (3, .int (nI v)), (0, .ref (G.2.2 71)), (1, .int (nI v)), (2, .int (nI d))]) S.1 S.2.1 dX12_readDigits_5 hl (by decide) rfl (fun ls hl => ?_)
  have LP7 : ∀ (fU : Nat) (q : Nat) (x4 : Int32) (rs : Nat) (h : Nat → Nat), (q < fU) → (q ≤ d) → ((q = 0 ∧ x4 = -1) ∨ ∃ q1, q = q1 + 1 ∧ x4 = nI q1) → (rs = v / 10 ^ (d - q)) → (∀ i, q ≤ i → i < d → h i = dg v d i) → ∀ (H : Heap) (locs : List Loc) (ls : Array Slot), uZ G xA (uAr M 88 h) xs.heap H locs → lv_has ls 5 [(4, .int x4), (3, .int (nI rs)), (0, .ref (G.2.2 71)), (1, .int (nI v)), (2, .int (nI d))] → W xp l xe (uRm 0 0) xs xm xa xb xt xc H locs 0 0 (MQ xb (va_Qi (fun r M2 => ((r = 1 ∧ v / 10 ^ d = 0) ∨ (r = 0 ∧ ¬ v / 10 ^ d = 0)) ∧ ∃ h, M2 = uAr M 88 h ∧ ∀ i, i < d → h i = dg v d i) (fun M' t => uB G M' t) xA) xa xs 0 0 xA) (F0 xm 7 ls []) := by
    intro fU
    induction fU with
    | zero =>
      intro q x4 rs h hfl hq hx hr hh H locs ls Z hl
      exfalso
      omega
    | succ fU ih7 =>
      intro q x4 rs h hfl hq hx hr hh H locs ls Z hl
      have hrb : rs < 2147483648 := by rw [hr]; exact div_bd _ _ hv
      rcases hx with ⟨hq0, hx⟩ | ⟨q1, hq0, hx⟩
      · skip
        subst hq0
        subst hx
        refine lv_iload S.1 S.2.1 dX12_readDigits_7 (lv_at hl 0 rfl) ?_
        refine lv_if_lt (tgt := 34) S.1 S.2.1 dX12_readDigits_9 (by decide) (fun _ => ?_) (fun c => absurd c (by decide))
        refine lv_iload_n S.1 S.2.1 dX12_readDigits_34 rfl (lv_at hl 1 rfl) ?_
        refine lv_if_ne (tgt := 42) S.1 S.2.1 dX12_readDigits_35 (by decide) (fun c_2 => ?_) (fun c_2 => ?_)
        · skip
          have c_2 : ¬ rs = 0 := fun z9 => c_2 ((nI_eq (a := rs) (b := 0) (by omega) (by omega)).mpr z9)
          refine lv_iconst (v := 0) S.1 S.2.1 dX12_readDigits_42 (by decide) ?_
          refine uret_z S hK Z hre hlk (by decide) dX12_readDigits_43 ?_
          rw [Nat.sub_zero] at hr
          exact ⟨Or.inr ⟨rfl, by omega⟩, h, rfl, fun i hi => hh i (Nat.zero_le _) hi⟩
        · skip
          have c_2 : rs = 0 := (nI_eq (a := rs) (b := 0) (by omega) (by omega)).mp c_2
          refine lv_iconst (v := 1) S.1 S.2.1 dX12_readDigits_38 (by decide) ?_
          refine lv_goto (tgt := 43) S.1 S.2.1 dX12_readDigits_39 (by decide) ?_
          refine uret_z S hK Z hre hlk (by decide) dX12_readDigits_43 ?_
          rw [Nat.sub_zero] at hr
          exact ⟨Or.inl ⟨rfl, by omega⟩, h, rfl, fun i hi => hh i (Nat.zero_le _) hi⟩
      · skip
        subst hq0
        subst hx
        refine lv_iload S.1 S.2.1 dX12_readDigits_7 (lv_at hl 0 rfl) ?_
        refine lv_if_lt (tgt := 34) S.1 S.2.1 dX12_readDigits_9 (by decide) (fun c_3 => ?_) (fun c_3 => ?_)
        · skip
          have c_3 : q1 < 0 := (nI_ltI (a := q1) (b := 0) (by omega) (by omega)).mp c_3
          omega
        · skip
          have c_3 : ¬ q1 < 0 := fun z9 => c_3 ((nI_ltI (a := q1) (b := 0) (by omega) (by omega)).mpr z9)
          refine lv_aload_n S.1 S.2.1 dX12_readDigits_12 rfl (lv_at hl 2 rfl) ?_
          refine ug_r S hK Z (j := 27) 88 (by decide) rfl rfl rfl (by decide) iX12_readDigits_X12 qX12_readDigits_58 dX12_readDigits_13 ?_
          refine lv_iload S.1 S.2.1 dX12_readDigits_16 (lv_at hl 0 rfl) ?_
          refine lv_iload_n S.1 S.2.1 dX12_readDigits_18 rfl (lv_at hl 1 rfl) ?_
          refine lv_bipush (v := 10) S.1 S.2.1 dX12_readDigits_19 (by decide) ?_
          refine lv_irem S.1 S.2.1 dX12_readDigits_21 (by decide) ?_
          refine utop (pk_rem (a := rs) (d := 10) (by omega) (by omega) (by omega)) ?_
          refine ua_ist S hK Z q1 (by decide) rfl rfl (by omega) dX12_readDigits_22 (fun H locs Z => ?_)
          have Z := uZ_eq (uAr_s M 88 h q1 (rs % 10)) Z
          refine lv_iload_n S.1 S.2.1 dX12_readDigits_23 rfl (lv_at hl 1 rfl) ?_
          refine lv_bipush (v := 10) S.1 S.2.1 dX12_readDigits_24 (by decide) ?_
          refine lv_idiv S.1 S.2.1 dX12_readDigits_26 (by decide) ?_
          refine utop (pk_div (a := rs) (d := 10) (by omega) (by omega) (by omega)) ?_
          refine lv_istore_n (lv' := [(3, .int (nI (rs / 10))), (4, .int (nI q1)), (0, .ref (G.2.2 71)), (1, .int (nI v)), (2, .int (nI d))]) S.1 S.2.1 dX12_readDigits_27 rfl hl (by decide) rfl (fun ls hl => ?_)
          refine lv_iinc (v := ((nI q1) + (-1))) (lv' := [(4, .int ((nI q1) + (-1))), (3, .int (nI (rs / 10))), (0, .ref (G.2.2 71)), (1, .int (nI v)), (2, .int (nI d))]) S.1 S.2.1 dX12_readDigits_28 hl (k := 1) rfl rfl (by decide) rfl (fun ls hl => ?_)
          refine lv_goto (tgt := 7) S.1 S.2.1 dX12_readDigits_31 (by decide) ?_
          exact ih7 q1 ((nI q1) + (-1)) (rs / 10) (fu h q1 (rs % 10)) (by omega) (by omega) (by exact u_down q1) (by rw [hr, dg_div, show d - (q1 + 1) + 1 = d - q1 from by omega]) (by
              intro i h1 h2
              by_cases z : i = q1
              · subst z
                rw [fu_eq, hr]
                unfold dg
                rw [show d - (i + 1) = d - 1 - i from by omega]
              · rw [fu_ne z]
                exact hh i (by omega) h2) _ _ _ Z (lv_sub hl [0, 1, 2, 3, 4] rfl)
  exact LP7 (d + 1) d (nI (d - 1)) v f (by omega) (by omega) (by exact Or.inr ⟨d - 1, by omega, rfl⟩) (by rw [Nat.sub_self, Nat.pow_zero, Nat.div_one]) (by intro i h1 h2; omega) _ _ _ Z (lv_sub hl [0, 1, 2, 3, 4] rfl)
set_option maxHeartbeats 4000000 in
set_option maxRecDepth 100000 in
theorem c_X12_isStopP (l : Launch) (G : uG) (v : Nat) (hv : v < 2147483648) (n t : Int32) (M : uM) : CTi l G yX12_isStop wsX12_isStop 1 25 [.ref (G.2.2 71), .int (nI v), .int n, .int t] M (fun r M2 => mSm M M2 ∧ ((r = 1 ∧ ∃ d dgs, n = nI d ∧ 1 ≤ d ∧ d ≤ 9 ∧ inr t 0 10 ∧ v / 10 ^ d = 0 ∧ M2 = uAr M 88 dgs ∧ ∀ i, i < d → dgs i = dg v d i) ∨ (r = 0 ∧ (¬ inr t 0 10 ∨ ¬ cOk (nI v) n)))) := by
  obtain ⟨f0, hf0⟩ := uAr_ex M 88
  refine ustart_i (cc := cX12_isStop) (maxL := 4) (ret := (some .boolean)) (own := RX12) rfl (by decide) rfl (Nat.le_of_ble_eq_true rfl) ?_
  intro xp xe xs xm xa xb xt xc xA ls S hK hA Z hre hlk hl
  have hl : lv_has ls 4 [(0, .ref (G.2.2 71)), (1, .int (nI v)), (2, .int n), (3, .int t)] := hl
  refine lv_iload_n S.1 S.2.1 dX12_isStop_0 rfl (lv_at hl 2 rfl) ?_
  refine lv_i2l (v := n.toInt64) S.1 S.2.1 dX12_isStop_1 rfl ?_
  refine lv_lconst (v := 1) S.1 S.2.1 dX12_isStop_2 (by decide) ?_
  refine lv_ldc2 (v := 9) S.1 S.2.1 S.2.2.2.1 (S.2.2.2.2 _ qX12_isStop_103) dX12_isStop_3 ?_
  refine uc_Si (As := [.long n.toInt64, .long 1, .long 9]) (rest := []) S hK hA Z (c_X12_in l G n 1 9 _ _ _ rfl (by decide) (by decide) M) (va_cwS 3 S.2.2.2.2 gX12_isStop_X12_in rfl rfl rfl (by decide +kernel) ⟨Nat.le_of_ble_eq_true rfl, Nat.le_of_ble_eq_true rfl⟩) rfl hl.1 rfl (Nat.le_of_ble_eq_true rfl) dX12_isStop_6 ⟨Nat.zero_le _, Nat.zero_le _⟩ (fun r_1 M_1 H locs hp Z => ?_)
  obtain ⟨⟨rfl, w_1⟩ | ⟨rfl, w_1⟩, hM_1⟩ := hp
  · skip
    rw [hM_1] at Z
    refine lv_if_eq (tgt := 41) S.1 S.2.1 dX12_isStop_9 (by decide) (fun c => absurd c (by decide)) (fun _ => ?_)
    obtain ⟨d, hd1, hd, rfl⟩ := u_in1 (n := 9) (show inr n 1 9 by assumption) (by decide)
    refine lv_iload_n S.1 S.2.1 dX12_isStop_12 rfl (lv_at hl 1 rfl) ?_
    refine lv_if_lt (tgt := 41) S.1 S.2.1 dX12_isStop_13 (by decide) (fun c_3 => ?_) (fun c_3 => ?_)
    · skip
      have c_3 : v < 0 := (nI_ltI (a := v) (b := 0) (by omega) (by omega)).mp c_3
      omega
    · skip
      have c_3 : ¬ v < 0 := fun z9 => c_3 ((nI_ltI (a := v) (b := 0) (by omega) (by omega)).mpr z9)
      refine lv_iload_n S.1 S.2.1 dX12_isStop_16 rfl (lv_at hl 3 rfl) ?_
      refine lv_i2l (v := t.toInt64) S.1 S.2.1 dX12_isStop_17 rfl ?_
      refine lv_lconst (v := 0) S.1 S.2.1 dX12_isStop_18 (by decide) ?_
      refine lv_ldc2 (v := 10) S.1 S.2.1 S.2.2.2.1 (S.2.2.2.2 _ qX12_isStop_272) dX12_isStop_19 ?_
      refine uc_Si (As := [.long t.toInt64, .long 0, .long 10]) (rest := []) S hK hA Z (c_X12_in l G t 0 10 _ _ _ rfl (by decide) (by decide) M) (va_cwS 3 S.2.2.2.2 gX12_isStop_X12_in rfl rfl rfl (by decide +kernel) ⟨Nat.le_of_ble_eq_true rfl, Nat.le_of_ble_eq_true rfl⟩) rfl hl.1 rfl (Nat.le_of_ble_eq_true rfl) dX12_isStop_22 ⟨Nat.zero_le _, Nat.zero_le _⟩ (fun r_4 M_4 H locs hp Z => ?_)
      obtain ⟨⟨rfl, w_4⟩ | ⟨rfl, w_4⟩, hM_4⟩ := hp
      · skip
        rw [hM_4] at Z
        refine lv_if_eq (tgt := 41) S.1 S.2.1 dX12_isStop_25 (by decide) (fun c => absurd c (by decide)) (fun _ => ?_)
        refine lv_aload_n S.1 S.2.1 dX12_isStop_28 rfl (lv_at hl 0 rfl) ?_
        refine lv_iload_n S.1 S.2.1 dX12_isStop_29 rfl (lv_at hl 1 rfl) ?_
        refine lv_iload_n S.1 S.2.1 dX12_isStop_30 rfl (lv_at hl 2 rfl) ?_
        refine uc_Vi (As := [.int (nI v), .int (nI d)]) (rest := []) S hK hA Z ((by have h9 := c_X12_readDigits l G v d hv hd1 hd M f0; rw [hf0] at h9; exact h9)) (cwV 2 S.2.2.2.2 gX12_isStop_X12_readDigits rfl rfl rfl (by decide +kernel) ⟨Nat.le_of_ble_eq_true rfl, Nat.le_of_ble_eq_true rfl⟩) (by decide) rfl rfl rfl hl.1 rfl (Nat.le_of_ble_eq_true rfl) dX12_isStop_31 ⟨Nat.zero_le _, Nat.zero_le _⟩ (fun r_6 M_6 H locs hp Z => ?_)
        obtain ⟨⟨rfl, hz⟩ | ⟨rfl, hz⟩, dgs, hM, hdg⟩ := hp
        · skip
          rw [hM] at Z
          refine lv_if_eq (tgt := 41) S.1 S.2.1 dX12_isStop_34 (by decide) (fun c => absurd c (by decide)) (fun _ => ?_)
          refine lv_iconst (v := 1) S.1 S.2.1 dX12_isStop_37 (by decide) ?_
          refine lv_goto (tgt := 42) S.1 S.2.1 dX12_isStop_38 (by decide) ?_
          refine uret_z S hK Z hre hlk (by decide) dX12_isStop_42 ?_
          exact ⟨mSm_r (mSm_rf _) (by decide), Or.inl ⟨rfl, d, dgs, rfl, hd1, hd, by assumption, hz, rfl, hdg⟩⟩
        · skip
          rw [hM] at Z
          refine lv_if_eq (tgt := 41) S.1 S.2.1 dX12_isStop_34 (by decide) (fun _ => ?_) (fun c => absurd c (by decide))
          refine lv_iconst (v := 0) S.1 S.2.1 dX12_isStop_41 (by decide) ?_
          refine uret_z S hK Z hre hlk (by decide) dX12_isStop_42 ?_
          refine ⟨mSm_r (mSm_rf _) (by decide), Or.inr ⟨rfl, Or.inr (fun ⟨v2, d2, q1, q2, q3, q4, q5, q6⟩ => ?_)⟩⟩
          have e1 := nI_inj hv q2 q1
          have e2 := nI_inj (by omega) (by omega) q3
          subst e1
          subst e2
          exact hz q6
      · skip
        rw [hM_4] at Z
        refine lv_if_eq (tgt := 41) S.1 S.2.1 dX12_isStop_25 (by decide) (fun _ => ?_) (fun c => absurd c (by decide))
        refine lv_iconst (v := 0) S.1 S.2.1 dX12_isStop_41 (by decide) ?_
        refine uret_z S hK Z hre hlk (by decide) dX12_isStop_42 ?_
        first
          | exact ⟨mSm_rf _, Or.inr ⟨rfl, Or.inl (by assumption)⟩⟩
          | (refine ⟨mSm_rf _, Or.inr ⟨rfl, Or.inr (fun ⟨v2, d2, q1, q2, q3, q4, q5, q6⟩ => ?_)⟩⟩
             subst q3
             exact absurd (u_inn' (c := d2) (lo := 1) (hi := 9) ⟨q4, q5⟩ (by decide)) (by assumption))
  · skip
    rw [hM_1] at Z
    refine lv_if_eq (tgt := 41) S.1 S.2.1 dX12_isStop_9 (by decide) (fun _ => ?_) (fun c => absurd c (by decide))
    refine lv_iconst (v := 0) S.1 S.2.1 dX12_isStop_41 (by decide) ?_
    refine uret_z S hK Z hre hlk (by decide) dX12_isStop_42 ?_
    first
      | exact ⟨mSm_rf _, Or.inr ⟨rfl, Or.inl (by assumption)⟩⟩
      | (refine ⟨mSm_rf _, Or.inr ⟨rfl, Or.inr (fun ⟨v2, d2, q1, q2, q3, q4, q5, q6⟩ => ?_)⟩⟩
         subst q3
         exact absurd (u_inn' (c := d2) (lo := 1) (hi := 9) ⟨q4, q5⟩ (by decide)) (by assumption))
set_option maxHeartbeats 4000000 in
set_option maxRecDepth 100000 in
theorem c_X12_isStopN (l : Launch) (G : uG) (x : Int32) (hx0 : x < 0) (n t : Int32) (M : uM) : CTi l G yX12_isStop wsX12_isStop 1 25 [.ref (G.2.2 71), .int x, .int n, .int t] M (fun r M2 => M2 = M ∧ r = 0) := by
  refine ustart_i (cc := cX12_isStop) (maxL := 4) (ret := (some .boolean)) (own := RX12) rfl (by decide) rfl (Nat.le_of_ble_eq_true rfl) ?_
  intro xp xe xs xm xa xb xt xc xA ls S hK hA Z hre hlk hl
  have hl : lv_has ls 4 [(0, .ref (G.2.2 71)), (1, .int x), (2, .int n), (3, .int t)] := hl
  refine lv_iload_n S.1 S.2.1 dX12_isStop_0 rfl (lv_at hl 2 rfl) ?_
  refine lv_i2l (v := n.toInt64) S.1 S.2.1 dX12_isStop_1 rfl ?_
  refine lv_lconst (v := 1) S.1 S.2.1 dX12_isStop_2 (by decide) ?_
  refine lv_ldc2 (v := 9) S.1 S.2.1 S.2.2.2.1 (S.2.2.2.2 _ qX12_isStop_103) dX12_isStop_3 ?_
  refine uc_Si (As := [.long n.toInt64, .long 1, .long 9]) (rest := []) S hK hA Z (c_X12_in l G n 1 9 _ _ _ rfl (by decide) (by decide) M) (va_cwS 3 S.2.2.2.2 gX12_isStop_X12_in rfl rfl rfl (by decide +kernel) ⟨Nat.le_of_ble_eq_true rfl, Nat.le_of_ble_eq_true rfl⟩) rfl hl.1 rfl (Nat.le_of_ble_eq_true rfl) dX12_isStop_6 ⟨Nat.zero_le _, Nat.zero_le _⟩ (fun r_1 M_1 H locs hp Z => ?_)
  obtain ⟨⟨rfl, w_1⟩ | ⟨rfl, w_1⟩, hM_1⟩ := hp
  · skip
    rw [hM_1] at Z
    refine lv_if_eq (tgt := 41) S.1 S.2.1 dX12_isStop_9 (by decide) (fun c => absurd c (by decide)) (fun _ => ?_)
    refine lv_iload_n S.1 S.2.1 dX12_isStop_12 rfl (lv_at hl 1 rfl) ?_
    refine lv_if_lt (tgt := 41) S.1 S.2.1 dX12_isStop_13 (by decide) (fun c_3 => ?_) (fun c_3 => ?_)
    · skip
      refine lv_iconst (v := 0) S.1 S.2.1 dX12_isStop_41 (by decide) ?_
      refine uret_z S hK Z hre hlk (by decide) dX12_isStop_42 ?_
      exact ⟨rfl, rfl⟩
    · skip
      exact absurd hx0 c_3
  · skip
    rw [hM_1] at Z
    refine lv_if_eq (tgt := 41) S.1 S.2.1 dX12_isStop_9 (by decide) (fun _ => ?_) (fun c => absurd c (by decide))
    refine lv_iconst (v := 0) S.1 S.2.1 dX12_isStop_41 (by decide) ?_
    refine uret_z S hK Z hre hlk (by decide) dX12_isStop_42 ?_
    exact ⟨rfl, rfl⟩
theorem c_X12_isStop (l : Launch) (G : uG) (x n t : Int32) (M : uM) : CTi l G yX12_isStop wsX12_isStop 1 25 [.ref (G.2.2 71), .int x, .int n, .int t] M (fun r M2 => mSm M M2 ∧ ((r = 1 ∧ ∃ v d dgs, x = nI v ∧ v < 2147483648 ∧ n = nI d ∧ 1 ≤ d ∧ d ≤ 9 ∧ inr t 0 10 ∧ v / 10 ^ d = 0 ∧ M2 = uAr M 88 dgs ∧ ∀ i, i < d → dgs i = dg v d i) ∨ (r = 0 ∧ (¬ inr t 0 10 ∨ ¬ cOk x n)))) := by
  by_cases h : x < 0
  · refine CTi_mono (c_X12_isStopN l G x h n t M) (fun r M2 hp => ?_)
    obtain ⟨rfl, rfl⟩ := hp
    exact ⟨mSm_rf _, Or.inr ⟨rfl, Or.inr (cOk_neg h)⟩⟩
  · obtain ⟨v, hv, rfl⟩ := nI_of h
    refine CTi_mono (c_X12_isStopP l G v hv n t M) (fun r M2 hp => ?_)
    obtain ⟨h1, ⟨h2, d, dgs, h3⟩ | h2⟩ := hp
    · exact ⟨h1, Or.inl ⟨h2, v, d, dgs, rfl, hv, h3⟩⟩
    · exact ⟨h1, Or.inr h2⟩
set_option maxHeartbeats 4000000 in
set_option maxRecDepth 100000 in
theorem c_X12_power (l : Launch) (G : uG) (b e : Nat) (hb : b ≤ 10) (he : e ≤ 12) (M : uM) : CTl l G yX12_power wsX12_power 0 0 [.long (lN b), .int (nI e)] M (fun r M2 => r = lN (b ^ e) ∧ M2 = M) := by
  refine ustart_l (cc := cX12_power) (maxL := 6) (ret := (some .long)) (own := RX12) rfl (by decide) rfl (Nat.le_of_ble_eq_true rfl) ?_
  intro xp xe xs xm xa xb xt xc xA ls S hK hA Z hre hlk hl
  have hl : lv_has ls 6 [(0, .long (lN b)), (2, .int (nI e))] := hl
  refine lv_lconst (v := 1) S.1 S.2.1 dX12_power_0 (by decide) ?_
  refine lv_lstore_n (lv' := [(3, .long 1), (0, .long (lN b)), (2, .int (nI e))]) S.1 S.2.1 dX12_power_1 rfl hl (by decide) rfl (fun ls hl => ?_)
  refine lv_iconst (v := 0) S.1 S.2.1 dX12_power_2 (by decide) ?_
  refine lv_istore (lv' := [(5, .int 0), (3, .long 1), (0, .long (lN b)), (2, .int (nI e))]) S.1 S.2.1 dX12_power_3 hl (by decide) rfl (fun ls hl => ?_)
  have LP5 : ∀ (fU : Nat) (x : Nat) (i : Nat), (e < i + fU) → (i ≤ e) → (x = b ^ i) → ∀ (H : Heap) (locs : List Loc) (ls : Array Slot), uZ G xA M xs.heap H locs → lv_has ls 6 [(5, .int (nI i)), (3, .long (lN x)), (0, .long (lN b)), (2, .int (nI e))] → W xp l xe (uRm 0 0) xs xm xa xb xt xc H locs 0 0 (MQ xb (va_Ql (fun r M2 => r = lN (b ^ e) ∧ M2 = M) (fun M' t => uB G M' t) xA) xa xs 0 0 xA) (F0 xm 5 ls []) := by
    intro fU
    induction fU with
    | zero =>
      intro x i hfl i1 i2 H locs ls Z hl
      exfalso
      omega
    | succ fU ih5 =>
      intro x i hfl i1 i2 H locs ls Z hl
      refine lv_iload S.1 S.2.1 dX12_power_5 (lv_at hl 0 rfl) ?_
      refine lv_iload_n S.1 S.2.1 dX12_power_7 rfl (lv_at hl 3 rfl) ?_
      refine lv_icmp_ge (tgt := 21) S.1 S.2.1 dX12_power_8 (by decide) (fun c_1 => ?_) (fun c_1 => ?_)
      · skip
        have c_1 : e ≤ i := (nI_leI (a := e) (b := i) (by omega) (by omega)).mp c_1
        refine lv_lload_n S.1 S.2.1 dX12_power_21 rfl (lv_at hl 1 rfl) ?_
        refine uret_l S hK Z hre hlk dX12_power_22 ?_
        rw [i2, show i = e from by omega]
        exact ⟨rfl, rfl⟩
      · skip
        have c_1 : ¬ e ≤ i := fun z9 => c_1 ((nI_leI (a := e) (b := i) (by omega) (by omega)).mpr z9)
        refine lv_lload_n S.1 S.2.1 dX12_power_11 rfl (lv_at hl 1 rfl) ?_
        refine lv_lload_n S.1 S.2.1 dX12_power_12 rfl (lv_at hl 2 rfl) ?_
        refine lv_lmul S.1 S.2.1 dX12_power_13 ?_
        refine utopl (lN_mul x b) ?_
        refine lv_lstore_n (lv' := [(3, .long (lN (x * b))), (5, .int (nI i)), (0, .long (lN b)), (2, .int (nI e))]) S.1 S.2.1 dX12_power_14 rfl hl (by decide) rfl (fun ls hl => ?_)
        refine lv_iinc (v := (nI (i + 1))) (lv' := [(5, .int (nI (i + 1))), (3, .long (lN (x * b))), (0, .long (lN b)), (2, .int (nI e))]) S.1 S.2.1 dX12_power_15 hl (k := 1) rfl (u_inc1 i) (by decide) rfl (fun ls hl => ?_)
        refine lv_goto (tgt := 5) S.1 S.2.1 dX12_power_18 (by decide) ?_
        exact ih5 (x * b) (i + 1) (by omega) (by omega) (by rw [Nat.pow_succ, i2]) _ _ _ Z (lv_sub hl [0, 1, 2, 3] rfl)
  exact LP5 (e + 1) 1 0 (by omega) (by omega) (by rfl) _ _ _ Z (lv_sub hl [0, 1, 2, 3] rfl)
set_option maxHeartbeats 4000000 in
set_option maxRecDepth 100000 in
theorem c_X12_meanOf (l : Launch) (G : uG) (i d t : Nat) (hi : i < d) (hd : d ≤ 9) (ht : t ≤ 10) (M : uM) (f : Nat → Nat) (hf : ∀ i, M.1 88 i = nI (f i)) (hf9 : ∀ i, i < d → f i ≤ 9) : CTl l G yX12_meanOf wsX12_meanOf 1 25 [.ref (G.2.2 71), .int (nI i), .int (nI d), .int (nI t)] M (fun r M2 => r = lN (mnS f d t i) ∧ M2 = M) := by
  have h9 := hf9 i hi
  refine ustart_l (cc := cX12_meanOf) (maxL := 4) (ret := (some .long)) (own := RX12) rfl (by decide) rfl (Nat.le_of_ble_eq_true rfl) ?_
  intro xp xe xs xm xa xb xt xc xA ls S hK hA Z hre hlk hl
  have hl : lv_has ls 4 [(0, .ref (G.2.2 71)), (1, .int (nI i)), (2, .int (nI d)), (3, .int (nI t))] := hl
  refine lv_aload_n S.1 S.2.1 dX12_meanOf_0 rfl (lv_at hl 0 rfl) ?_
  refine ug_r S hK Z (j := 27) 88 (by decide) rfl rfl rfl (by decide) iX12_meanOf_X12 qX12_meanOf_58 dX12_meanOf_1 ?_
  refine lv_iload_n S.1 S.2.1 dX12_meanOf_4 rfl (lv_at hl 1 rfl) ?_
  refine ua_ild S hK Z i (by decide) rfl rfl (by omega) dX12_meanOf_5 ?_
  refine utop (y := (nI (f i))) (hf i) ?_
  refine lv_i2l (v := (lN (f i))) S.1 S.2.1 dX12_meanOf_6 (nI_l (by omega)) ?_
  refine lv_ldc2 (v := 10) S.1 S.2.1 S.2.2.2.1 (S.2.2.2.2 _ qX12_meanOf_272) dX12_meanOf_7 ?_
  refine lv_iload_n S.1 S.2.1 dX12_meanOf_10 rfl (lv_at hl 3 rfl) ?_
  refine lv_i2l (v := (lN t)) S.1 S.2.1 dX12_meanOf_11 (nI_l (by omega)) ?_
  refine lv_lsub S.1 S.2.1 dX12_meanOf_12 ?_
  refine utopl (lN_sub (a := 10) (b := t) (by omega)) ?_
  refine lv_iload_n S.1 S.2.1 dX12_meanOf_13 rfl (lv_at hl 1 rfl) ?_
  refine ud_Sl (As := [.long (lN (10 - t)), .int (nI i)]) (rest := [.long (lN (f i))]) S hK hA Z (c_X12_power l G (10 - t) i (by omega) (by omega) M) (va_cwS 2 S.2.2.2.2 gX12_meanOf_X12_power rfl rfl rfl (by decide +kernel) ⟨Nat.le_of_ble_eq_true rfl, Nat.le_of_ble_eq_true rfl⟩) rfl hl.1 rfl (Nat.le_of_ble_eq_true rfl) dX12_meanOf_14 ⟨Nat.zero_le _, Nat.zero_le _⟩ (fun H locs Z => ?_)
  refine lv_lmul S.1 S.2.1 dX12_meanOf_17 ?_
  refine utopl (lN_mul (f i) ((10 - t) ^ i)) ?_
  refine lv_ldc2 (v := 10) S.1 S.2.1 S.2.2.2.1 (S.2.2.2.2 _ qX12_meanOf_272) dX12_meanOf_18 ?_
  refine lv_iload_n S.1 S.2.1 dX12_meanOf_21 rfl (lv_at hl 2 rfl) ?_
  refine lv_iload_n S.1 S.2.1 dX12_meanOf_22 rfl (lv_at hl 1 rfl) ?_
  refine lv_isub S.1 S.2.1 dX12_meanOf_23 ?_
  refine utop (pk_sub (a := d) (b := i) (by omega)) ?_
  refine ud_Sl (As := [.long 10, .int (nI (d - i))]) (rest := [.long (lN ((f i) * ((10 - t) ^ i)))]) S hK hA Z (c_X12_power l G 10 (d - i) (by omega) (by omega) M) (va_cwS 2 S.2.2.2.2 gX12_meanOf_X12_power rfl rfl rfl (by decide +kernel) ⟨Nat.le_of_ble_eq_true rfl, Nat.le_of_ble_eq_true rfl⟩) rfl hl.1 rfl (Nat.le_of_ble_eq_true rfl) dX12_meanOf_24 ⟨Nat.zero_le _, Nat.zero_le _⟩ (fun H locs Z => ?_)
  refine lv_lmul S.1 S.2.1 dX12_meanOf_27 ?_
  refine utopl (lN_mul ((f i) * ((10 - t) ^ i)) (10 ^ (d - i))) ?_
  refine uret_l S hK Z hre hlk dX12_meanOf_28 ?_
  exact ⟨rfl, rfl⟩
set_option maxHeartbeats 4000000 in
set_option maxRecDepth 100000 in
theorem c_X12_bestOf (l : Launch) (G : uG) (d t : Nat) (hd1 : 1 ≤ d) (hd : d ≤ 9) (ht : t ≤ 10) (M : uM) (f : Nat → Nat) (hf : ∀ i, M.1 88 i = nI (f i)) (hf9 : ∀ i, i < d → f i ≤ 9) : CTi l G yX12_bestOf wsX12_bestOf 2 48 [.ref (G.2.2 71), .int (nI d), .int (nI t)] M (fun r M2 => r = nI (bsS f d t d) ∧ M2 = M) := by
  refine ustart_i (cc := cX12_bestOf) (maxL := 5) (ret := (some .int)) (own := RX12) rfl (by decide) rfl (Nat.le_of_ble_eq_true rfl) ?_
  intro xp xe xs xm xa xb xt xc xA ls S hK hA Z hre hlk hl
  have hl : lv_has ls 5 [(0, .ref (G.2.2 71)), (1, .int (nI d)), (2, .int (nI t))] := hl
  refine lv_iconst (v := 0) S.1 S.2.1 dX12_bestOf_0 (by decide) ?_
  refine lv_istore_n (lv' := [(3, .int 0), (0, .ref (G.2.2 71)), (1, .int (nI d)), (2, .int (nI t))]) S.1 S.2.1 dX12_bestOf_1 rfl hl (by decide) rfl (fun ls hl => ?_)
  refine lv_iconst (v := 1) S.1 S.2.1 dX12_bestOf_2 (by decide) ?_
  refine lv_istore (lv' := [(4, .int 1), (3, .int 0), (0, .ref (G.2.2 71)), (1, .int (nI d)), (2, .int (nI t))]) S.1 S.2.1 dX12_bestOf_3 hl (by decide) rfl (fun ls hl => ?_)
  have LP5 : ∀ (fU : Nat) (b : Nat) (i : Nat), (d < i + fU) → (1 ≤ i ∧ i ≤ d) → (b < i) → (b = bsS f d t i) → ∀ (H : Heap) (locs : List Loc) (ls : Array Slot), uZ G xA M xs.heap H locs → lv_has ls 5 [(4, .int (nI i)), (3, .int (nI b)), (0, .ref (G.2.2 71)), (1, .int (nI d)), (2, .int (nI t))] → W xp l xe (uRm 2 48) xs xm xa xb xt xc H locs 0 0 (MQ xb (va_Qi (fun r M2 => r = nI (bsS f d t d) ∧ M2 = M) (fun M' t => uB G M' t) xA) xa xs 0 0 xA) (F0 xm 5 ls []) := by
    intro fU
    induction fU with
    | zero =>
      intro b i hfl i1 i3 i2 H locs ls Z hl
      exfalso
      omega
    | succ fU ih5 =>
      intro b i hfl i1 i3 i2 H locs ls Z hl
      refine lv_iload S.1 S.2.1 dX12_bestOf_5 (lv_at hl 0 rfl) ?_
      refine lv_iload_n S.1 S.2.1 dX12_bestOf_7 rfl (lv_at hl 3 rfl) ?_
      refine lv_icmp_ge (tgt := 43) S.1 S.2.1 dX12_bestOf_8 (by decide) (fun c_1 => ?_) (fun c_1 => ?_)
      · skip
        have c_1 : d ≤ i := (nI_leI (a := d) (b := i) (by omega) (by omega)).mp c_1
        refine lv_iload_n S.1 S.2.1 dX12_bestOf_43 rfl (lv_at hl 1 rfl) ?_
        refine uret_i S hK Z hre hlk dX12_bestOf_44 ?_
        rw [i2, show i = d from by omega]
        exact ⟨rfl, rfl⟩
      · skip
        have c_1 : ¬ d ≤ i := fun z9 => c_1 ((nI_leI (a := d) (b := i) (by omega) (by omega)).mpr z9)
        refine lv_aload_n S.1 S.2.1 dX12_bestOf_11 rfl (lv_at hl 2 rfl) ?_
        refine lv_iload S.1 S.2.1 dX12_bestOf_12 (lv_at hl 0 rfl) ?_
        refine lv_iload_n S.1 S.2.1 dX12_bestOf_14 rfl (lv_at hl 3 rfl) ?_
        refine lv_iload_n S.1 S.2.1 dX12_bestOf_15 rfl (lv_at hl 4 rfl) ?_
        refine ud_Vl (As := [.int (nI i), .int (nI d), .int (nI t)]) (rest := []) S hK hA Z (c_X12_meanOf l G i d t (by omega) (by omega) (by omega) M f hf hf9) (cwV 3 S.2.2.2.2 gX12_bestOf_X12_meanOf rfl rfl rfl (by decide +kernel) ⟨Nat.le_of_ble_eq_true rfl, Nat.le_of_ble_eq_true rfl⟩) (by decide) rfl rfl rfl hl.1 rfl (Nat.le_of_ble_eq_true rfl) dX12_bestOf_16 ⟨Nat.zero_le _, Nat.zero_le _⟩ (fun H locs Z => ?_)
        have hm_2 := mn_bd (t := t) hd (show i < d by omega) (hf9 _ (by omega))
        refine lv_aload_n S.1 S.2.1 dX12_bestOf_19 rfl (lv_at hl 2 rfl) ?_
        refine lv_iload_n S.1 S.2.1 dX12_bestOf_20 rfl (lv_at hl 1 rfl) ?_
        refine lv_iload_n S.1 S.2.1 dX12_bestOf_21 rfl (lv_at hl 3 rfl) ?_
        refine lv_iload_n S.1 S.2.1 dX12_bestOf_22 rfl (lv_at hl 4 rfl) ?_
        refine ud_Vl (As := [.int (nI b), .int (nI d), .int (nI t)]) (rest := [.long (lN (mnS f d t i))]) S hK hA Z (c_X12_meanOf l G b d t (by omega) (by omega) (by omega) M f hf hf9) (cwV 3 S.2.2.2.2 gX12_bestOf_X12_meanOf rfl rfl rfl (by decide +kernel) ⟨Nat.le_of_ble_eq_true rfl, Nat.le_of_ble_eq_true rfl⟩) (by decide) rfl rfl rfl hl.1 rfl (Nat.le_of_ble_eq_true rfl) dX12_bestOf_23 ⟨Nat.zero_le _, Nat.zero_le _⟩ (fun H locs Z => ?_)
        have hm_3 := mn_bd (t := t) hd (show b < d by omega) (hf9 _ (by omega))
        refine W.lcmp S.1 S.2.1 dX12_bestOf_26 ?_
        refine lv_if_le (tgt := 35) S.1 S.2.1 dX12_bestOf_27 (by decide) (fun c_4 => ?_) (fun c_4 => ?_)
        · skip
          have c_4 : (lN (mnS f d t i)) ≤ (lN (mnS f d t b)) := (lg_cmp_le (lN (mnS f d t i)) (lN (mnS f d t b))).mp c_4
          have c_4 : (mnS f d t i) ≤ (mnS f d t b) := (pk_lLE (a := (mnS f d t i)) (b := (mnS f d t b)) (by omega) (by omega)).mp c_4
          refine lv_iload_n S.1 S.2.1 dX12_bestOf_35 rfl (lv_at hl 1 rfl) ?_
          refine lv_istore_n (lv' := [(3, .int (nI b)), (4, .int (nI i)), (0, .ref (G.2.2 71)), (1, .int (nI d)), (2, .int (nI t))]) S.1 S.2.1 dX12_bestOf_36 rfl hl (by decide) rfl (fun ls hl => ?_)
          refine lv_iinc (v := (nI (i + 1))) (lv' := [(4, .int (nI (i + 1))), (3, .int (nI b)), (0, .ref (G.2.2 71)), (1, .int (nI d)), (2, .int (nI t))]) S.1 S.2.1 dX12_bestOf_37 hl (k := 1) rfl (u_inc1 i) (by decide) rfl (fun ls hl => ?_)
          refine lv_goto (tgt := 5) S.1 S.2.1 dX12_bestOf_40 (by decide) ?_
          exact ih5 b (i + 1) (by omega) (by omega) (by omega) (by
              rw [bsS, if_neg (by omega), ← i2]
              first | rw [if_pos (by assumption)] | rw [if_neg (by omega)]) _ _ _ Z (lv_sub hl [0, 1, 2, 3, 4] rfl)
        · skip
          have c_4 : ¬ (lN (mnS f d t i)) ≤ (lN (mnS f d t b)) := fun z9 => c_4 ((lg_cmp_le (lN (mnS f d t i)) (lN (mnS f d t b))).mpr z9)
          have c_4 : ¬ (mnS f d t i) ≤ (mnS f d t b) := fun z9 => c_4 ((pk_lLE (a := (mnS f d t i)) (b := (mnS f d t b)) (by omega) (by omega)).mpr z9)
          refine lv_iload S.1 S.2.1 dX12_bestOf_30 (lv_at hl 0 rfl) ?_
          refine lv_goto (tgt := 36) S.1 S.2.1 dX12_bestOf_32 (by decide) ?_
          refine lv_istore_n (lv' := [(3, .int (nI i)), (4, .int (nI i)), (0, .ref (G.2.2 71)), (1, .int (nI d)), (2, .int (nI t))]) S.1 S.2.1 dX12_bestOf_36 rfl hl (by decide) rfl (fun ls hl => ?_)
          refine lv_iinc (v := (nI (i + 1))) (lv' := [(4, .int (nI (i + 1))), (3, .int (nI i)), (0, .ref (G.2.2 71)), (1, .int (nI d)), (2, .int (nI t))]) S.1 S.2.1 dX12_bestOf_37 hl (k := 1) rfl (u_inc1 i) (by decide) rfl (fun ls hl => ?_)
          refine lv_goto (tgt := 5) S.1 S.2.1 dX12_bestOf_40 (by decide) ?_
          exact ih5 i (i + 1) (by omega) (by omega) (by omega) (by
              rw [bsS, if_neg (by omega), ← i2]
              first | rw [if_pos (by assumption)] | rw [if_neg (by omega)]) _ _ _ Z (lv_sub hl [0, 1, 2, 3, 4] rfl)
  exact LP5 (d + 1) 0 1 (by omega) (by omega) (by omega) (by rfl) _ _ _ Z (lv_sub hl [0, 1, 2, 3, 4] rfl)
set_option maxHeartbeats 4000000 in
set_option maxRecDepth 100000 in
theorem c_X12_lowest (l : Launch) (G : uG) (u v pt : Nat) (hu : u < 17592186044416) (hv : v < 17592186044416) (hv0 : 0 < v) (hp : pt ≤ 1) (M : uM) : CTl l G yX12_lowest wsX12_lowest 0 0 [.long (lN u), .long (lN v), .int (nI pt)] M (fun r M2 => r = lN ((if pt = 0 then u else v) / Nat.gcd u v) ∧ M2 = M) := by
  have hg0 : 0 < Nat.gcd u v := Nat.gcd_pos_of_pos_right u hv0
  have hg1 : Nat.gcd u v ≤ v := Nat.le_of_dvd hv0 (Nat.gcd_dvd_right u v)
  refine ustart_l (cc := cX12_lowest) (maxL := 11) (ret := (some .long)) (own := RX12) rfl (by decide) rfl (Nat.le_of_ble_eq_true rfl) ?_
  intro xp xe xs xm xa xb xt xc xA ls S hK hA Z hre hlk hl
  have hl : lv_has ls 11 [(0, .long (lN u)), (2, .long (lN v)), (4, .int (nI pt))] := hl
  refine lv_lload_n S.1 S.2.1 dX12_lowest_0 rfl (lv_at hl 1 rfl) ?_
  refine lv_lstore (lv' := [(5, .long (lN v)), (0, .long (lN u)), (2, .long (lN v)), (4, .int (nI pt))]) S.1 S.2.1 dX12_lowest_1 hl (by decide) rfl (fun ls hl => ?_)
  refine lv_lload_n S.1 S.2.1 dX12_lowest_3 rfl (lv_at hl 1 rfl) ?_
  refine lv_lstore (lv' := [(7, .long (lN u)), (5, .long (lN v)), (0, .long (lN u)), (2, .long (lN v)), (4, .int (nI pt))]) S.1 S.2.1 dX12_lowest_4 hl (by decide) rfl (fun ls hl => ?_)
  have LP6 : ∀ (fU : Nat) (a : Nat) (b : Nat), (b < fU) → (a < 17592186044416 ∧ b < 17592186044416) → (Nat.gcd a b = Nat.gcd u v) → ∀ (H : Heap) (locs : List Loc) (ls : Array Slot), uZ G xA M xs.heap H locs → lv_has ls 11 [(7, .long (lN b)), (5, .long (lN a)), (0, .long (lN u)), (2, .long (lN v)), (4, .int (nI pt))] → W xp l xe (uRm 0 0) xs xm xa xb xt xc H locs 0 0 (MQ xb (va_Ql (fun r M2 => r = lN ((if pt = 0 then u else v) / Nat.gcd u v) ∧ M2 = M) (fun M' t => uB G M' t) xA) xa xs 0 0 xA) (F0 xm 6 ls []) := by
    intro fU
    induction fU with
    | zero =>
      intro a b hfl i1 i2 H locs ls Z hl
      exfalso
      omega
    | succ fU ih6 =>
      intro a b hfl i1 i2 H locs ls Z hl
      refine lv_lload S.1 S.2.1 dX12_lowest_6 (lv_at hl 0 rfl) ?_
      refine lv_lconst (v := 0) S.1 S.2.1 dX12_lowest_8 (by decide) ?_
      refine W.lcmp S.1 S.2.1 dX12_lowest_9 ?_
      refine lv_if_eq (tgt := 31) S.1 S.2.1 dX12_lowest_10 (by decide) (fun c_1 => ?_) (fun c_1 => ?_)
      · skip
        have c_1 : (lN b) = 0 := (lg_cmp_eq (lN b) 0).mp c_1
        have c_1 : b = 0 := (pk_lEQ (a := b) (b := 0) (by omega) (by omega)).mp c_1
        obtain rfl : b = 0 := by omega
        rw [Nat.gcd_zero_right] at i2
        refine lv_iload S.1 S.2.1 dX12_lowest_31 (lv_at hl 4 rfl) ?_
        refine lv_if_ne (tgt := 43) S.1 S.2.1 dX12_lowest_33 (by decide) (fun c_2 => ?_) (fun c_2 => ?_)
        · skip
          have c_2 : ¬ pt = 0 := fun z9 => c_2 ((nI_eq (a := pt) (b := 0) (by omega) (by omega)).mpr z9)
          refine lv_lload_n S.1 S.2.1 dX12_lowest_43 rfl (lv_at hl 3 rfl) ?_
          refine lv_lload S.1 S.2.1 dX12_lowest_44 (lv_at hl 1 rfl) ?_
          refine lv_ldiv S.1 S.2.1 dX12_lowest_46 (u_lne (by omega) (by omega)) ?_
          refine utopl (pk_lDiv (a := v) (b := a) (by omega) (by omega) (by omega)) ?_
          refine uret_l S hK Z hre hlk dX12_lowest_47 ?_
          rw [i2, if_neg (by omega)]
          exact ⟨rfl, rfl⟩
        · skip
          have c_2 : pt = 0 := (nI_eq (a := pt) (b := 0) (by omega) (by omega)).mp c_2
          refine lv_lload_n S.1 S.2.1 dX12_lowest_36 rfl (lv_at hl 2 rfl) ?_
          refine lv_lload S.1 S.2.1 dX12_lowest_37 (lv_at hl 1 rfl) ?_
          refine lv_ldiv S.1 S.2.1 dX12_lowest_39 (u_lne (by omega) (by omega)) ?_
          refine utopl (pk_lDiv (a := u) (b := a) (by omega) (by omega) (by omega)) ?_
          refine lv_goto (tgt := 47) S.1 S.2.1 dX12_lowest_40 (by decide) ?_
          refine uret_l S hK Z hre hlk dX12_lowest_47 ?_
          rw [i2, if_pos (by omega)]
          exact ⟨rfl, rfl⟩
      · skip
        have c_1 : ¬ (lN b) = 0 := fun z9 => c_1 ((lg_cmp_eq (lN b) 0).mpr z9)
        have c_1 : ¬ b = 0 := fun z9 => c_1 ((pk_lEQ (a := b) (b := 0) (by omega) (by omega)).mpr z9)
        refine lv_lload S.1 S.2.1 dX12_lowest_13 (lv_at hl 1 rfl) ?_
        refine lv_lload S.1 S.2.1 dX12_lowest_15 (lv_at hl 0 rfl) ?_
        refine lv_lrem S.1 S.2.1 dX12_lowest_17 (u_lne (by omega) (by omega)) ?_
        refine utopl (pk_lRem (a := a) (b := b) (by omega) (by omega) (by omega)) ?_
        refine lv_lstore (lv' := [(9, .long (lN (a % b))), (7, .long (lN b)), (5, .long (lN a)), (0, .long (lN u)), (2, .long (lN v)), (4, .int (nI pt))]) S.1 S.2.1 dX12_lowest_18 hl (by decide) rfl (fun ls hl => ?_)
        refine lv_lload S.1 S.2.1 dX12_lowest_20 (lv_at hl 1 rfl) ?_
        refine lv_lstore (lv' := [(5, .long (lN b)), (9, .long (lN (a % b))), (7, .long (lN b)), (0, .long (lN u)), (2, .long (lN v)), (4, .int (nI pt))]) S.1 S.2.1 dX12_lowest_22 hl (by decide) rfl (fun ls hl => ?_)
        refine lv_lload S.1 S.2.1 dX12_lowest_24 (lv_at hl 1 rfl) ?_
        refine lv_lstore (lv' := [(7, .long (lN (a % b))), (5, .long (lN b)), (9, .long (lN (a % b))), (0, .long (lN u)), (2, .long (lN v)), (4, .int (nI pt))]) S.1 S.2.1 dX12_lowest_26 hl (by decide) rfl (fun ls hl => ?_)
        refine lv_goto (tgt := 6) S.1 S.2.1 dX12_lowest_28 (by decide) ?_
        have hml := Nat.mod_lt a (show 0 < b by omega)
        exact ih6 b (a % b) (by omega) (by
            have := Nat.mod_lt a (show 0 < b by omega)
            omega) (by rw [gcd_step]; exact i2) _ _ _ Z (lv_sub hl [0, 1, 3, 4, 5] rfl)
  exact LP6 (u + 1) v u (by omega) (by
      have := Nat.mod_lt a (show 0 < b by omega)
      omega) (by exact Nat.gcd_comm _ _) _ _ _ Z (lv_sub hl [0, 1, 2, 3, 4] rfl)
set_option maxHeartbeats 4000000 in
set_option maxRecDepth 100000 in
theorem c_X12_stop (l : Launch) (G : uG) (x n t p : Int32) (M : uM) : CTl l G yX12_stop wsX12_stop 3 72 [.ref (G.2.2 71), .int x, .int n, .int t, .int p] M (fun r M2 => SpStop x n t p r ∧ mSm M M2) := by
  refine ustart_l (cc := cX12_stop) (maxL := 5) (ret := (some .long)) (own := RX12) rfl (by decide) rfl (Nat.le_of_ble_eq_true rfl) ?_
  intro xp xe xs xm xa xb xt xc xA ls S hK hA Z hre hlk hl
  have hl : lv_has ls 5 [(0, .ref (G.2.2 71)), (1, .int x), (2, .int n), (3, .int t), (4, .int p)] := hl
  refine lv_aload_n S.1 S.2.1 dX12_stop_0 rfl (lv_at hl 0 rfl) ?_
  refine lv_iload_n S.1 S.2.1 dX12_stop_1 rfl (lv_at hl 1 rfl) ?_
  refine lv_iload_n S.1 S.2.1 dX12_stop_2 rfl (lv_at hl 2 rfl) ?_
  refine lv_iload_n S.1 S.2.1 dX12_stop_3 rfl (lv_at hl 3 rfl) ?_
  refine uc_Vi (As := [.int x, .int n, .int t]) (rest := []) S hK hA Z (c_X12_isStop l G x n t M) (cwV 3 S.2.2.2.2 gX12_stop_X12_isStop rfl rfl rfl (by decide +kernel) ⟨Nat.le_of_ble_eq_true rfl, Nat.le_of_ble_eq_true rfl⟩) (by decide) rfl rfl rfl hl.1 rfl (Nat.le_of_ble_eq_true rfl) dX12_stop_4 ⟨Nat.zero_le _, Nat.zero_le _⟩ (fun r_1 M_1 H locs hp Z => ?_)
  obtain ⟨hsm, ⟨rfl, v, d, dgs, hrow, hv, rfl, hd1, hd, hti, hz, hM, hdg⟩ | ⟨rfl, hno⟩⟩ := hp
  · skip
    subst hM
    obtain ⟨t1, ht1, rfl⟩ := u_in0 (n := 10) hti (by decide)
    have hf : ∀ i, (uAr M 88 dgs).1 88 i = nI (dgs i) := fun i => uAr_g _ _ _ _
    have hf9 : ∀ i, i < d → dgs i ≤ 9 := fun i hi => by rw [hdg i hi]; have := dg_lt v d i; omega
    have hbs := bsS_le dgs d t1 d
    have hbc := bsS_congr (t := t1) hdg d (Nat.le_refl _)
    have hmn := mn_bd (wd := dgs) (t := t1) hd (show bsS dgs d t1 d < d by omega) (hf9 _ (by omega))
    have hpw := pow_lt63 (b := 10) (e := d) (by decide) (by omega)
    have hpp : 0 < 10 ^ d := Nat.pow_pos (by decide)
    refine lv_if_eq (tgt := 21) S.1 S.2.1 dX12_stop_7 (by decide) (fun c => absurd c (by decide)) (fun _ => ?_)
    refine lv_iload S.1 S.2.1 dX12_stop_10 (lv_at hl 4 rfl) ?_
    refine lv_i2l (v := p.toInt64) S.1 S.2.1 dX12_stop_12 rfl ?_
    refine lv_lconst (v := 0) S.1 S.2.1 dX12_stop_13 (by decide) ?_
    refine lv_lconst (v := 1) S.1 S.2.1 dX12_stop_14 (by decide) ?_
    refine uc_Si (As := [.long p.toInt64, .long 0, .long 1]) (rest := []) S hK hA Z (c_X12_in l G p 0 1 _ _ _ rfl (by decide) (by decide) (uAr M 88 dgs)) (va_cwS 3 S.2.2.2.2 gX12_stop_X12_in rfl rfl rfl (by decide +kernel) ⟨Nat.le_of_ble_eq_true rfl, Nat.le_of_ble_eq_true rfl⟩) rfl hl.1 rfl (Nat.le_of_ble_eq_true rfl) dX12_stop_15 ⟨Nat.zero_le _, Nat.zero_le _⟩ (fun r_3 M_3 H locs hp Z => ?_)
    obtain ⟨⟨rfl, w_3⟩ | ⟨rfl, w_3⟩, hM_3⟩ := hp
    · skip
      rw [hM_3] at Z
      refine lv_if_ne (tgt := 25) S.1 S.2.1 dX12_stop_18 (by decide) (fun _ => ?_) (fun c => absurd c (by decide))
      obtain ⟨p1, hp1, rfl⟩ := u_in0 (n := 1) (show inr p 0 1 by assumption) (by decide)
      refine lv_aload_n S.1 S.2.1 dX12_stop_25 rfl (lv_at hl 0 rfl) ?_
      refine lv_aload_n S.1 S.2.1 dX12_stop_26 rfl (lv_at hl 0 rfl) ?_
      refine lv_iload_n S.1 S.2.1 dX12_stop_27 rfl (lv_at hl 2 rfl) ?_
      refine lv_iload_n S.1 S.2.1 dX12_stop_28 rfl (lv_at hl 3 rfl) ?_
      refine ud_Vi (As := [.int (nI d), .int (nI t1)]) (rest := [.ref (G.2.2 71)]) S hK hA Z (c_X12_bestOf l G d t1 hd1 hd ht1 (uAr M 88 dgs) dgs hf hf9) (cwV 2 S.2.2.2.2 gX12_stop_X12_bestOf rfl rfl rfl (by decide +kernel) ⟨Nat.le_of_ble_eq_true rfl, Nat.le_of_ble_eq_true rfl⟩) (by decide) rfl rfl rfl hl.1 rfl (Nat.le_of_ble_eq_true rfl) dX12_stop_29 ⟨Nat.zero_le _, Nat.zero_le _⟩ (fun H locs Z => ?_)
      refine lv_iload_n S.1 S.2.1 dX12_stop_32 rfl (lv_at hl 2 rfl) ?_
      refine lv_iload_n S.1 S.2.1 dX12_stop_33 rfl (lv_at hl 3 rfl) ?_
      refine ud_Vl (As := [.int (nI (bsS dgs d t1 d)), .int (nI d), .int (nI t1)]) (rest := []) S hK hA Z (c_X12_meanOf l G (bsS dgs d t1 d) d t1 (by omega) hd ht1 (uAr M 88 dgs) dgs hf hf9) (cwV 3 S.2.2.2.2 gX12_stop_X12_meanOf rfl rfl rfl (by decide +kernel) ⟨Nat.le_of_ble_eq_true rfl, Nat.le_of_ble_eq_true rfl⟩) (by decide) rfl rfl rfl hl.1 rfl (Nat.le_of_ble_eq_true rfl) dX12_stop_34 ⟨Nat.zero_le _, Nat.zero_le _⟩ (fun H locs Z => ?_)
      refine lv_ldc2 (v := 10) S.1 S.2.1 S.2.2.2.1 (S.2.2.2.2 _ qX12_stop_272) dX12_stop_37 ?_
      refine lv_iload_n S.1 S.2.1 dX12_stop_40 rfl (lv_at hl 2 rfl) ?_
      refine ud_Sl (As := [.long 10, .int (nI d)]) (rest := [.long (lN (mnS dgs d t1 (bsS dgs d t1 d)))]) S hK hA Z (c_X12_power l G 10 d (by omega) (by omega) (uAr M 88 dgs)) (va_cwS 2 S.2.2.2.2 gX12_stop_X12_power rfl rfl rfl (by decide +kernel) ⟨Nat.le_of_ble_eq_true rfl, Nat.le_of_ble_eq_true rfl⟩) rfl hl.1 rfl (Nat.le_of_ble_eq_true rfl) dX12_stop_41 ⟨Nat.zero_le _, Nat.zero_le _⟩ (fun H locs Z => ?_)
      refine lv_iload S.1 S.2.1 dX12_stop_44 (lv_at hl 4 rfl) ?_
      refine ud_Sl (As := [.long (lN (mnS dgs d t1 (bsS dgs d t1 d))), .long (lN (10 ^ d)), .int (nI p1)]) (rest := []) S hK hA Z (c_X12_lowest l G (mnS dgs d t1 (bsS dgs d t1 d)) (10 ^ d) p1 (by omega) (by omega) (by omega) (by omega) (uAr M 88 dgs)) (va_cwS 3 S.2.2.2.2 gX12_stop_X12_lowest rfl rfl rfl (by decide +kernel) ⟨Nat.le_of_ble_eq_true rfl, Nat.le_of_ble_eq_true rfl⟩) rfl hl.1 rfl (Nat.le_of_ble_eq_true rfl) dX12_stop_46 ⟨Nat.zero_le _, Nat.zero_le _⟩ (fun H locs Z => ?_)
      refine uret_l S hK Z hre hlk dX12_stop_49 ?_
      refine ⟨Or.inr ⟨u_inn0 (by omega) (by decide), u_inn0 (by omega) (by decide), v, d, hrow, hv, rfl, hd1, hd, hz, ?_⟩, hsm⟩
      rw [nI_clamp (show t1 < 2 ^ 31 by omega), nI_clamp (show p1 < 2 ^ 31 by omega)]
      obtain ⟨z1, z2⟩ := stop_low (wd := dg v d) (t := t1) hd1
      rw [← hbc, ← mnS_congr (hdg _ (by omega))] at z1 z2
      by_cases y : p1 = 0
      · rw [if_pos y, if_pos y, z1]
      · rw [if_neg y, if_neg y, z2]
    · skip
      rw [hM_3] at Z
      refine lv_if_ne (tgt := 25) S.1 S.2.1 dX12_stop_18 (by decide) (fun c => absurd c (by decide)) (fun _ => ?_)
      refine lv_ldc2 (v := (-1000000000000000002)) S.1 S.2.1 S.2.2.2.1 (S.2.2.2.2 _ qX12_stop_289) dX12_stop_21 ?_
      refine uret_l S hK Z hre hlk dX12_stop_24 ?_
      first
        | exact ⟨Or.inl ⟨Or.inr hno, rfl⟩, hsm⟩
        | exact ⟨Or.inl ⟨Or.inl (by assumption), rfl⟩, hsm⟩
  · skip
    refine lv_if_eq (tgt := 21) S.1 S.2.1 dX12_stop_7 (by decide) (fun _ => ?_) (fun c => absurd c (by decide))
    refine lv_ldc2 (v := (-1000000000000000002)) S.1 S.2.1 S.2.2.2.1 (S.2.2.2.2 _ qX12_stop_289) dX12_stop_21 ?_
    refine uret_l S hK Z hre hlk dX12_stop_24 ?_
    first
      | exact ⟨Or.inl ⟨Or.inr hno, rfl⟩, hsm⟩
      | exact ⟨Or.inl ⟨Or.inl (by assumption), rfl⟩, hsm⟩
set_option maxHeartbeats 4000000 in
set_option maxRecDepth 100000 in
theorem c_X12_sells (l : Launch) (G : uG) (x n t : Int32) (M : uM) : CTi l G yX12_sells wsX12_sells 3 72 [.ref (G.2.2 71), .int x, .int n, .int t] M (fun r M2 => SpSells x n t r ∧ mSm M M2) := by
  refine ustart_i (cc := cX12_sells) (maxL := 4) (ret := (some .int)) (own := RX12) rfl (by decide) rfl (Nat.le_of_ble_eq_true rfl) ?_
  intro xp xe xs xm xa xb xt xc xA ls S hK hA Z hre hlk hl
  have hl : lv_has ls 4 [(0, .ref (G.2.2 71)), (1, .int x), (2, .int n), (3, .int t)] := hl
  refine lv_aload_n S.1 S.2.1 dX12_sells_0 rfl (lv_at hl 0 rfl) ?_
  refine lv_iload_n S.1 S.2.1 dX12_sells_1 rfl (lv_at hl 1 rfl) ?_
  refine lv_iload_n S.1 S.2.1 dX12_sells_2 rfl (lv_at hl 2 rfl) ?_
  refine lv_iload_n S.1 S.2.1 dX12_sells_3 rfl (lv_at hl 3 rfl) ?_
  refine uc_Vi (As := [.int x, .int n, .int t]) (rest := []) S hK hA Z (c_X12_isStop l G x n t M) (cwV 3 S.2.2.2.2 gX12_sells_X12_isStop rfl rfl rfl (by decide +kernel) ⟨Nat.le_of_ble_eq_true rfl, Nat.le_of_ble_eq_true rfl⟩) (by decide) rfl rfl rfl hl.1 rfl (Nat.le_of_ble_eq_true rfl) dX12_sells_4 ⟨Nat.zero_le _, Nat.zero_le _⟩ (fun r_1 M_1 H locs hp Z => ?_)
  obtain ⟨hsm, ⟨rfl, v, d, dgs, hrow, hv, rfl, hd1, hd, hti, hz, hM, hdg⟩ | ⟨rfl, hno⟩⟩ := hp
  · skip
    subst hM
    obtain ⟨t1, ht1, rfl⟩ := u_in0 (n := 10) hti (by decide)
    have hf : ∀ i, (uAr M 88 dgs).1 88 i = nI (dgs i) := fun i => uAr_g _ _ _ _
    have hf9 : ∀ i, i < d → dgs i ≤ 9 := fun i hi => by rw [hdg i hi]; have := dg_lt v d i; omega
    have hbs := bsS_le dgs d t1 d
    have hbc := bsS_congr (t := t1) hdg d (Nat.le_refl _)
    have hmn := mn_bd (wd := dgs) (t := t1) hd (show bsS dgs d t1 d < d by omega) (hf9 _ (by omega))
    have hpw := pow_lt63 (b := 10) (e := d) (by decide) (by omega)
    have hpp : 0 < 10 ^ d := Nat.pow_pos (by decide)
    refine lv_if_eq (tgt := 19) S.1 S.2.1 dX12_sells_7 (by decide) (fun c => absurd c (by decide)) (fun _ => ?_)
    refine lv_aload_n S.1 S.2.1 dX12_sells_10 rfl (lv_at hl 0 rfl) ?_
    refine lv_iload_n S.1 S.2.1 dX12_sells_11 rfl (lv_at hl 2 rfl) ?_
    refine lv_iload_n S.1 S.2.1 dX12_sells_12 rfl (lv_at hl 3 rfl) ?_
    refine ud_Vi (As := [.int (nI d), .int (nI t1)]) (rest := []) S hK hA Z (c_X12_bestOf l G d t1 hd1 hd ht1 (uAr M 88 dgs) dgs hf hf9) (cwV 2 S.2.2.2.2 gX12_sells_X12_bestOf rfl rfl rfl (by decide +kernel) ⟨Nat.le_of_ble_eq_true rfl, Nat.le_of_ble_eq_true rfl⟩) (by decide) rfl rfl rfl hl.1 rfl (Nat.le_of_ble_eq_true rfl) dX12_sells_13 ⟨Nat.zero_le _, Nat.zero_le _⟩ (fun H locs Z => ?_)
    refine lv_goto (tgt := 21) S.1 S.2.1 dX12_sells_16 (by decide) ?_
    refine uret_i S hK Z hre hlk dX12_sells_21 ?_
    refine ⟨Or.inr ⟨u_inn0 (by omega) (by decide), v, d, hrow, hv, rfl, hd1, hd, hz, ?_⟩, hsm⟩
    rw [nI_clamp (show t1 < 2 ^ 31 by omega), jS_bs (dg v d) t1 d (Nat.le_refl _), hbc]
  · skip
    refine lv_if_eq (tgt := 19) S.1 S.2.1 dX12_sells_7 (by decide) (fun _ => ?_) (fun c => absurd c (by decide))
    refine lv_bipush (v := (-2)) S.1 S.2.1 dX12_sells_19 (by decide) ?_
    refine uret_i S hK Z hre hlk dX12_sells_21 ?_
    exact ⟨Or.inl ⟨hno, rfl⟩, hsm⟩
