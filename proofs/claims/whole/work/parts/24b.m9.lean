theorem qX12_readDigits_58 : Cond.fieldLink RX12 58 (TX12 27).1 (TX12 27).2.1 (TX12 27).2.2.1 ∈ wsX12_readDigits := List.mem_of_getElem? (i := 1) rfl
theorem iX12_readDigits_X12 : ∀ w ∈ wsX120, w ∈ wsX12_readDigits := fun _ h => List.mem_cons_of_mem _ (List.mem_append_right _ h)
theorem qX12_isStop_103 : Cond.constantLong RX12 103 9 ∈ wsX12_isStop := List.mem_of_getElem? (i := 1) rfl
theorem qX12_isStop_272 : Cond.constantLong RX12 272 10 ∈ wsX12_isStop := List.mem_of_getElem? (i := 2) rfl
set_option maxHeartbeats 4000000 in
set_option maxRecDepth 100000 in
theorem c_X12_readDigits (l : Launch) (G : uG) (v d : Nat) (hv : v < 2147483648) (hd1 : 1 ≤ d) (hd : d ≤ 9) (M : uM) (f : Nat → Nat) : CTi l G yX12_readDigits wsX12_readDigits 0 0 [.ref (G.2.2 71), .int (nI v), .int (nI d)] (uAr M 88 f) (fun r M2 => ((r = 1 ∧ v / 10 ^ d = 0) ∨ (r = 0 ∧ ¬ v / 10 ^ d = 0)) ∧ ∃ h, M2 = uAr M 88 h ∧ ∀ i, i < d → h i = dg v d i) := by
  refine ustart_i (cc := cX12_readDigits) (maxL := 5) (ret := (some .boolean)) (own := RX12) rfl (by decide) rfl (Nat.le_of_ble_eq_true rfl) ?_
  intro xp xe xs xm xa xb xt xc xA ls S hK hA Z hre hlk hl
  have hl : lv_has ls 5 [(0, .ref (G.2.2 71)), (1, .int (nI v)), (2, .int (nI d))] := hl
  refine lv_iload_n S.1 S.2.1 dX12_readDigits_0 rfl (lv_at hl 1 rfl) ?_
  refine lv_istore_n (lv' := [(3, .int (nI v)), (0, .ref (G.2.2 71)), (1, .int (nI v)), (2, .int (nI d))]) S.1 S.2.1 dX12_readDigits_1 rfl hl (by decide) rfl (fun ls hl => ?_)
  refine lv_iload_n S.1 S.2.1 dX12_readDigits_2 rfl (lv_at hl 3 rfl) ?_
  refine lv_iconst (v := 1) S.1 S.2.1 dX12_readDigits_3 (by decide) ?_
  refine lv_isub S.1 S.2.1 dX12_readDigits_4 ?_
  refine utop (pk_sub (a := d) (b := 1) (by omega)) ?_
  refine lv_istore (lv' := [(4, .int (nI (d - 1))), (3, .int (nI v)), (0, .ref (G.2.2 71)), (1, .int (nI v)), (2, .int (nI d))]) S.1 S.2.1 dX12_readDigits_5 hl (by decide) rfl (fun ls hl => ?_)
  have LP7 : ∀ (fU : Nat) (q : Nat) (x4 : Int32) (rs : Nat) (h : Nat → Nat), (q < fU) → (q ≤ d) → ((q = 0 ∧ x4 = -1) ∨ ∃ q1, q = q1 + 1 ∧ x4 = nI q1) → (rs = v / 10 ^ (d - q)) → (∀ i, q ≤ i → i < d → h i = dg v d i) → ∀ (H : Heap) (locs : List Loc) (ls : Array Slot), uZ G xA (uAr M 88 h) xs.heap H locs → lv_has ls 5 [(4, .int x4), (3, .int (nI rs)), (0, .ref (G.2.2 71)), (1, .int (nI v)), (2, .int (nI d))] → W xp l xe (uRm 0 0) xs xm xa xb xt xc H locs 0 0 (MQ xb (va_Qi (fun r M2 => ((r = 1 ∧ v / 10 ^ d = 0) ∨ (r = 0 ∧ ¬ v / 10 ^ d = 0)) ∧ ∃ h, M2 = uAr M 88 h ∧ ∀ i, i < d → h i = dg v d i) (fun M' t => uB G M' t) xA) xa xs 0 0 xA) (F0 xm 7 ls []) := by
    intro fU
    induction fU with
    | zero =>
      intro q x4 rs h hfl hq hx hr hh H locs ls Z hl
      exfalso
      omega
    | succ fU ih7 =>
      intro q x4 rs h hfl hq hx hr hh H locs ls Z hl
      have hrb : rs < 2147483648 := by rw [hr]; exact div_bd _ _ hv
      rcases hx with ⟨hq0, hx⟩ | ⟨q1, hq0, hx⟩
      · skip
        subst hq0
        subst hx
        refine lv_iload S.1 S.2.1 dX12_readDigits_7 (lv_at hl 0 rfl) ?_
        refine lv_if_lt (tgt := 34) S.1 S.2.1 dX12_readDigits_9 (by decide) (fun _ => ?_) (fun c => absurd c (by decide))
        refine lv_iload_n S.1 S.2.1 dX12_readDigits_34 rfl (lv_at hl 1 rfl) ?_
        refine lv_if_ne (tgt := 42) S.1 S.2.1 dX12_readDigits_35 (by decide) (fun c_2 => ?_) (fun c_2 => ?_)
        · skip
          have c_2 : ¬ rs = 0 := fun z9 => c_2 ((nI_eq (a := rs) (b := 0) (by omega) (by omega)).mpr z9)
          refine lv_iconst (v := 0) S.1 S.2.1 dX12_readDigits_42 (by decide) ?_
          refine uret_z S hK Z hre hlk (by decide) dX12_readDigits_43 ?_
          rw [Nat.sub_zero] at hr
          exact ⟨Or.inr ⟨rfl, by omega⟩, h, rfl, fun i hi => hh i (Nat.zero_le _) hi⟩
        · skip
          have c_2 : rs = 0 := (nI_eq (a := rs) (b := 0) (by omega) (by omega)).mp c_2
          refine lv_iconst (v := 1) S.1 S.2.1 dX12_readDigits_38 (by decide) ?_
          refine lv_goto (tgt := 43) S.1 S.2.1 dX12_readDigits_39 (by decide) ?_
          refine uret_z S hK Z hre hlk (by decide) dX12_readDigits_43 ?_
          rw [Nat.sub_zero] at hr
          exact ⟨Or.inl ⟨rfl, by omega⟩, h, rfl, fun i hi => hh i (Nat.zero_le _) hi⟩
      · skip
        subst hq0
        subst hx
        refine lv_iload S.1 S.2.1 dX12_readDigits_7 (lv_at hl 0 rfl) ?_
        refine lv_if_lt (tgt := 34) S.1 S.2.1 dX12_readDigits_9 (by decide) (fun c_3 => ?_) (fun c_3 => ?_)
        · skip
          have c_3 : q1 < 0 := (nI_ltI (a := q1) (b := 0) (by omega) (by omega)).mp c_3
          omega
        · skip
          have c_3 : ¬ q1 < 0 := fun z9 => c_3 ((nI_ltI (a := q1) (b := 0) (by omega) (by omega)).mpr z9)
          refine lv_aload_n S.1 S.2.1 dX12_readDigits_12 rfl (lv_at hl 2 rfl) ?_
          refine ug_r S hK Z (j := 27) 88 (by decide) rfl rfl rfl (by decide) iX12_readDigits_X12 qX12_readDigits_58 dX12_readDigits_13 ?_
          refine lv_iload S.1 S.2.1 dX12_readDigits_16 (lv_at hl 0 rfl) ?_
          refine lv_iload_n S.1 S.2.1 dX12_readDigits_18 rfl (lv_at hl 1 rfl) ?_
          refine lv_bipush (v := 10) S.1 S.2.1 dX12_readDigits_19 (by decide) ?_
          refine lv_irem S.1 S.2.1 dX12_readDigits_21 (by decide) ?_
          refine utop (pk_rem (a := rs) (d := 10) (by omega) (by omega) (by omega)) ?_
          refine ua_ist S hK Z q1 (by decide) rfl rfl (by omega) dX12_readDigits_22 (fun H locs Z => ?_)
          have Z := uZ_eq (uAr_s M 88 h q1 (rs % 10)) Z
          refine lv_iload_n S.1 S.2.1 dX12_readDigits_23 rfl (lv_at hl 1 rfl) ?_
          refine lv_bipush (v := 10) S.1 S.2.1 dX12_readDigits_24 (by decide) ?_
          refine lv_idiv S.1 S.2.1 dX12_readDigits_26 (by decide) ?_
          refine utop (pk_div (a := rs) (d := 10) (by omega) (by omega) (by omega)) ?_
          refine lv_istore_n (lv' := [(3, .int (nI (rs / 10))), (4, .int (nI q1)), (0, .ref (G.2.2 71)), (1, .int (nI v)), (2, .int (nI d))]) S.1 S.2.1 dX12_readDigits_27 rfl hl (by decide) rfl (fun ls hl => ?_)
          refine lv_iinc (v := ((nI q1) + (-1))) (lv' := [(4, .int ((nI q1) + (-1))), (3, .int (nI (rs / 10))), (0, .ref (G.2.2 71)), (1, .int (nI v)), (2, .int (nI d))]) S.1 S.2.1 dX12_readDigits_28 hl (k := 1) rfl rfl (by decide) rfl (fun ls hl => ?_)
          refine lv_goto (tgt := 7) S.1 S.2.1 dX12_readDigits_31 (by decide) ?_
          exact ih7 q1 ((nI q1) + (-1)) (rs / 10) (fu h q1 (rs % 10)) (by omega) (by omega) (by exact u_down q1) (by rw [hr, dg_div, show d - (q1 + 1) + 1 = d - q1 from by omega]) (by
              intro i h1 h2
              by_cases z : i = q1
              · subst z
                rw [fu_eq, hr]
                unfold dg
                rw [show d - (i + 1) = d - 1 - i from by omega]
              · rw [fu_ne z]
                exact hh i (by omega) h2) _ _ _ Z (lv_sub hl [0, 1, 2, 3, 4] rfl)
  exact LP7 (d + 1) d (nI (d - 1)) v f (by omega) (by omega) (by exact Or.inr ⟨d - 1, by omega, rfl⟩) (by rw [Nat.sub_self, Nat.pow_zero, Nat.div_one]) (by intro i h1 h2; omega) _ _ _ Z (lv_sub hl [0, 1, 2, 3, 4] rfl)
set_option maxHeartbeats 4000000 in
set_option maxRecDepth 100000 in
theorem c_X12_isStopP (l : Launch) (G : uG) (v : Nat) (hv : v < 2147483648) (n t : Int32) (M : uM) : CTi l G yX12_isStop wsX12_isStop 1 25 [.ref (G.2.2 71), .int (nI v), .int n, .int t] M (fun r M2 => mSm M M2 ∧ ((r = 1 ∧ ∃ d dgs, n = nI d ∧ 1 ≤ d ∧ d ≤ 9 ∧ inr t 0 10 ∧ v / 10 ^ d = 0 ∧ M2 = uAr M 88 dgs ∧ ∀ i, i < d → dgs i = dg v d i) ∨ (r = 0 ∧ (¬ inr t 0 10 ∨ ¬ cOk (nI v) n)))) := by
  obtain ⟨f0, hf0⟩ := uAr_ex M 88
  refine ustart_i (cc := cX12_isStop) (maxL := 4) (ret := (some .boolean)) (own := RX12) rfl (by decide) rfl (Nat.le_of_ble_eq_true rfl) ?_
  intro xp xe xs xm xa xb xt xc xA ls S hK hA Z hre hlk hl
  have hl : lv_has ls 4 [(0, .ref (G.2.2 71)), (1, .int (nI v)), (2, .int n), (3, .int t)] := hl
  refine lv_iload_n S.1 S.2.1 dX12_isStop_0 rfl (lv_at hl 2 rfl) ?_
  refine lv_i2l (v := n.toInt64) S.1 S.2.1 dX12_isStop_1 rfl ?_
  refine lv_lconst (v := 1) S.1 S.2.1 dX12_isStop_2 (by decide) ?_
  refine lv_ldc2 (v := 9) S.1 S.2.1 S.2.2.2.1 (S.2.2.2.2 _ qX12_isStop_103) dX12_isStop_3 ?_
  refine uc_Si (As := [.long n.toInt64, .long 1, .long 9]) (rest := []) S hK hA Z (c_X12_in l G n 1 9 _ _ _ rfl (by decide) (by decide) M) (va_cwS 3 S.2.2.2.2 gX12_isStop_X12_in rfl rfl rfl (by decide +kernel) ⟨Nat.le_of_ble_eq_true rfl, Nat.le_of_ble_eq_true rfl⟩) rfl hl.1 rfl (Nat.le_of_ble_eq_true rfl) dX12_isStop_6 ⟨Nat.zero_le _, Nat.zero_le _⟩ (fun r_1 M_1 H locs hp Z => ?_)
  obtain ⟨⟨rfl, w_1⟩ | ⟨rfl, w_1⟩, hM_1⟩ := hp
  · skip
    rw [hM_1] at Z
    refine lv_if_eq (tgt := 41) S.1 S.2.1 dX12_isStop_9 (by decide) (fun c => absurd c (by decide)) (fun _ => ?_)
    obtain ⟨d, hd1, hd, rfl⟩ := u_in1 (n := 9) (show inr n 1 9 by assumption) (by decide)
    refine lv_iload_n S.1 S.2.1 dX12_isStop_12 rfl (lv_at hl 1 rfl) ?_
    refine lv_if_lt (tgt := 41) S.1 S.2.1 dX12_isStop_13 (by decide) (fun c_3 => ?_) (fun c_3 => ?_)
    · skip
      have c_3 : v < 0 := (nI_ltI (a := v) (b := 0) (by omega) (by omega)).mp c_3
      omega
    · skip
      have c_3 : ¬ v < 0 := fun z9 => c_3 ((nI_ltI (a := v) (b := 0) (by omega) (by omega)).mpr z9)
      refine lv_iload_n S.1 S.2.1 dX12_isStop_16 rfl (lv_at hl 3 rfl) ?_
      refine lv_i2l (v := t.toInt64) S.1 S.2.1 dX12_isStop_17 rfl ?_
      refine lv_lconst (v := 0) S.1 S.2.1 dX12_isStop_18 (by decide) ?_
      refine lv_ldc2 (v := 10) S.1 S.2.1 S.2.2.2.1 (S.2.2.2.2 _ qX12_isStop_272) dX12_isStop_19 ?_
      refine uc_Si (As := [.long t.toInt64, .long 0, .long 10]) (rest := []) S hK hA Z (c_X12_in l G t 0 10 _ _ _ rfl (by decide) (by decide) M) (va_cwS 3 S.2.2.2.2 gX12_isStop_X12_in rfl rfl rfl (by decide +kernel) ⟨Nat.le_of_ble_eq_true rfl, Nat.le_of_ble_eq_true rfl⟩) rfl hl.1 rfl (Nat.le_of_ble_eq_true rfl) dX12_isStop_22 ⟨Nat.zero_le _, Nat.zero_le _⟩ (fun r_4 M_4 H locs hp Z => ?_)
      obtain ⟨⟨rfl, w_4⟩ | ⟨rfl, w_4⟩, hM_4⟩ := hp
      · skip
        rw [hM_4] at Z
        refine lv_if_eq (tgt := 41) S.1 S.2.1 dX12_isStop_25 (by decide) (fun c => absurd c (by decide)) (fun _ => ?_)
        refine lv_aload_n S.1 S.2.1 dX12_isStop_28 rfl (lv_at hl 0 rfl) ?_
        refine lv_iload_n S.1 S.2.1 dX12_isStop_29 rfl (lv_at hl 1 rfl) ?_
        refine lv_iload_n S.1 S.2.1 dX12_isStop_30 rfl (lv_at hl 2 rfl) ?_
        refine uc_Vi (As := [.int (nI v), .int (nI d)]) (rest := []) S hK hA Z ((by have h9 := c_X12_readDigits l G v d hv hd1 hd M f0; rw [hf0] at h9; exact h9)) (cwV 2 S.2.2.2.2 gX12_isStop_X12_readDigits rfl rfl rfl (by decide +kernel) ⟨Nat.le_of_ble_eq_true rfl, Nat.le_of_ble_eq_true rfl⟩) (by decide) rfl rfl rfl hl.1 rfl (Nat.le_of_ble_eq_true rfl) dX12_isStop_31 ⟨Nat.zero_le _, Nat.zero_le _⟩ (fun r_6 M_6 H locs hp Z => ?_)
        obtain ⟨⟨rfl, hz⟩ | ⟨rfl, hz⟩, dgs, hM, hdg⟩ := hp
        · skip
          rw [hM] at Z
          refine lv_if_eq (tgt := 41) S.1 S.2.1 dX12_isStop_34 (by decide) (fun c => absurd c (by decide)) (fun _ => ?_)
          refine lv_iconst (v := 1) S.1 S.2.1 dX12_isStop_37 (by decide) ?_
          refine lv_goto (tgt := 42) S.1 S.2.1 dX12_isStop_38 (by decide) ?_
          refine uret_z S hK Z hre hlk (by decide) dX12_isStop_42 ?_
          exact ⟨mSm_r (mSm_rf _) (by decide), Or.inl ⟨rfl, d, dgs, rfl, hd1, hd, by assumption, hz, rfl, hdg⟩⟩
        · skip
          rw [hM] at Z
          refine lv_if_eq (tgt := 41) S.1 S.2.1 dX12_isStop_34 (by decide) (fun _ => ?_) (fun c => absurd c (by decide))
          refine lv_iconst (v := 0) S.1 S.2.1 dX12_isStop_41 (by decide) ?_
          refine uret_z S hK Z hre hlk (by decide) dX12_isStop_42 ?_
          refine ⟨mSm_r (mSm_rf _) (by decide), Or.inr ⟨rfl, Or.inr (fun ⟨v2, d2, q1, q2, q3, q4, q5, q6⟩ => ?_)⟩⟩
          have e1 := nI_inj hv q2 q1
          have e2 := nI_inj (by omega) (by omega) q3
          subst e1
          subst e2
          exact hz q6
      · skip
        rw [hM_4] at Z
        refine lv_if_eq (tgt := 41) S.1 S.2.1 dX12_isStop_25 (by decide) (fun _ => ?_) (fun c => absurd c (by decide))
        refine lv_iconst (v := 0) S.1 S.2.1 dX12_isStop_41 (by decide) ?_
        refine uret_z S hK Z hre hlk (by decide) dX12_isStop_42 ?_
        first
          | exact ⟨mSm_rf _, Or.inr ⟨rfl, Or.inl (by assumption)⟩⟩
          | (refine ⟨mSm_rf _, Or.inr ⟨rfl, Or.inr (fun ⟨v2, d2, q1, q2, q3, q4, q5, q6⟩ => ?_)⟩⟩
             subst q3
             exact absurd (u_inn' (c := d2) (lo := 1) (hi := 9) ⟨q4, q5⟩ (by decide)) (by assumption))
  · skip
    rw [hM_1] at Z
    refine lv_if_eq (tgt := 41) S.1 S.2.1 dX12_isStop_9 (by decide) (fun _ => ?_) (fun c => absurd c (by decide))
    refine lv_iconst (v := 0) S.1 S.2.1 dX12_isStop_41 (by decide) ?_
    refine uret_z S hK Z hre hlk (by decide) dX12_isStop_42 ?_
    first
      | exact ⟨mSm_rf _, Or.inr ⟨rfl, Or.inl (by assumption)⟩⟩
      | (refine ⟨mSm_rf _, Or.inr ⟨rfl, Or.inr (fun ⟨v2, d2, q1, q2, q3, q4, q5, q6⟩ => ?_)⟩⟩
         subst q3
         exact absurd (u_inn' (c := d2) (lo := 1) (hi := 9) ⟨q4, q5⟩ (by decide)) (by assumption))
set_option maxHeartbeats 4000000 in
set_option maxRecDepth 100000 in
theorem c_X12_isStopN (l : Launch) (G : uG) (x : Int32) (hx0 : x < 0) (n t : Int32) (M : uM) : CTi l G yX12_isStop wsX12_isStop 1 25 [.ref (G.2.2 71), .int x, .int n, .int t] M (fun r M2 => M2 = M ∧ r = 0) := by
  refine ustart_i (cc := cX12_isStop) (maxL := 4) (ret := (some .boolean)) (own := RX12) rfl (by decide) rfl (Nat.le_of_ble_eq_true rfl) ?_
  intro xp xe xs xm xa xb xt xc xA ls S hK hA Z hre hlk hl
  have hl : lv_has ls 4 [(0, .ref (G.2.2 71)), (1, .int x), (2, .int n), (3, .int t)] := hl
  refine lv_iload_n S.1 S.2.1 dX12_isStop_0 rfl (lv_at hl 2 rfl) ?_
  refine lv_i2l (v := n.toInt64) S.1 S.2.1 dX12_isStop_1 rfl ?_
  refine lv_lconst (v := 1) S.1 S.2.1 dX12_isStop_2 (by decide) ?_
  refine lv_ldc2 (v := 9) S.1 S.2.1 S.2.2.2.1 (S.2.2.2.2 _ qX12_isStop_103) dX12_isStop_3 ?_
  refine uc_Si (As := [.long n.toInt64, .long 1, .long 9]) (rest := []) S hK hA Z (c_X12_in l G n 1 9 _ _ _ rfl (by decide) (by decide) M) (va_cwS 3 S.2.2.2.2 gX12_isStop_X12_in rfl rfl rfl (by decide +kernel) ⟨Nat.le_of_ble_eq_true rfl, Nat.le_of_ble_eq_true rfl⟩) rfl hl.1 rfl (Nat.le_of_ble_eq_true rfl) dX12_isStop_6 ⟨Nat.zero_le _, Nat.zero_le _⟩ (fun r_1 M_1 H locs hp Z => ?_)
  obtain ⟨⟨rfl, w_1⟩ | ⟨rfl, w_1⟩, hM_1⟩ := hp
  · skip
    rw [hM_1] at Z
    refine lv_if_eq (tgt := 41) S.1 S.2.1 dX12_isStop_9 (by decide) (fun c => absurd c (by decide)) (fun _ => ?_)
    refine lv_iload_n S.1 S.2.1 dX12_isStop_12 rfl (lv_at hl 1 rfl) ?_
    refine lv_if_lt (tgt := 41) S.1 S.2.1 dX12_isStop_13 (by decide) (fun c_3 => ?_) (fun c_3 => ?_)
    · skip
      refine lv_iconst (v := 0) S.1 S.2.1 dX12_isStop_41 (by decide) ?_
      refine uret_z S hK Z hre hlk (by decide) dX12_isStop_42 ?_
      exact ⟨rfl, rfl⟩
    · skip
      exact absurd hx0 c_3
  · skip
    rw [hM_1] at Z
    refine lv_if_eq (tgt := 41) S.1 S.2.1 dX12_isStop_9 (by decide) (fun _ => ?_) (fun c => absurd c (by decide))
    refine lv_iconst (v := 0) S.1 S.2.1 dX12_isStop_41 (by decide) ?_
    refine uret_z S hK Z hre hlk (by decide) dX12_isStop_42 ?_
    exact ⟨rfl, rfl⟩
theorem c_X12_isStop (l : Launch) (G : uG) (x n t : Int32) (M : uM) : CTi l G yX12_isStop wsX12_isStop 1 25 [.ref (G.2.2 71), .int x, .int n, .int t] M (fun r M2 => mSm M M2 ∧ ((r = 1 ∧ ∃ v d dgs, x = nI v ∧ v < 2147483648 ∧ n = nI d ∧ 1 ≤ d ∧ d ≤ 9 ∧ inr t 0 10 ∧ v / 10 ^ d = 0 ∧ M2 = uAr M 88 dgs ∧ ∀ i, i < d → dgs i = dg v d i) ∨ (r = 0 ∧ (¬ inr t 0 10 ∨ ¬ cOk x n)))) := by
  by_cases h : x < 0
  · refine CTi_mono (c_X12_isStopN l G x h n t M) (fun r M2 hp => ?_)
    obtain ⟨rfl, rfl⟩ := hp
    exact ⟨mSm_rf _, Or.inr ⟨rfl, Or.inr (cOk_neg h)⟩⟩
  · obtain ⟨v, hv, rfl⟩ := nI_of h
    refine CTi_mono (c_X12_isStopP l G v hv n t M) (fun r M2 hp => ?_)
    obtain ⟨h1, ⟨h2, d, dgs, h3⟩ | h2⟩ := hp
    · exact ⟨h1, Or.inl ⟨h2, v, d, dgs, rfl, hv, h3⟩⟩
    · exact ⟨h1, Or.inr h2⟩
