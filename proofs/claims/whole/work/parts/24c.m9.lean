theorem qX12_meanOf_58 : Cond.fieldLink RX12 58 (TX12 27).1 (TX12 27).2.1 (TX12 27).2.2.1 ∈ wsX12_meanOf := List.mem_of_getElem? (i := 1) rfl
theorem iX12_meanOf_X12 : ∀ w ∈ wsX120, w ∈ wsX12_meanOf := fun _ h => List.mem_cons_of_mem _ (List.mem_append_right _ h)
theorem qX12_meanOf_272 : Cond.constantLong RX12 272 10 ∈ wsX12_meanOf := List.mem_of_getElem? (i := 2) rfl
set_option maxHeartbeats 4000000 in
set_option maxRecDepth 100000 in
theorem c_X12_power (l : Launch) (G : uG) (b e : Nat) (hb : b ≤ 10) (he : e ≤ 12) (M : uM) : CTl l G yX12_power wsX12_power 0 0 [.long (lN b), .int (nI e)] M (fun r M2 => r = lN (b ^ e) ∧ M2 = M) := by
  refine ustart_l (cc := cX12_power) (maxL := 6) (ret := (some .long)) (own := RX12) rfl (by decide) rfl (Nat.le_of_ble_eq_true rfl) ?_
  intro xp xe xs xm xa xb xt xc xA ls S hK hA Z hre hlk hl
  have hl : lv_has ls 6 [(0, .long (lN b)), (2, .int (nI e))] := hl
  refine lv_lconst (v := 1) S.1 S.2.1 dX12_power_0 (by decide) ?_
  refine lv_lstore_n (lv' := [(3, .long 1), (0, .long (lN b)), (2, .int (nI e))]) S.1 S.2.1 dX12_power_1 rfl hl (by decide) rfl (fun ls hl => ?_)
  refine lv_iconst (v := 0) S.1 S.2.1 dX12_power_2 (by decide) ?_
  refine lv_istore (lv' := [(5, .int 0), (3, .long 1), (0, .long (lN b)), (2, .int (nI e))]) S.1 S.2.1 dX12_power_3 hl (by decide) rfl (fun ls hl => ?_)
  have LP5 : ∀ (fU : Nat) (x : Nat) (i : Nat), (e < i + fU) → (i ≤ e) → (x = b ^ i) → ∀ (H : Heap) (locs : List Loc) (ls : Array Slot), uZ G xA M xs.heap H locs → lv_has ls 6 [(5, .int (nI i)), (3, .long (lN x)), (0, .long (lN b)), (2, .int (nI e))] → W xp l xe (uRm 0 0) xs xm xa xb xt xc H locs 0 0 (MQ xb (va_Ql (fun r M2 => r = lN (b ^ e) ∧ M2 = M) (fun M' t => uB G M' t) xA) xa xs 0 0 xA) (F0 xm 5 ls []) := by
    intro fU
    induction fU with
    | zero =>
      intro x i hfl i1 i2 H locs ls Z hl
      exfalso
      omega
    | succ fU ih5 =>
      intro x i hfl i1 i2 H locs ls Z hl
      refine lv_iload S.1 S.2.1 dX12_power_5 (lv_at hl 0 rfl) ?_
      refine lv_iload_n S.1 S.2.1 dX12_power_7 rfl (lv_at hl 3 rfl) ?_
      refine lv_icmp_ge (tgt := 21) S.1 S.2.1 dX12_power_8 (by decide) (fun c_1 => ?_) (fun c_1 => ?_)
      · skip
        have c_1 : e ≤ i := (nI_leI (a := e) (b := i) (by omega) (by omega)).mp c_1
        refine lv_lload_n S.1 S.2.1 dX12_power_21 rfl (lv_at hl 1 rfl) ?_
        refine uret_l S hK Z hre hlk dX12_power_22 ?_
        rw [i2, show i = e from by omega]
        exact ⟨rfl, rfl⟩
      · skip
        have c_1 : ¬ e ≤ i := fun z9 => c_1 ((nI_leI (a := e) (b := i) (by omega) (by omega)).mpr z9)
        refine lv_lload_n S.1 S.2.1 dX12_power_11 rfl (lv_at hl 1 rfl) ?_
        refine lv_lload_n S.1 S.2.1 dX12_power_12 rfl (lv_at hl 2 rfl) ?_
        refine lv_lmul S.1 S.2.1 dX12_power_13 ?_
        refine utopl (lN_mul x b) ?_
        refine lv_lstore_n (lv' := [(3, .long (lN (x * b))), (5, .int (nI i)), (0, .long (lN b)), (2, .int (nI e))]) S.1 S.2.1 dX12_power_14 rfl hl (by decide) rfl (fun ls hl => ?_)
        refine lv_iinc (v := (nI (i + 1))) (lv' := [(5, .int (nI (i + 1))), (3, .long (lN (x * b))), (0, .long (lN b)), (2, .int (nI e))]) S.1 S.2.1 dX12_power_15 hl (k := 1) rfl (u_inc1 i) (by decide) rfl (fun ls hl => ?_)
        refine lv_goto (tgt := 5) S.1 S.2.1 dX12_power_18 (by decide) ?_
        exact ih5 (x * b) (i + 1) (by omega) (by omega) (by rw [Nat.pow_succ, i2]) _ _ _ Z (lv_sub hl [0, 1, 2, 3] rfl)
  exact LP5 (e + 1) 1 0 (by omega) (by omega) (by rfl) _ _ _ Z (lv_sub hl [0, 1, 2, 3] rfl)
set_option maxHeartbeats 4000000 in
set_option maxRecDepth 100000 in
theorem c_X12_meanOf (l : Launch) (G : uG) (i d t : Nat) (hi : i < d) (hd : d ≤ 9) (ht : t ≤ 10) (M : uM) (f : Nat → Nat) (hf : ∀ i, M.1 88 i = nI (f i)) (hf9 : ∀ i, i < d → f i ≤ 9) : CTl l G yX12_meanOf wsX12_meanOf 1 25 [.ref (G.2.2 71), .int (nI i), .int (nI d), .int (nI t)] M (fun r M2 => r = lN (mnS f d t i) ∧ M2 = M) := by
  have h9 := hf9 i hi
  refine ustart_l (cc := cX12_meanOf) (maxL := 4) (ret := (some .long)) (own := RX12) rfl (by decide) rfl (Nat.le_of_ble_eq_true rfl) ?_
  intro xp xe xs xm xa xb xt xc xA ls S hK hA Z hre hlk hl
  have hl : lv_has ls 4 [(0, .ref (G.2.2 71)), (1, .int (nI i)), (2, .int (nI d)), (3, .int (nI t))] := hl
  refine lv_aload_n S.1 S.2.1 dX12_meanOf_0 rfl (lv_at hl 0 rfl) ?_
  refine ug_r S hK Z (j := 27) 88 (by decide) rfl rfl rfl (by decide) iX12_meanOf_X12 qX12_meanOf_58 dX12_meanOf_1 ?_
  refine lv_iload_n S.1 S.2.1 dX12_meanOf_4 rfl (lv_at hl 1 rfl) ?_
  refine ua_ild S hK Z i (by decide) rfl rfl (by omega) dX12_meanOf_5 ?_
  refine utop (y := (nI (f i))) (hf i) ?_
  refine lv_i2l (v := (lN (f i))) S.1 S.2.1 dX12_meanOf_6 (nI_l (by omega)) ?_
  refine lv_ldc2 (v := 10) S.1 S.2.1 S.2.2.2.1 (S.2.2.2.2 _ qX12_meanOf_272) dX12_meanOf_7 ?_
  refine lv_iload_n S.1 S.2.1 dX12_meanOf_10 rfl (lv_at hl 3 rfl) ?_
  refine lv_i2l (v := (lN t)) S.1 S.2.1 dX12_meanOf_11 (nI_l (by omega)) ?_
  refine lv_lsub S.1 S.2.1 dX12_meanOf_12 ?_
  refine utopl (lN_sub (a := 10) (b := t) (by omega)) ?_
  refine lv_iload_n S.1 S.2.1 dX12_meanOf_13 rfl (lv_at hl 1 rfl) ?_
  refine ud_Sl (As := [.long (lN (10 - t)), .int (nI i)]) (rest := [.long (lN (f i))]) S hK hA Z (c_X12_power l G (10 - t) i (by omega) (by omega) M) (va_cwS 2 S.2.2.2.2 gX12_meanOf_X12_power rfl rfl rfl (by decide +kernel) ⟨Nat.le_of_ble_eq_true rfl, Nat.le_of_ble_eq_true rfl⟩) rfl hl.1 rfl (Nat.le_of_ble_eq_true rfl) dX12_meanOf_14 ⟨Nat.zero_le _, Nat.zero_le _⟩ (fun H locs Z => ?_)
  refine lv_lmul S.1 S.2.1 dX12_meanOf_17 ?_
  refine utopl (lN_mul (f i) ((10 - t) ^ i)) ?_
  refine lv_ldc2 (v := 10) S.1 S.2.1 S.2.2.2.1 (S.2.2.2.2 _ qX12_meanOf_272) dX12_meanOf_18 ?_
  refine lv_iload_n S.1 S.2.1 dX12_meanOf_21 rfl (lv_at hl 2 rfl) ?_
  refine lv_iload_n S.1 S.2.1 dX12_meanOf_22 rfl (lv_at hl 1 rfl) ?_
  refine lv_isub S.1 S.2.1 dX12_meanOf_23 ?_
  refine utop (pk_sub (a := d) (b := i) (by omega)) ?_
  refine ud_Sl (As := [.long 10, .int (nI (d - i))]) (rest := [.long (lN ((f i) * ((10 - t) ^ i)))]) S hK hA Z (c_X12_power l G 10 (d - i) (by omega) (by omega) M) (va_cwS 2 S.2.2.2.2 gX12_meanOf_X12_power rfl rfl rfl (by decide +kernel) ⟨Nat.le_of_ble_eq_true rfl, Nat.le_of_ble_eq_true rfl⟩) rfl hl.1 rfl (Nat.le_of_ble_eq_true rfl) dX12_meanOf_24 ⟨Nat.zero_le _, Nat.zero_le _⟩ (fun H locs Z => ?_)
  refine lv_lmul S.1 S.2.1 dX12_meanOf_27 ?_
  refine utopl (lN_mul ((f i) * ((10 - t) ^ i)) (10 ^ (d - i))) ?_
  refine uret_l S hK Z hre hlk dX12_meanOf_28 ?_
  exact ⟨rfl, rfl⟩
set_option maxHeartbeats 4000000 in
set_option maxRecDepth 100000 in
theorem c_X12_bestOf (l : Launch) (G : uG) (d t : Nat) (hd1 : 1 ≤ d) (hd : d ≤ 9) (ht : t ≤ 10) (M : uM) (f : Nat → Nat) (hf : ∀ i, M.1 88 i = nI (f i)) (hf9 : ∀ i, i < d → f i ≤ 9) : CTi l G yX12_bestOf wsX12_bestOf 2 48 [.ref (G.2.2 71), .int (nI d), .int (nI t)] M (fun r M2 => r = nI (bsS f d t d) ∧ M2 = M) := by
  refine ustart_i (cc := cX12_bestOf) (maxL := 5) (ret := (some .int)) (own := RX12) rfl (by decide) rfl (Nat.le_of_ble_eq_true rfl) ?_
  intro xp xe xs xm xa xb xt xc xA ls S hK hA Z hre hlk hl
  have hl : lv_has ls 5 [(0, .ref (G.2.2 71)), (1, .int (nI d)), (2, .int (nI t))] := hl
  refine lv_iconst (v := 0) S.1 S.2.1 dX12_bestOf_0 (by decide) ?_
  refine lv_istore_n (lv' := [(3, .int 0), (0, .ref (G.2.2 71)), (1, .int (nI d)), (2, .int (nI t))]) S.1 S.2.1 dX12_bestOf_1 rfl hl (by decide) rfl (fun ls hl => ?_)
  refine lv_iconst (v := 1) S.1 S.2.1 dX12_bestOf_2 (by decide) ?_
  refine lv_istore (lv' := [(4, .int 1), (3, .int 0), (0, .ref (G.2.2 71)), (1, .int (nI d)), (2, .int (nI t))]) S.1 S.2.1 dX12_bestOf_3 hl (by decide) rfl (fun ls hl => ?_)
  have LP5 : ∀ (fU : Nat) (b : Nat) (i : Nat), (d < i + fU) → (1 ≤ i ∧ i ≤ d) → (b < i) → (b = bsS f d t i) → ∀ (H : Heap) (locs : List Loc) (ls : Array Slot), uZ G xA M xs.heap H locs → lv_has ls 5 [(4, .int (nI i)), (3, .int (nI b)), (0, .ref (G.2.2 71)), (1, .int (nI d)), (2, .int (nI t))] → W xp l xe (uRm 2 48) xs xm xa xb xt xc H locs 0 0 (MQ xb (va_Qi (fun r M2 => r = nI (bsS f d t d) ∧ M2 = M) (fun M' t => uB G M' t) xA) xa xs 0 0 xA) (F0 xm 5 ls []) := by
    intro fU
    induction fU with
    | zero =>
      intro b i hfl i1 i3 i2 H locs ls Z hl
      exfalso
      omega
    | succ fU ih5 =>
      intro b i hfl i1 i3 i2 H locs ls Z hl
      refine lv_iload S.1 S.2.1 dX12_bestOf_5 (lv_at hl 0 rfl) ?_
      refine lv_iload_n S.1 S.2.1 dX12_bestOf_7 rfl (lv_at hl 3 rfl) ?_
      refine lv_icmp_ge (tgt := 43) S.1 S.2.1 dX12_bestOf_8 (by decide) (fun c_1 => ?_) (fun c_1 => ?_)
      · skip
        have c_1 : d ≤ i := (nI_leI (a := d) (b := i) (by omega) (by omega)).mp c_1
        refine lv_iload_n S.1 S.2.1 dX12_bestOf_43 rfl (lv_at hl 1 rfl) ?_
        refine uret_i S hK Z hre hlk dX12_bestOf_44 ?_
        rw [i2, show i = d from by omega]
        exact ⟨rfl, rfl⟩
      · skip
        have c_1 : ¬ d ≤ i := fun z9 => c_1 ((nI_leI (a := d) (b := i) (by omega) (by omega)).mpr z9)
        refine lv_aload_n S.1 S.2.1 dX12_bestOf_11 rfl (lv_at hl 2 rfl) ?_
        refine lv_iload S.1 S.2.1 dX12_bestOf_12 (lv_at hl 0 rfl) ?_
        refine lv_iload_n S.1 S.2.1 dX12_bestOf_14 rfl (lv_at hl 3 rfl) ?_
        refine lv_iload_n S.1 S.2.1 dX12_bestOf_15 rfl (lv_at hl 4 rfl) ?_
        refine ud_Vl (As := [.int (nI i), .int (nI d), .int (nI t)]) (rest := []) S hK hA Z (c_X12_meanOf l G i d t (by omega) (by omega) (by omega) M f hf hf9) (cwV 3 S.2.2.2.2 gX12_bestOf_X12_meanOf rfl rfl rfl (by decide +kernel) ⟨Nat.le_of_ble_eq_true rfl, Nat.le_of_ble_eq_true rfl⟩) (by decide) rfl rfl rfl hl.1 rfl (Nat.le_of_ble_eq_true rfl) dX12_bestOf_16 ⟨Nat.zero_le _, Nat.zero_le _⟩ (fun H locs Z => ?_)
        have hm_2 := mn_bd (t := t) hd (show i < d by omega) (hf9 _ (by omega))
        refine lv_aload_n S.1 S.2.1 dX12_bestOf_19 rfl (lv_at hl 2 rfl) ?_
        refine lv_iload_n S.1 S.2.1 dX12_bestOf_20 rfl (lv_at hl 1 rfl) ?_
        refine lv_iload_n S.1 S.2.1 dX12_bestOf_21 rfl (lv_at hl 3 rfl) ?_
        refine lv_iload_n S.1 S.2.1 dX12_bestOf_22 rfl (lv_at hl 4 rfl) ?_
        refine ud_Vl (As := [.int (nI b), .int (nI d), .int (nI t)]) (rest := [.long (lN (mnS f d t i))]) S hK hA Z (c_X12_meanOf l G b d t (by omega) (by omega) (by omega) M f hf hf9) (cwV 3 S.2.2.2.2 gX12_bestOf_X12_meanOf rfl rfl rfl (by decide +kernel) ⟨Nat.le_of_ble_eq_true rfl, Nat.le_of_ble_eq_true rfl⟩) (by decide) rfl rfl rfl hl.1 rfl (Nat.le_of_ble_eq_true rfl) dX12_bestOf_23 ⟨Nat.zero_le _, Nat.zero_le _⟩ (fun H locs Z => ?_)
        have hm_3 := mn_bd (t := t) hd (show b < d by omega) (hf9 _ (by omega))
        refine W.lcmp S.1 S.2.1 dX12_bestOf_26 ?_
        refine lv_if_le (tgt := 35) S.1 S.2.1 dX12_bestOf_27 (by decide) (fun c_4 => ?_) (fun c_4 => ?_)
        · skip
          have c_4 : (lN (mnS f d t i)) ≤ (lN (mnS f d t b)) := (lg_cmp_le (lN (mnS f d t i)) (lN (mnS f d t b))).mp c_4
          have c_4 : (mnS f d t i) ≤ (mnS f d t b) := (pk_lLE (a := (mnS f d t i)) (b := (mnS f d t b)) (by omega) (by omega)).mp c_4
          refine lv_iload_n S.1 S.2.1 dX12_bestOf_35 rfl (lv_at hl 1 rfl) ?_
          refine lv_istore_n (lv' := [(3, .int (nI b)), (4, .int (nI i)), (0, .ref (G.2.2 71)), (1, .int (nI d)), (2, .int (nI t))]) S.1 S.2.1 dX12_bestOf_36 rfl hl (by decide) rfl (fun ls hl => ?_)
          refine lv_iinc (v := (nI (i + 1))) (lv' := [(4, .int (nI (i + 1))), (3, .int (nI b)), (0, .ref (G.2.2 71)), (1, .int (nI d)), (2, .int (nI t))]) S.1 S.2.1 dX12_bestOf_37 hl (k := 1) rfl (u_inc1 i) (by decide) rfl (fun ls hl => ?_)
          refine lv_goto (tgt := 5) S.1 S.2.1 dX12_bestOf_40 (by decide) ?_
          exact ih5 b (i + 1) (by omega) (by omega) (by omega) (by
              rw [bsS, if_neg (by omega), ← i2]
              first | rw [if_pos (by omega)] | rw [if_neg (by omega)]) _ _ _ Z (lv_sub hl [0, 1, 2, 3, 4] rfl)
        · skip
          have c_4 : ¬ (lN (mnS f d t i)) ≤ (lN (mnS f d t b)) := fun z9 => c_4 ((lg_cmp_le (lN (mnS f d t i)) (lN (mnS f d t b))).mpr z9)
          have c_4 : ¬ (mnS f d t i) ≤ (mnS f d t b) := fun z9 => c_4 ((pk_lLE (a := (mnS f d t i)) (b := (mnS f d t b)) (by omega) (by omega)).mpr z9)
          refine lv_iload S.1 S.2.1 dX12_bestOf_30 (lv_at hl 0 rfl) ?_
          refine lv_goto (tgt := 36) S.1 S.2.1 dX12_bestOf_32 (by decide) ?_
          refine lv_istore_n (lv' := [(3, .int (nI i)), (4, .int (nI i)), (0, .ref (G.2.2 71)), (1, .int (nI d)), (2, .int (nI t))]) S.1 S.2.1 dX12_bestOf_36 rfl hl (by decide) rfl (fun ls hl => ?_)
          refine lv_iinc (v := (nI (i + 1))) (lv' := [(4, .int (nI (i + 1))), (3, .int (nI i)), (0, .ref (G.2.2 71)), (1, .int (nI d)), (2, .int (nI t))]) S.1 S.2.1 dX12_bestOf_37 hl (k := 1) rfl (u_inc1 i) (by decide) rfl (fun ls hl => ?_)
          refine lv_goto (tgt := 5) S.1 S.2.1 dX12_bestOf_40 (by decide) ?_
          exact ih5 i (i + 1) (by omega) (by omega) (by omega) (by
              rw [bsS, if_neg (by omega), ← i2]
              first | rw [if_pos (by omega)] | rw [if_neg (by omega)]) _ _ _ Z (lv_sub hl [0, 1, 2, 3, 4] rfl)
  exact LP5 (d + 1) 0 1 (by omega) (by omega) (by omega) (by rfl) _ _ _ Z (lv_sub hl [0, 1, 2, 3, 4] rfl)
