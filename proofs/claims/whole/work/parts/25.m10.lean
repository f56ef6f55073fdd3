theorem cw_j {d n j : Nat} (h : 0 < j) (hj : j ≤ d) : cw d (n + 1) j = cw d n j * j + cw d n (j - 1) * (d - j + 1) := by
  rw [cw, if_neg (by omega), show d + 1 - j = d - j + 1 from by omega]
theorem mSm_of1 {M M2 : uM} (h : M2.1 = M.1) : mSm M M2 := fun a i _ => by rw [h]
theorem qX12_oneThief_74 : Cond.fieldLink RX12 74 (TX12 33).1 (TX12 33).2.1 (TX12 33).2.2.1 ∈ wsX12_oneThief := List.mem_of_getElem? (i := 1) rfl
theorem iX12_oneThief_X12 : ∀ w ∈ wsX120, w ∈ wsX12_oneThief := fun _ h => List.mem_cons_of_mem _ (List.mem_append_right _ h)
theorem qX12_doors_330 : Cond.constantLong RX12 330 12 ∈ wsX12_doors := List.mem_of_getElem? (i := 1) rfl
theorem qX12_doors_272 : Cond.constantLong RX12 272 10 ∈ wsX12_doors := List.mem_of_getElem? (i := 2) rfl
theorem qX12_doors_74 : Cond.fieldLink RX12 74 (TX12 33).1 (TX12 33).2.1 (TX12 33).2.2.1 ∈ wsX12_doors := List.mem_of_getElem? (i := 4) rfl
theorem iX12_doors_X12 : ∀ w ∈ wsX120, w ∈ wsX12_doors := fun _ h => List.mem_cons_of_mem _ (List.mem_append_right _ h)
theorem qX12_doors_289 : Cond.constantLong RX12 289 (-1000000000000000002) ∈ wsX12_doors := List.mem_of_getElem? (i := 3) rfl
set_option maxHeartbeats 4000000 in
set_option maxRecDepth 100000 in
theorem c_X12_oneThief (l : Launch) (G : uG) (n d : Nat) (hd : d ≤ 10) (M : uM) (hW : ∀ i, i ≤ d → M.2 93 i = lN (cw d n i)) : CTv l G yX12_oneThief wsX12_oneThief 0 0 [.ref (G.2.2 71), .int (nI d)] M (fun M2 => (∀ i, i ≤ d → M2.2 93 i = lN (cw d (n + 1) i)) ∧ M2.1 = M.1) := by
  refine ustart_v (cc := cX12_oneThief) (maxL := 3) (ret := none) (own := RX12) rfl (by decide) rfl (Nat.le_of_ble_eq_true rfl) ?_
  intro xp xe xs xm xa xb xt xc xA ls S hK hA Z hre hlk hl
  have hl : lv_has ls 3 [(0, .ref (G.2.2 71)), (1, .int (nI d))] := hl
  refine lv_iload_n S.1 S.2.1 dX12_oneThief_0 rfl (lv_at hl 1 rfl) ?_
  refine lv_istore_n (lv' := [(2, .int (nI d)), (0, .ref (G.2.2 71)), (1, .int (nI d))]) S.1 S.2.1 dX12_oneThief_1 rfl hl (by decide) rfl (fun ls hl => ?_)
  have LP2 : ∀ (fU : Nat) (j : Nat) (M1 : uM), (j < fU) → (j ≤ d) → (∀ i, i ≤ j → M1.2 93 i = lN (cw d n i)) → (∀ i, j < i → i ≤ d → M1.2 93 i = lN (cw d (n + 1) i)) → (M1.1 = M.1) → ∀ (H : Heap) (locs : List Loc) (ls : Array Slot), uZ G xA M1 xs.heap H locs → lv_has ls 3 [(2, .int (nI j)), (0, .ref (G.2.2 71)), (1, .int (nI d))] → W xp l xe (uRm 0 0) xs xm xa xb xt xc H locs 0 0 (MQ xb (va_Qv (fun M2 => (∀ i, i ≤ d → M2.2 93 i = lN (cw d (n + 1) i)) ∧ M2.1 = M.1) (fun M' t => uB G M' t) xA) xa xs 0 0 xA) (F0 xm 2 ls []) := by
    intro fU
    induction fU with
    | zero =>
      intro j M1 hfl i1 r1 r2 r4 H locs ls Z hl
      exfalso
      omega
    | succ fU ih2 =>
      intro j M1 hfl i1 r1 r2 r4 H locs ls Z hl
      refine lv_iload_n S.1 S.2.1 dX12_oneThief_2 rfl (lv_at hl 0 rfl) ?_
      refine lv_if_le (tgt := 43) S.1 S.2.1 dX12_oneThief_3 (by decide) (fun c_1 => ?_) (fun c_1 => ?_)
      · skip
        have c_1 : j ≤ 0 := (nI_leI (a := j) (b := 0) (by omega) (by omega)).mp c_1
        refine lv_aload_n S.1 S.2.1 dX12_oneThief_43 rfl (lv_at hl 1 rfl) ?_
        refine ug_r S hK Z (j := 33) 93 (by decide) rfl rfl rfl (by decide) iX12_oneThief_X12 qX12_oneThief_74 dX12_oneThief_44 ?_
        refine lv_iconst (v := 0) S.1 S.2.1 dX12_oneThief_47 (by decide) ?_
        refine lv_lconst (v := 0) S.1 S.2.1 dX12_oneThief_48 (by decide) ?_
        refine ua_lst S hK Z 0 (by decide) rfl rfl (by omega) dX12_oneThief_49 (fun H locs Z => ?_)
        refine uret_v S hK Z hre hlk dX12_oneThief_50 ?_
        refine ⟨fun i hi => ?_, r4⟩
        rw [u2_2]
        by_cases z : i = 0
        · subst z
          rw [if_pos ⟨rfl, rfl⟩]
          exact congrArg lN (show 0 = cw d (n + 1) 0 from rfl)
        · rw [if_neg (fun y => z y.2)]
          exact r2 i (by omega) hi
      · skip
        have c_1 : ¬ j ≤ 0 := fun z9 => c_1 ((nI_leI (a := j) (b := 0) (by omega) (by omega)).mpr z9)
        refine lv_aload_n S.1 S.2.1 dX12_oneThief_6 rfl (lv_at hl 1 rfl) ?_
        refine ug_r S hK Z (j := 33) 93 (by decide) rfl rfl rfl (by decide) iX12_oneThief_X12 qX12_oneThief_74 dX12_oneThief_7 ?_
        refine lv_iload_n S.1 S.2.1 dX12_oneThief_10 rfl (lv_at hl 0 rfl) ?_
        refine lv_aload_n S.1 S.2.1 dX12_oneThief_11 rfl (lv_at hl 1 rfl) ?_
        refine ug_r S hK Z (j := 33) 93 (by decide) rfl rfl rfl (by decide) iX12_oneThief_X12 qX12_oneThief_74 dX12_oneThief_12 ?_
        refine lv_iload_n S.1 S.2.1 dX12_oneThief_15 rfl (lv_at hl 0 rfl) ?_
        refine ua_lld S hK Z j (by decide) rfl rfl (by omega) dX12_oneThief_16 ?_
        refine utopl (y := (lN (cw d n j))) (r1 j (by omega)) ?_
        refine lv_iload_n S.1 S.2.1 dX12_oneThief_17 rfl (lv_at hl 0 rfl) ?_
        refine lv_i2l (v := (lN j)) S.1 S.2.1 dX12_oneThief_18 (nI_l (by omega)) ?_
        refine lv_lmul S.1 S.2.1 dX12_oneThief_19 ?_
        refine utopl (lN_mul (cw d n j) j) ?_
        refine lv_aload_n S.1 S.2.1 dX12_oneThief_20 rfl (lv_at hl 1 rfl) ?_
        refine ug_r S hK Z (j := 33) 93 (by decide) rfl rfl rfl (by decide) iX12_oneThief_X12 qX12_oneThief_74 dX12_oneThief_21 ?_
        refine lv_iload_n S.1 S.2.1 dX12_oneThief_24 rfl (lv_at hl 0 rfl) ?_
        refine lv_iconst (v := 1) S.1 S.2.1 dX12_oneThief_25 (by decide) ?_
        refine lv_isub S.1 S.2.1 dX12_oneThief_26 ?_
        refine utop (pk_sub (a := j) (b := 1) (by omega)) ?_
        refine ua_lld S hK Z (j - 1) (by decide) rfl rfl (by omega) dX12_oneThief_27 ?_
        refine utopl (y := (lN (cw d n (j - 1)))) (r1 (j - 1) (by omega)) ?_
        refine lv_iload_n S.1 S.2.1 dX12_oneThief_28 rfl (lv_at hl 2 rfl) ?_
        refine lv_iload_n S.1 S.2.1 dX12_oneThief_29 rfl (lv_at hl 0 rfl) ?_
        refine lv_isub S.1 S.2.1 dX12_oneThief_30 ?_
        refine utop (pk_sub (a := d) (b := j) (by omega)) ?_
        refine lv_iconst (v := 1) S.1 S.2.1 dX12_oneThief_31 (by decide) ?_
        refine lv_iadd S.1 S.2.1 dX12_oneThief_32 ?_
        refine utop (nI_add (d - j) 1) ?_
        refine lv_i2l (v := (lN ((d - j) + 1))) S.1 S.2.1 dX12_oneThief_33 (nI_l (by omega)) ?_
        refine lv_lmul S.1 S.2.1 dX12_oneThief_34 ?_
        refine utopl (lN_mul (cw d n (j - 1)) ((d - j) + 1)) ?_
        refine lv_ladd S.1 S.2.1 dX12_oneThief_35 ?_
        refine utopl (lN_add ((cw d n j) * j) ((cw d n (j - 1)) * ((d - j) + 1))) ?_
        refine ua_lst S hK Z j (by decide) rfl rfl (by omega) dX12_oneThief_36 (fun H locs Z => ?_)
        refine lv_iinc (v := (nI (j - 1))) (lv' := [(2, .int (nI (j - 1))), (0, .ref (G.2.2 71)), (1, .int (nI d))]) S.1 S.2.1 dX12_oneThief_37 hl (k := 0) rfl (u_dec (r := j) (by omega)) (by decide) rfl (fun ls hl => ?_)
        refine lv_goto (tgt := 2) S.1 S.2.1 dX12_oneThief_40 (by decide) ?_
        exact ih2 (j - 1) (u2 M1 93 j (lN (((cw d n j) * j) + ((cw d n (j - 1)) * ((d - j) + 1))))) (by omega) (by omega) (by
            intro i hi
            rw [u2_2, if_neg (by omega)]
            exact r1 i (by omega)) (by
            intro i h1 h2
            rw [u2_2]
            by_cases z : i = j
            · subst z
              rw [if_pos ⟨rfl, rfl⟩, cw_j (by omega) h2]
            · rw [if_neg (fun y => z y.2)]
              exact r2 i (by omega) h2) (by exact r4) _ _ _ Z (lv_sub hl [0, 1, 2] rfl)
  exact LP2 (d + 1) d M (by omega) (by omega) (by exact hW) (by intro i h1 h2; omega) (by rfl) _ _ _ Z (lv_sub hl [0, 1, 2] rfl)
set_option maxHeartbeats 4000000 in
set_option maxRecDepth 100000 in
theorem c_X12_doors (l : Launch) (G : uG) (n d h p : Int32) (M : uM) : CTl l G yX12_doors wsX12_doors 1 30 [.ref (G.2.2 71), .int n, .int d, .int h, .int p] M (fun r M2 => r = spDoors n d h p ∧ mSm M M2) := by
  refine ustart_l (cc := cX12_doors) (maxL := 7) (ret := (some .long)) (own := RX12) rfl (by decide) rfl (Nat.le_of_ble_eq_true rfl) ?_
  intro xp xe xs xm xa xb xt xc xA ls S hK hA Z hre hlk hl
  have hl : lv_has ls 7 [(0, .ref (G.2.2 71)), (1, .int n), (2, .int d), (3, .int h), (4, .int p)] := hl
  refine lv_iload_n S.1 S.2.1 dX12_doors_0 rfl (lv_at hl 1 rfl) ?_
  refine lv_i2l (v := n.toInt64) S.1 S.2.1 dX12_doors_1 rfl ?_
  refine lv_lconst (v := 0) S.1 S.2.1 dX12_doors_2 (by decide) ?_
  refine lv_ldc2 (v := 12) S.1 S.2.1 S.2.2.2.1 (S.2.2.2.2 _ qX12_doors_330) dX12_doors_3 ?_
  refine uc_Si (As := [.long n.toInt64, .long 0, .long 12]) (rest := []) S hK hA Z (c_X12_in l G n 0 12 _ _ _ rfl (by decide) (by decide) M) (va_cwS 3 S.2.2.2.2 gX12_doors_X12_in rfl rfl rfl (by decide +kernel) ⟨Nat.le_of_ble_eq_true rfl, Nat.le_of_ble_eq_true rfl⟩) rfl hl.1 rfl (Nat.le_of_ble_eq_true rfl) dX12_doors_6 ⟨Nat.zero_le _, Nat.zero_le _⟩ (fun r_1 M_1 H locs hp Z => ?_)
  obtain ⟨⟨rfl, w_1⟩ | ⟨rfl, w_1⟩, hM_1⟩ := hp
  · skip
    rw [hM_1] at Z
    refine lv_if_eq (tgt := 45) S.1 S.2.1 dX12_doors_9 (by decide) (fun c => absurd c (by decide)) (fun _ => ?_)
    refine lv_iload_n S.1 S.2.1 dX12_doors_12 rfl (lv_at hl 2 rfl) ?_
    refine lv_i2l (v := d.toInt64) S.1 S.2.1 dX12_doors_13 rfl ?_
    refine lv_lconst (v := 1) S.1 S.2.1 dX12_doors_14 (by decide) ?_
    refine lv_ldc2 (v := 10) S.1 S.2.1 S.2.2.2.1 (S.2.2.2.2 _ qX12_doors_272) dX12_doors_15 ?_
    refine uc_Si (As := [.long d.toInt64, .long 1, .long 10]) (rest := []) S hK hA Z (c_X12_in l G d 1 10 _ _ _ rfl (by decide) (by decide) M) (va_cwS 3 S.2.2.2.2 gX12_doors_X12_in rfl rfl rfl (by decide +kernel) ⟨Nat.le_of_ble_eq_true rfl, Nat.le_of_ble_eq_true rfl⟩) rfl hl.1 rfl (Nat.le_of_ble_eq_true rfl) dX12_doors_18 ⟨Nat.zero_le _, Nat.zero_le _⟩ (fun r_3 M_3 H locs hp Z => ?_)
    obtain ⟨⟨rfl, w_3⟩ | ⟨rfl, w_3⟩, hM_3⟩ := hp
    · skip
      rw [hM_3] at Z
      refine lv_if_eq (tgt := 45) S.1 S.2.1 dX12_doors_21 (by decide) (fun c => absurd c (by decide)) (fun _ => ?_)
      refine lv_iload_n S.1 S.2.1 dX12_doors_24 rfl (lv_at hl 3 rfl) ?_
      refine lv_i2l (v := h.toInt64) S.1 S.2.1 dX12_doors_25 rfl ?_
      refine lv_lconst (v := 0) S.1 S.2.1 dX12_doors_26 (by decide) ?_
      refine lv_lconst (v := 1) S.1 S.2.1 dX12_doors_27 (by decide) ?_
      refine uc_Si (As := [.long h.toInt64, .long 0, .long 1]) (rest := []) S hK hA Z (c_X12_in l G h 0 1 _ _ _ rfl (by decide) (by decide) M) (va_cwS 3 S.2.2.2.2 gX12_doors_X12_in rfl rfl rfl (by decide +kernel) ⟨Nat.le_of_ble_eq_true rfl, Nat.le_of_ble_eq_true rfl⟩) rfl hl.1 rfl (Nat.le_of_ble_eq_true rfl) dX12_doors_28 ⟨Nat.zero_le _, Nat.zero_le _⟩ (fun r_5 M_5 H locs hp Z => ?_)
      obtain ⟨⟨rfl, w_5⟩ | ⟨rfl, w_5⟩, hM_5⟩ := hp
      · skip
        rw [hM_5] at Z
        refine lv_if_eq (tgt := 45) S.1 S.2.1 dX12_doors_31 (by decide) (fun c => absurd c (by decide)) (fun _ => ?_)
        refine lv_iload S.1 S.2.1 dX12_doors_34 (lv_at hl 4 rfl) ?_
        refine lv_i2l (v := p.toInt64) S.1 S.2.1 dX12_doors_36 rfl ?_
        refine lv_lconst (v := 0) S.1 S.2.1 dX12_doors_37 (by decide) ?_
        refine lv_lconst (v := 1) S.1 S.2.1 dX12_doors_38 (by decide) ?_
        refine uc_Si (As := [.long p.toInt64, .long 0, .long 1]) (rest := []) S hK hA Z (c_X12_in l G p 0 1 _ _ _ rfl (by decide) (by decide) M) (va_cwS 3 S.2.2.2.2 gX12_doors_X12_in rfl rfl rfl (by decide +kernel) ⟨Nat.le_of_ble_eq_true rfl, Nat.le_of_ble_eq_true rfl⟩) rfl hl.1 rfl (Nat.le_of_ble_eq_true rfl) dX12_doors_39 ⟨Nat.zero_le _, Nat.zero_le _⟩ (fun r_7 M_7 H locs hp Z => ?_)
        obtain ⟨⟨rfl, w_7⟩ | ⟨rfl, w_7⟩, hM_7⟩ := hp
        · skip
          rw [hM_7] at Z
          refine lv_if_ne (tgt := 49) S.1 S.2.1 dX12_doors_42 (by decide) (fun _ => ?_) (fun c => absurd c (by decide))
          obtain ⟨n1, hn1, rfl⟩ := u_in0 (n := 12) (show inr n 0 12 by assumption) (by decide)
          obtain ⟨d1, hd11, hd1, rfl⟩ := u_in1 (n := 10) (show inr d 1 10 by assumption) (by decide)
          obtain ⟨p1, hp1, rfl⟩ := u_in0 (n := 1) (show inr p 0 1 by assumption) (by decide)
          have hb := dn_bd hd1 hn1
          have hp0 : 0 < d1 ^ n1 := Nat.pow_pos (by omega)
          have hc1 := cw_bd hd1 hn1 n1
          have hc2 := cw_bd hd1 hn1 d1
          refine lv_iconst (v := 0) S.1 S.2.1 dX12_doors_49 (by decide) ?_
          refine lv_istore (lv' := [(5, .int 0), (0, .ref (G.2.2 71)), (1, .int (nI n1)), (2, .int (nI d1)), (3, .int h), (4, .int (nI p1))]) S.1 S.2.1 dX12_doors_50 hl (by decide) rfl (fun ls hl => ?_)
          have LP52 : ∀ (fU : Nat) (j : Nat) (M1 : uM), (11 < j + fU) → (j ≤ d1 + 1) → (∀ i, i < j → M1.2 93 i = lN (cw d1 0 i)) → (M1.1 = M.1) → ∀ (H : Heap) (locs : List Loc) (ls : Array Slot), uZ G xA M1 xs.heap H locs → lv_has ls 7 [(5, .int (nI j)), (0, .ref (G.2.2 71)), (1, .int (nI n1)), (2, .int (nI d1)), (3, .int h), (4, .int (nI p1))] → W xp l xe (uRm 1 30) xs xm xa xb xt xc H locs 0 0 (MQ xb (va_Ql (fun r M2 => r = spDoors (nI n1) (nI d1) h (nI p1) ∧ mSm M M2) (fun M' t => uB G M' t) xA) xa xs 0 0 xA) (F0 xm 52 ls []) := by
            intro fU
            induction fU with
            | zero =>
              intro j M1 hfl i1 i2 i3 H locs ls Z hl
              exfalso
              omega
            | succ fU ih52 =>
              intro j M1 hfl i1 i2 i3 H locs ls Z hl
              refine lv_iload S.1 S.2.1 dX12_doors_52 (lv_at hl 0 rfl) ?_
              refine lv_iload_n S.1 S.2.1 dX12_doors_54 rfl (lv_at hl 3 rfl) ?_
              refine lv_icmp_gt (tgt := 81) S.1 S.2.1 dX12_doors_55 (by decide) (fun c_9 => ?_) (fun c_9 => ?_)
              · skip
                have c_9 : d1 < j := (nI_ltI (a := d1) (b := j) (by omega) (by omega)).mp c_9
                refine lv_iconst (v := 0) S.1 S.2.1 dX12_doors_81 (by decide) ?_
                refine lv_istore (lv' := [(5, .int 0), (0, .ref (G.2.2 71)), (1, .int (nI n1)), (2, .int (nI d1)), (3, .int h), (4, .int (nI p1))]) S.1 S.2.1 dX12_doors_82 hl (by decide) rfl (fun ls hl => ?_)
                have LP84 : ∀ (fU : Nat) (e : Nat) (M2 : uM), (n1 < e + fU) → (e ≤ n1) → (∀ i, i ≤ d1 → M2.2 93 i = lN (cw d1 e i)) → (M2.1 = M.1) → ∀ (H : Heap) (locs : List Loc) (ls : Array Slot), uZ G xA M2 xs.heap H locs → lv_has ls 7 [(5, .int (nI e)), (0, .ref (G.2.2 71)), (1, .int (nI n1)), (2, .int (nI d1)), (3, .int h), (4, .int (nI p1))] → W xp l xe (uRm 1 30) xs xm xa xb xt xc H locs 0 0 (MQ xb (va_Ql (fun r M2 => r = spDoors (nI n1) (nI d1) h (nI p1) ∧ mSm M M2) (fun M' t => uB G M' t) xA) xa xs 0 0 xA) (F0 xm 84 ls []) := by
                  intro fU
                  induction fU with
                  | zero =>
                    intro e M2 hfl k1 k2 k4 H locs ls Z hl
                    exfalso
                    omega
                  | succ fU ih84 =>
                    intro e M2 hfl k1 k2 k4 H locs ls Z hl
                    refine lv_iload S.1 S.2.1 dX12_doors_84 (lv_at hl 0 rfl) ?_
                    refine lv_iload_n S.1 S.2.1 dX12_doors_86 rfl (lv_at hl 2 rfl) ?_
                    refine lv_icmp_ge (tgt := 101) S.1 S.2.1 dX12_doors_87 (by decide) (fun c_10 => ?_) (fun c_10 => ?_)
                    · skip
                      have c_10 : n1 ≤ e := (nI_leI (a := n1) (b := e) (by omega) (by omega)).mp c_10
                      rcases in2 (show inr h 0 1 by assumption) with rfl | rfl
                      · skip
                        have hen : e = n1 := by omega
                        refine lv_iload_n S.1 S.2.1 dX12_doors_101 rfl (lv_at hl 4 rfl) ?_
                        refine lv_iconst (v := 1) S.1 S.2.1 dX12_doors_102 (by decide) ?_
                        refine lv_icmp_ne (tgt := 115) S.1 S.2.1 dX12_doors_103 (by decide) (fun _ => ?_) (fun c => absurd c (by decide))
                        refine lv_iload_n S.1 S.2.1 dX12_doors_115 rfl (lv_at hl 2 rfl) ?_
                        refine lv_iload_n S.1 S.2.1 dX12_doors_116 rfl (lv_at hl 3 rfl) ?_
                        refine lv_icmp_le (tgt := 124) S.1 S.2.1 dX12_doors_117 (by decide) (fun c_12 => ?_) (fun c_12 => ?_)
                        · skip
                          have c_12 : n1 ≤ d1 := (nI_leI (a := n1) (b := d1) (by omega) (by omega)).mp c_12
                          refine lv_aload_n S.1 S.2.1 dX12_doors_124 rfl (lv_at hl 1 rfl) ?_
                          refine ug_r S hK Z (j := 33) 93 (by decide) rfl rfl rfl (by decide) iX12_doors_X12 qX12_doors_74 dX12_doors_125 ?_
                          refine lv_iload_n S.1 S.2.1 dX12_doors_128 rfl (lv_at hl 2 rfl) ?_
                          refine ua_lld S hK Z n1 (by decide) rfl rfl (by omega) dX12_doors_129 ?_
                          refine utopl (y := (lN (cw d1 e n1))) (k2 n1 (by omega)) ?_
                          refine utopl (congrArg (fun z => lN (cw d1 z n1)) hen) ?_
                          refine lv_lstore (lv' := [(5, .long (lN (cw d1 n1 n1))), (0, .ref (G.2.2 71)), (1, .int (nI n1)), (2, .int (nI d1)), (3, .int 0), (4, .int (nI p1))]) S.1 S.2.1 dX12_doors_130 hl (by decide) rfl (fun ls hl => ?_)
                          refine lv_lload S.1 S.2.1 dX12_doors_132 (lv_at hl 0 rfl) ?_
                          refine lv_iload_n S.1 S.2.1 dX12_doors_134 rfl (lv_at hl 3 rfl) ?_
                          refine lv_i2l (v := (lN d1)) S.1 S.2.1 dX12_doors_135 (nI_l (by omega)) ?_
                          refine lv_iload_n S.1 S.2.1 dX12_doors_136 rfl (lv_at hl 2 rfl) ?_
                          refine ud_Sl (As := [.long (lN d1), .int (nI n1)]) (rest := [.long (lN (cw d1 n1 n1))]) S hK hA Z (c_X12_power l G d1 n1 (by omega) (by omega) M2) (va_cwS 2 S.2.2.2.2 gX12_doors_X12_power rfl rfl rfl (by decide +kernel) ⟨Nat.le_of_ble_eq_true rfl, Nat.le_of_ble_eq_true rfl⟩) rfl hl.1 rfl (Nat.le_of_ble_eq_true rfl) dX12_doors_137 ⟨Nat.zero_le _, Nat.zero_le _⟩ (fun H locs Z => ?_)
                          refine lv_iload S.1 S.2.1 dX12_doors_140 (lv_at hl 5 rfl) ?_
                          refine ud_Sl (As := [.long (lN (cw d1 n1 n1)), .long (lN (d1 ^ n1)), .int (nI p1)]) (rest := []) S hK hA Z (c_X12_lowest l G (cw d1 n1 n1) (d1 ^ n1) p1 (by omega) (by omega) (by omega) (by omega) M2) (va_cwS 3 S.2.2.2.2 gX12_doors_X12_lowest rfl rfl rfl (by decide +kernel) ⟨Nat.le_of_ble_eq_true rfl, Nat.le_of_ble_eq_true rfl⟩) rfl hl.1 rfl (Nat.le_of_ble_eq_true rfl) dX12_doors_142 ⟨Nat.zero_le _, Nat.zero_le _⟩ (fun H locs Z => ?_)
                          refine uret_l S hK Z hre hlk dX12_doors_145 ?_
                          rw [spDoors, if_neg (u_no4 (show inr (nI n1) 0 12 by assumption) (show inr (nI d1) 1 10 by assumption) (show inr (0 : Int32) 0 1 from ⟨by decide, by decide⟩) (show inr (nI p1) 0 1 by assumption)), nI_clamp (show n1 < 2 ^ 31 by omega), nI_clamp (show d1 < 2 ^ 31 by omega), nI_clamp (show p1 < 2 ^ 31 by omega), if_pos rfl]
                          exact ⟨rfl, mSm_of1 k4⟩
                        · skip
                          have c_12 : ¬ n1 ≤ d1 := fun z9 => c_12 ((nI_leI (a := n1) (b := d1) (by omega) (by omega)).mpr z9)
                          refine lv_lconst (v := 0) S.1 S.2.1 dX12_doors_120 (by decide) ?_
                          refine lv_goto (tgt := 130) S.1 S.2.1 dX12_doors_121 (by decide) ?_
                          refine utopl (y := lN (cw d1 n1 n1)) (by rw [cw_big d1 n1 n1 (by omega)]; rfl) ?_
                          refine lv_lstore (lv' := [(5, .long (lN (cw d1 n1 n1))), (0, .ref (G.2.2 71)), (1, .int (nI n1)), (2, .int (nI d1)), (3, .int 0), (4, .int (nI p1))]) S.1 S.2.1 dX12_doors_130 hl (by decide) rfl (fun ls hl => ?_)
                          refine lv_lload S.1 S.2.1 dX12_doors_132 (lv_at hl 0 rfl) ?_
                          refine lv_iload_n S.1 S.2.1 dX12_doors_134 rfl (lv_at hl 3 rfl) ?_
                          refine lv_i2l (v := (lN d1)) S.1 S.2.1 dX12_doors_135 (nI_l (by omega)) ?_
                          refine lv_iload_n S.1 S.2.1 dX12_doors_136 rfl (lv_at hl 2 rfl) ?_
                          refine ud_Sl (As := [.long (lN d1), .int (nI n1)]) (rest := [.long (lN (cw d1 n1 n1))]) S hK hA Z (c_X12_power l G d1 n1 (by omega) (by omega) M2) (va_cwS 2 S.2.2.2.2 gX12_doors_X12_power rfl rfl rfl (by decide +kernel) ⟨Nat.le_of_ble_eq_true rfl, Nat.le_of_ble_eq_true rfl⟩) rfl hl.1 rfl (Nat.le_of_ble_eq_true rfl) dX12_doors_137 ⟨Nat.zero_le _, Nat.zero_le _⟩ (fun H locs Z => ?_)
                          refine lv_iload S.1 S.2.1 dX12_doors_140 (lv_at hl 5 rfl) ?_
                          refine ud_Sl (As := [.long (lN (cw d1 n1 n1)), .long (lN (d1 ^ n1)), .int (nI p1)]) (rest := []) S hK hA Z (c_X12_lowest l G (cw d1 n1 n1) (d1 ^ n1) p1 (by omega) (by omega) (by omega) (by omega) M2) (va_cwS 3 S.2.2.2.2 gX12_doors_X12_lowest rfl rfl rfl (by decide +kernel) ⟨Nat.le_of_ble_eq_true rfl, Nat.le_of_ble_eq_true rfl⟩) rfl hl.1 rfl (Nat.le_of_ble_eq_true rfl) dX12_doors_142 ⟨Nat.zero_le _, Nat.zero_le _⟩ (fun H locs Z => ?_)
                          refine uret_l S hK Z hre hlk dX12_doors_145 ?_
                          rw [spDoors, if_neg (u_no4 (show inr (nI n1) 0 12 by assumption) (show inr (nI d1) 1 10 by assumption) (show inr (0 : Int32) 0 1 from ⟨by decide, by decide⟩) (show inr (nI p1) 0 1 by assumption)), nI_clamp (show n1 < 2 ^ 31 by omega), nI_clamp (show d1 < 2 ^ 31 by omega), nI_clamp (show p1 < 2 ^ 31 by omega), if_pos rfl]
                          exact ⟨rfl, mSm_of1 k4⟩
                      · skip
                        have hen : e = n1 := by omega
                        refine lv_iload_n S.1 S.2.1 dX12_doors_101 rfl (lv_at hl 4 rfl) ?_
                        refine lv_iconst (v := 1) S.1 S.2.1 dX12_doors_102 (by decide) ?_
                        refine lv_icmp_ne (tgt := 115) S.1 S.2.1 dX12_doors_103 (by decide) (fun c => absurd c (by decide)) (fun _ => ?_)
                        refine lv_aload_n S.1 S.2.1 dX12_doors_106 rfl (lv_at hl 1 rfl) ?_
                        refine ug_r S hK Z (j := 33) 93 (by decide) rfl rfl rfl (by decide) iX12_doors_X12 qX12_doors_74 dX12_doors_107 ?_
                        refine lv_iload_n S.1 S.2.1 dX12_doors_110 rfl (lv_at hl 3 rfl) ?_
                        refine ua_lld S hK Z d1 (by decide) rfl rfl (by omega) dX12_doors_111 ?_
                        refine utopl (y := (lN (cw d1 e d1))) (k2 d1 (by omega)) ?_
                        refine lv_goto (tgt := 130) S.1 S.2.1 dX12_doors_112 (by decide) ?_
                        refine utopl (congrArg (fun z => lN (cw d1 z d1)) hen) ?_
                        refine lv_lstore (lv' := [(5, .long (lN (cw d1 n1 d1))), (0, .ref (G.2.2 71)), (1, .int (nI n1)), (2, .int (nI d1)), (3, .int 1), (4, .int (nI p1))]) S.1 S.2.1 dX12_doors_130 hl (by decide) rfl (fun ls hl => ?_)
                        refine lv_lload S.1 S.2.1 dX12_doors_132 (lv_at hl 0 rfl) ?_
                        refine lv_iload_n S.1 S.2.1 dX12_doors_134 rfl (lv_at hl 3 rfl) ?_
                        refine lv_i2l (v := (lN d1)) S.1 S.2.1 dX12_doors_135 (nI_l (by omega)) ?_
                        refine lv_iload_n S.1 S.2.1 dX12_doors_136 rfl (lv_at hl 2 rfl) ?_
                        refine ud_Sl (As := [.long (lN d1), .int (nI n1)]) (rest := [.long (lN (cw d1 n1 d1))]) S hK hA Z (c_X12_power l G d1 n1 (by omega) (by omega) M2) (va_cwS 2 S.2.2.2.2 gX12_doors_X12_power rfl rfl rfl (by decide +kernel) ⟨Nat.le_of_ble_eq_true rfl, Nat.le_of_ble_eq_true rfl⟩) rfl hl.1 rfl (Nat.le_of_ble_eq_true rfl) dX12_doors_137 ⟨Nat.zero_le _, Nat.zero_le _⟩ (fun H locs Z => ?_)
                        refine lv_iload S.1 S.2.1 dX12_doors_140 (lv_at hl 5 rfl) ?_
                        refine ud_Sl (As := [.long (lN (cw d1 n1 d1)), .long (lN (d1 ^ n1)), .int (nI p1)]) (rest := []) S hK hA Z (c_X12_lowest l G (cw d1 n1 d1) (d1 ^ n1) p1 (by omega) (by omega) (by omega) (by omega) M2) (va_cwS 3 S.2.2.2.2 gX12_doors_X12_lowest rfl rfl rfl (by decide +kernel) ⟨Nat.le_of_ble_eq_true rfl, Nat.le_of_ble_eq_true rfl⟩) rfl hl.1 rfl (Nat.le_of_ble_eq_true rfl) dX12_doors_142 ⟨Nat.zero_le _, Nat.zero_le _⟩ (fun H locs Z => ?_)
                        refine uret_l S hK Z hre hlk dX12_doors_145 ?_
                        rw [spDoors, if_neg (u_no4 (show inr (nI n1) 0 12 by assumption) (show inr (nI d1) 1 10 by assumption) (show inr (1 : Int32) 0 1 from ⟨by decide, by decide⟩) (show inr (nI p1) 0 1 by assumption)), nI_clamp (show n1 < 2 ^ 31 by omega), nI_clamp (show d1 < 2 ^ 31 by omega), nI_clamp (show p1 < 2 ^ 31 by omega), if_neg (show ¬ (1 : Int32) = 0 by decide)]
                        exact ⟨rfl, mSm_of1 k4⟩
                    · skip
                      have c_10 : ¬ n1 ≤ e := fun z9 => c_10 ((nI_leI (a := n1) (b := e) (by omega) (by omega)).mpr z9)
                      refine lv_aload_n S.1 S.2.1 dX12_doors_90 rfl (lv_at hl 1 rfl) ?_
                      refine lv_iload_n S.1 S.2.1 dX12_doors_91 rfl (lv_at hl 3 rfl) ?_
                      refine uc_Vv (As := [.int (nI d1)]) (rest := []) S hK hA Z (c_X12_oneThief l G e d1 (by omega) M2 k2) (cwV 1 S.2.2.2.2 gX12_doors_X12_oneThief rfl rfl rfl (by decide +kernel) ⟨Nat.le_of_ble_eq_true rfl, Nat.le_of_ble_eq_true rfl⟩) (by decide) rfl rfl rfl hl.1 rfl (Nat.le_of_ble_eq_true rfl) dX12_doors_92 ⟨Nat.zero_le _, Nat.zero_le _⟩ (fun M_20 H locs hp Z => ?_)
                      obtain ⟨t2, t4⟩ := hp
                      refine lv_iinc (v := (nI (e + 1))) (lv' := [(5, .int (nI (e + 1))), (0, .ref (G.2.2 71)), (1, .int (nI n1)), (2, .int (nI d1)), (3, .int h), (4, .int (nI p1))]) S.1 S.2.1 dX12_doors_95 hl (k := 0) rfl (u_inc1 e) (by decide) rfl (fun ls hl => ?_)
                      refine lv_goto (tgt := 84) S.1 S.2.1 dX12_doors_98 (by decide) ?_
                      exact ih84 (e + 1) M_20 (by omega) (by omega) (by exact t2) (by exact t4.trans k4) _ _ _ Z (lv_sub hl [0, 1, 2, 3, 4, 5] rfl)
                exact LP84 (n1 + 1) 0 M1 (by omega) (by omega) (by intro i hi; exact i2 i (by omega)) (by exact i3) _ _ _ Z (lv_sub hl [0, 1, 2, 3, 4, 5] rfl)
              · skip
                have c_9 : ¬ d1 < j := fun z9 => c_9 ((nI_ltI (a := d1) (b := j) (by omega) (by omega)).mpr z9)
                refine lv_aload_n S.1 S.2.1 dX12_doors_58 rfl (lv_at hl 1 rfl) ?_
                refine ug_r S hK Z (j := 33) 93 (by decide) rfl rfl rfl (by decide) iX12_doors_X12 qX12_doors_74 dX12_doors_59 ?_
                refine lv_iload S.1 S.2.1 dX12_doors_62 (lv_at hl 0 rfl) ?_
                refine lv_iload S.1 S.2.1 dX12_doors_64 (lv_at hl 0 rfl) ?_
                refine lv_if_ne (tgt := 73) S.1 S.2.1 dX12_doors_66 (by decide) (fun c_21 => ?_) (fun c_21 => ?_)
                · skip
                  have c_21 : ¬ j = 0 := fun z9 => c_21 ((nI_eq (a := j) (b := 0) (by omega) (by omega)).mpr z9)
                  refine lv_lconst (v := 0) S.1 S.2.1 dX12_doors_73 (by decide) ?_
                  refine ua_lst S hK Z j (by decide) rfl rfl (by omega) dX12_doors_74 (fun H locs Z => ?_)
                  refine lv_iinc (v := (nI (j + 1))) (lv' := [(5, .int (nI (j + 1))), (0, .ref (G.2.2 71)), (1, .int (nI n1)), (2, .int (nI d1)), (3, .int h), (4, .int (nI p1))]) S.1 S.2.1 dX12_doors_75 hl (k := 0) rfl (u_inc1 j) (by decide) rfl (fun ls hl => ?_)
                  refine lv_goto (tgt := 52) S.1 S.2.1 dX12_doors_78 (by decide) ?_
                  exact ih52 (j + 1) (u2 M1 93 j 0) (by omega) (by omega) (by
                      intro i hi
                      rw [u2_2]
                      by_cases z : i = j
                      · subst z
                        rw [if_pos ⟨rfl, rfl⟩]
                        unfold cw
                        first | rw [if_pos (by omega)] <;> rfl | rw [if_neg (by omega)] <;> rfl
                      · rw [if_neg (fun y => z y.2)]
                        exact i2 i (by omega)) (by exact i3) _ _ _ Z (lv_sub hl [0, 1, 2, 3, 4, 5] rfl)
                · skip
                  have c_21 : j = 0 := (nI_eq (a := j) (b := 0) (by omega) (by omega)).mp c_21
                  refine lv_lconst (v := 1) S.1 S.2.1 dX12_doors_69 (by decide) ?_
                  refine lv_goto (tgt := 74) S.1 S.2.1 dX12_doors_70 (by decide) ?_
                  refine ua_lst S hK Z j (by decide) rfl rfl (by omega) dX12_doors_74 (fun H locs Z => ?_)
                  refine lv_iinc (v := (nI (j + 1))) (lv' := [(5, .int (nI (j + 1))), (0, .ref (G.2.2 71)), (1, .int (nI n1)), (2, .int (nI d1)), (3, .int h), (4, .int (nI p1))]) S.1 S.2.1 dX12_doors_75 hl (k := 0) rfl (u_inc1 j) (by decide) rfl (fun ls hl => ?_)
                  refine lv_goto (tgt := 52) S.1 S.2.1 dX12_doors_78 (by decide) ?_
                  exact ih52 (j + 1) (u2 M1 93 j 1) (by omega) (by omega) (by
                      intro i hi
                      rw [u2_2]
                      by_cases z : i = j
                      · subst z
                        rw [if_pos ⟨rfl, rfl⟩]
                        unfold cw
                        first | rw [if_pos (by omega)] <;> rfl | rw [if_neg (by omega)] <;> rfl
                      · rw [if_neg (fun y => z y.2)]
                        exact i2 i (by omega)) (by exact i3) _ _ _ Z (lv_sub hl [0, 1, 2, 3, 4, 5] rfl)
          exact LP52 12 0 M (by omega) (by omega) (by intro i hi; omega) (by rfl) _ _ _ Z (lv_sub hl [0, 1, 2, 3, 4, 5] rfl)
        · skip
          rw [hM_7] at Z
          refine lv_if_ne (tgt := 49) S.1 S.2.1 dX12_doors_42 (by decide) (fun c => absurd c (by decide)) (fun _ => ?_)
          refine lv_ldc2 (v := (-1000000000000000002)) S.1 S.2.1 S.2.2.2.1 (S.2.2.2.2 _ qX12_doors_289) dX12_doors_45 ?_
          refine uret_l S hK Z hre hlk dX12_doors_48 ?_
          rw [spDoors, if_pos (by first | exact Or.inl (by assumption) | exact Or.inr (Or.inl (by assumption)) | exact Or.inr (Or.inr (Or.inl (by assumption))) | exact Or.inr (Or.inr (Or.inr (by assumption))))]
          exact ⟨rfl, mSm_rf _⟩
      · skip
        rw [hM_5] at Z
        refine lv_if_eq (tgt := 45) S.1 S.2.1 dX12_doors_31 (by decide) (fun _ => ?_) (fun c => absurd c (by decide))
        refine lv_ldc2 (v := (-1000000000000000002)) S.1 S.2.1 S.2.2.2.1 (S.2.2.2.2 _ qX12_doors_289) dX12_doors_45 ?_
        refine uret_l S hK Z hre hlk dX12_doors_48 ?_
        rw [spDoors, if_pos (by first | exact Or.inl (by assumption) | exact Or.inr (Or.inl (by assumption)) | exact Or.inr (Or.inr (Or.inl (by assumption))) | exact Or.inr (Or.inr (Or.inr (by assumption))))]
        exact ⟨rfl, mSm_rf _⟩
    · skip
      rw [hM_3] at Z
      refine lv_if_eq (tgt := 45) S.1 S.2.1 dX12_doors_21 (by decide) (fun _ => ?_) (fun c => absurd c (by decide))
      refine lv_ldc2 (v := (-1000000000000000002)) S.1 S.2.1 S.2.2.2.1 (S.2.2.2.2 _ qX12_doors_289) dX12_doors_45 ?_
      refine uret_l S hK Z hre hlk dX12_doors_48 ?_
      rw [spDoors, if_pos (by first | exact Or.inl (by assumption) | exact Or.inr (Or.inl (by assumption)) | exact Or.inr (Or.inr (Or.inl (by assumption))) | exact Or.inr (Or.inr (Or.inr (by assumption))))]
      exact ⟨rfl, mSm_rf _⟩
  · skip
    rw [hM_1] at Z
    refine lv_if_eq (tgt := 45) S.1 S.2.1 dX12_doors_9 (by decide) (fun _ => ?_) (fun c => absurd c (by decide))
    refine lv_ldc2 (v := (-1000000000000000002)) S.1 S.2.1 S.2.2.2.1 (S.2.2.2.2 _ qX12_doors_289) dX12_doors_45 ?_
    refine uret_l S hK Z hre hlk dX12_doors_48 ?_
    rw [spDoors, if_pos (by first | exact Or.inl (by assumption) | exact Or.inr (Or.inl (by assumption)) | exact Or.inr (Or.inr (Or.inl (by assumption))) | exact Or.inr (Or.inr (Or.inr (by assumption))))]
    exact ⟨rfl, mSm_rf _⟩
