theorem qX12_stop_272 : Cond.constantLong RX12 272 10 ∈ wsX12_stop := List.mem_of_getElem? (i := 2) rfl
theorem qX12_stop_289 : Cond.constantLong RX12 289 (-1000000000000000002) ∈ wsX12_stop := List.mem_of_getElem? (i := 1) rfl
set_option maxHeartbeats 4000000 in
set_option maxRecDepth 100000 in
theorem c_X12_stop (l : Launch) (G : uG) (x n t p : Int32) (M : uM) : CTl l G yX12_stop wsX12_stop 3 72 [.ref (G.2.2 71), .int x, .int n, .int t, .int p] M (fun r M2 => SpStop x n t p r ∧ mSm M M2) := by
  refine ustart_l (cc := cX12_stop) (maxL := 5) (ret := (some .long)) (own := RX12) rfl (by decide) rfl (Nat.le_of_ble_eq_true rfl) ?_
  intro xp xe xs xm xa xb xt xc xA ls S hK hA Z hre hlk hl
  have hl : lv_has ls 5 [(0, .ref (G.2.2 71)), (1, .int x), (2, .int n), (3, .int t), (4, .int p)] := hl
  refine lv_aload_n S.1 S.2.1 dX12_stop_0 rfl (lv_at hl 0 rfl) ?_
  refine lv_iload_n S.1 S.2.1 dX12_stop_1 rfl (lv_at hl 1 rfl) ?_
  refine lv_iload_n S.1 S.2.1 dX12_stop_2 rfl (lv_at hl 2 rfl) ?_
  refine lv_iload_n S.1 S.2.1 dX12_stop_3 rfl (lv_at hl 3 rfl) ?_
  refine uc_Vi (As := [.int x, .int n, .int t]) (rest := []) S hK hA Z (c_X12_isStop l G x n t M) (cwV 3 S.2.2.2.2 gX12_stop_X12_isStop rfl rfl rfl (by decide +kernel) ⟨Nat.le_of_ble_eq_true rfl, Nat.le_of_ble_eq_true rfl⟩) (by decide) rfl rfl rfl hl.1 rfl (Nat.le_of_ble_eq_true rfl) dX12_stop_4 ⟨Nat.zero_le _, Nat.zero_le _⟩ (fun r_1 M_1 H locs hp Z => ?_)
  obtain ⟨hsm, ⟨rfl, v, d, dgs, hrow, hv, rfl, hd1, hd, hti, hz, hM, hdg⟩ | ⟨rfl, hno⟩⟩ := hp
  · skip
    subst hM
    obtain ⟨t1, ht1, rfl⟩ := u_in0 (n := 10) hti (by decide)
    have hf : ∀ i, (uAr M 88 dgs).1 88 i = nI (dgs i) := fun i => uAr_g _ _ _ _
    have hf9 : ∀ i, i < d → dgs i ≤ 9 := fun i hi => by rw [hdg i hi]; have := dg_lt v d i; omega
    have hbs := bsS_le dgs d t1 d
    have hbc := bsS_congr (t := t1) hdg d (Nat.le_refl _)
    have hmn := mn_bd (wd := dgs) (t := t1) hd (show bsS dgs d t1 d < d by omega) (hf9 _ (by omega))
    have hpw := pow_lt63 (b := 10) (e := d) (by decide) (by omega)
    have hpp : 0 < 10 ^ d := Nat.pow_pos (by decide)
    refine lv_if_eq (tgt := 21) S.1 S.2.1 dX12_stop_7 (by decide) (fun c => absurd c (by decide)) (fun _ => ?_)
    refine lv_iload S.1 S.2.1 dX12_stop_10 (lv_at hl 4 rfl) ?_
    refine lv_i2l (v := p.toInt64) S.1 S.2.1 dX12_stop_12 rfl ?_
    refine lv_lconst (v := 0) S.1 S.2.1 dX12_stop_13 (by decide) ?_
    refine lv_lconst (v := 1) S.1 S.2.1 dX12_stop_14 (by decide) ?_
    refine uc_Si (As := [.long p.toInt64, .long 0, .long 1]) (rest := []) S hK hA Z (c_X12_in l G p 0 1 _ _ _ rfl (by decide) (by decide) (uAr M 88 dgs)) (va_cwS 3 S.2.2.2.2 gX12_stop_X12_in rfl rfl rfl (by decide +kernel) ⟨Nat.le_of_ble_eq_true rfl, Nat.le_of_ble_eq_true rfl⟩) rfl hl.1 rfl (Nat.le_of_ble_eq_true rfl) dX12_stop_15 ⟨Nat.zero_le _, Nat.zero_le _⟩ (fun r_3 M_3 H locs hp Z => ?_)
    obtain ⟨⟨rfl, w_3⟩ | ⟨rfl, w_3⟩, hM_3⟩ := hp
    · skip
      rw [hM_3] at Z
      refine lv_if_ne (tgt := 25) S.1 S.2.1 dX12_stop_18 (by decide) (fun _ => ?_) (fun c => absurd c (by decide))
      obtain ⟨p1, hp1, rfl⟩ := u_in0 (n := 1) (show inr p 0 1 by assumption) (by decide)
      refine lv_aload_n S.1 S.2.1 dX12_stop_25 rfl (lv_at hl 0 rfl) ?_
      refine lv_aload_n S.1 S.2.1 dX12_stop_26 rfl (lv_at hl 0 rfl) ?_
      refine lv_iload_n S.1 S.2.1 dX12_stop_27 rfl (lv_at hl 2 rfl) ?_
      refine lv_iload_n S.1 S.2.1 dX12_stop_28 rfl (lv_at hl 3 rfl) ?_
      refine ud_Vi (As := [.int (nI d), .int (nI t1)]) (rest := [.ref (G.2.2 71)]) S hK hA Z (c_X12_bestOf l G d t1 hd1 hd ht1 (uAr M 88 dgs) dgs hf hf9) (cwV 2 S.2.2.2.2 gX12_stop_X12_bestOf rfl rfl rfl (by decide +kernel) ⟨Nat.le_of_ble_eq_true rfl, Nat.le_of_ble_eq_true rfl⟩) (by decide) rfl rfl rfl hl.1 rfl (Nat.le_of_ble_eq_true rfl) dX12_stop_29 ⟨Nat.zero_le _, Nat.zero_le _⟩ (fun H locs Z => ?_)
      refine lv_iload_n S.1 S.2.1 dX12_stop_32 rfl (lv_at hl 2 rfl) ?_
      refine lv_iload_n S.1 S.2.1 dX12_stop_33 rfl (lv_at hl 3 rfl) ?_
      refine ud_Vl (As := [.int (nI (bsS dgs d t1 d)), .int (nI d), .int (nI t1)]) (rest := []) S hK hA Z (c_X12_meanOf l G (bsS dgs d t1 d) d t1 (by omega) hd ht1 (uAr M 88 dgs) dgs hf hf9) (cwV 3 S.2.2.2.2 gX12_stop_X12_meanOf rfl rfl rfl (by decide +kernel) ⟨Nat.le_of_ble_eq_true rfl, Nat.le_of_ble_eq_true rfl⟩) (by decide) rfl rfl rfl hl.1 rfl (Nat.le_of_ble_eq_true rfl) dX12_stop_34 ⟨Nat.zero_le _, Nat.zero_le _⟩ (fun H locs Z => ?_)
      refine lv_ldc2 (v := 10) S.1 S.2.1 S.2.2.2.1 (S.2.2.2.2 _ qX12_stop_272) dX12_stop_37 ?_
      refine lv_iload_n S.1 S.2.1 dX12_stop_40 rfl (lv_at hl 2 rfl) ?_
      refine ud_Sl (As := [.long 10, .int (nI d)]) (rest := [.long (lN (mnS dgs d t1 (bsS dgs d t1 d)))]) S hK hA Z (c_X12_power l G 10 d (by omega) (by omega) (uAr M 88 dgs)) (va_cwS 2 S.2.2.2.2 gX12_stop_X12_power rfl rfl rfl (by decide +kernel) ⟨Nat.le_of_ble_eq_true rfl, Nat.le_of_ble_eq_true rfl⟩) rfl hl.1 rfl (Nat.le_of_ble_eq_true rfl) dX12_stop_41 ⟨Nat.zero_le _, Nat.zero_le _⟩ (fun H locs Z => ?_)
      refine lv_iload S.1 S.2.1 dX12_stop_44 (lv_at hl 4 rfl) ?_
      refine ud_Sl (As := [.long (lN (mnS dgs d t1 (bsS dgs d t1 d))), .long (lN (10 ^ d)), .int (nI p1)]) (rest := []) S hK hA Z (c_X12_lowest l G (mnS dgs d t1 (bsS dgs d t1 d)) (10 ^ d) p1 (by omega) (by omega) (by omega) (by omega) (uAr M 88 dgs)) (va_cwS 3 S.2.2.2.2 gX12_stop_X12_lowest rfl rfl rfl (by decide +kernel) ⟨Nat.le_of_ble_eq_true rfl, Nat.le_of_ble_eq_true rfl⟩) rfl hl.1 rfl (Nat.le_of_ble_eq_true rfl) dX12_stop_46 ⟨Nat.zero_le _, Nat.zero_le _⟩ (fun H locs Z => ?_)
      refine uret_l S hK Z hre hlk dX12_stop_49 ?_
      refine ⟨Or.inr ⟨u_inn0 (by omega) (by decide), u_inn0 (by omega) (by decide), v, d, hrow, hv, rfl, hd1, hd, hz, ?_⟩, hsm⟩
      rw [nI_clamp (show t1 < 2 ^ 31 by omega), nI_clamp (show p1 < 2 ^ 31 by omega)]
      obtain ⟨z1, z2⟩ := stop_low (wd := dg v d) (t := t1) hd1
      rw [← hbc, ← mnS_congr (hdg _ (by omega))] at z1 z2
      by_cases y : p1 = 0
      · rw [if_pos y, if_pos y, z1]
      · rw [if_neg y, if_neg y, z2]
    · skip
      rw [hM_3] at Z
      refine lv_if_ne (tgt := 25) S.1 S.2.1 dX12_stop_18 (by decide) (fun c => absurd c (by decide)) (fun _ => ?_)
      refine lv_ldc2 (v := (-1000000000000000002)) S.1 S.2.1 S.2.2.2.1 (S.2.2.2.2 _ qX12_stop_289) dX12_stop_21 ?_
      refine uret_l S hK Z hre hlk dX12_stop_24 ?_
      first
        | exact ⟨Or.inl ⟨Or.inr hno, rfl⟩, hsm⟩
        | exact ⟨Or.inl ⟨Or.inl (by assumption), rfl⟩, hsm⟩
  · skip
    refine lv_if_eq (tgt := 21) S.1 S.2.1 dX12_stop_7 (by decide) (fun _ => ?_) (fun c => absurd c (by decide))
    refine lv_ldc2 (v := (-1000000000000000002)) S.1 S.2.1 S.2.2.2.1 (S.2.2.2.2 _ qX12_stop_289) dX12_stop_21 ?_
    refine uret_l S hK Z hre hlk dX12_stop_24 ?_
    first
      | exact ⟨Or.inl ⟨Or.inr hno, rfl⟩, hsm⟩
      | exact ⟨Or.inl ⟨Or.inl (by assumption), rfl⟩, hsm⟩
set_option maxHeartbeats 4000000 in
set_option maxRecDepth 100000 in
theorem c_X12_sells (l : Launch) (G : uG) (x n t : Int32) (M : uM) : CTi l G yX12_sells wsX12_sells 3 72 [.ref (G.2.2 71), .int x, .int n, .int t] M (fun r M2 => SpSells x n t r ∧ mSm M M2) := by
  refine ustart_i (cc := cX12_sells) (maxL := 4) (ret := (some .int)) (own := RX12) rfl (by decide) rfl (Nat.le_of_ble_eq_true rfl) ?_
  intro xp xe xs xm xa xb xt xc xA ls S hK hA Z hre hlk hl
  have hl : lv_has ls 4 [(0, .ref (G.2.2 71)), (1, .int x), (2, .int n), (3, .int t)] := hl
  refine lv_aload_n S.1 S.2.1 dX12_sells_0 rfl (lv_at hl 0 rfl) ?_
  refine lv_iload_n S.1 S.2.1 dX12_sells_1 rfl (lv_at hl 1 rfl) ?_
  refine lv_iload_n S.1 S.2.1 dX12_sells_2 rfl (lv_at hl 2 rfl) ?_
  refine lv_iload_n S.1 S.2.1 dX12_sells_3 rfl (lv_at hl 3 rfl) ?_
  refine uc_Vi (As := [.int x, .int n, .int t]) (rest := []) S hK hA Z (c_X12_isStop l G x n t M) (cwV 3 S.2.2.2.2 gX12_sells_X12_isStop rfl rfl rfl (by decide +kernel) ⟨Nat.le_of_ble_eq_true rfl, Nat.le_of_ble_eq_true rfl⟩) (by decide) rfl rfl rfl hl.1 rfl (Nat.le_of_ble_eq_true rfl) dX12_sells_4 ⟨Nat.zero_le _, Nat.zero_le _⟩ (fun r_1 M_1 H locs hp Z => ?_)
  obtain ⟨hsm, ⟨rfl, v, d, dgs, hrow, hv, rfl, hd1, hd, hti, hz, hM, hdg⟩ | ⟨rfl, hno⟩⟩ := hp
  · skip
    subst hM
    obtain ⟨t1, ht1, rfl⟩ := u_in0 (n := 10) hti (by decide)
    have hf : ∀ i, (uAr M 88 dgs).1 88 i = nI (dgs i) := fun i => uAr_g _ _ _ _
    have hf9 : ∀ i, i < d → dgs i ≤ 9 := fun i hi => by rw [hdg i hi]; have := dg_lt v d i; omega
    have hbs := bsS_le dgs d t1 d
    have hbc := bsS_congr (t := t1) hdg d (Nat.le_refl _)
    have hmn := mn_bd (wd := dgs) (t := t1) hd (show bsS dgs d t1 d < d by omega) (hf9 _ (by omega))
    have hpw := pow_lt63 (b := 10) (e := d) (by decide) (by omega)
    have hpp : 0 < 10 ^ d := Nat.pow_pos (by decide)
    refine lv_if_eq (tgt := 19) S.1 S.2.1 dX12_sells_7 (by decide) (fun c => absurd c (by decide)) (fun _ => ?_)
    refine lv_aload_n S.1 S.2.1 dX12_sells_10 rfl (lv_at hl 0 rfl) ?_
    refine lv_iload_n S.1 S.2.1 dX12_sells_11 rfl (lv_at hl 2 rfl) ?_
    refine lv_iload_n S.1 S.2.1 dX12_sells_12 rfl (lv_at hl 3 rfl) ?_
    refine ud_Vi (As := [.int (nI d), .int (nI t1)]) (rest := []) S hK hA Z (c_X12_bestOf l G d t1 hd1 hd ht1 (uAr M 88 dgs) dgs hf hf9) (cwV 2 S.2.2.2.2 gX12_sells_X12_bestOf rfl rfl rfl (by decide +kernel) ⟨Nat.le_of_ble_eq_true rfl, Nat.le_of_ble_eq_true rfl⟩) (by decide) rfl rfl rfl hl.1 rfl (Nat.le_of_ble_eq_true rfl) dX12_sells_13 ⟨Nat.zero_le _, Nat.zero_le _⟩ (fun H locs Z => ?_)
    refine lv_goto (tgt := 21) S.1 S.2.1 dX12_sells_16 (by decide) ?_
    refine uret_i S hK Z hre hlk dX12_sells_21 ?_
    refine ⟨Or.inr ⟨u_inn0 (by omega) (by decide), v, d, hrow, hv, rfl, hd1, hd, hz, ?_⟩, hsm⟩
    rw [nI_clamp (show t1 < 2 ^ 31 by omega), jS_bs (dg v d) t1 d (Nat.le_refl _), hbc]
  · skip
    refine lv_if_eq (tgt := 19) S.1 S.2.1 dX12_sells_7 (by decide) (fun _ => ?_) (fun c => absurd c (by decide))
    refine lv_bipush (v := (-2)) S.1 S.2.1 dX12_sells_19 (by decide) ?_
    refine uret_i S hK Z hre hlk dX12_sells_21 ?_
    exact ⟨Or.inl ⟨hno, rfl⟩, hsm⟩
