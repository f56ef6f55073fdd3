theorem qX12_year_107 : Cond.constantLong RX12 107 9999 ∈ wsX12_year := List.mem_of_getElem? (i := 1) rfl
theorem qX12_year_105 : Cond.constantLong RX12 105 99 ∈ wsX12_year := List.mem_of_getElem? (i := 2) rfl
theorem qX12_year_237 : Cond.constantLong RX12 237 2 ∈ wsX12_year := List.mem_of_getElem? (i := 3) rfl
theorem qX12_year_22 : Cond.fieldLink RX12 22 (TX12 4).1 (TX12 4).2.1 (TX12 4).2.2.1 ∈ wsX12_year := List.mem_of_getElem? (i := 7) rfl
theorem iX12_year_X12 : ∀ w ∈ wsX120, w ∈ wsX12_year := fun _ h => List.mem_cons_of_mem _ (List.mem_append_right _ h)
theorem qX12_year_335 : Cond.constantLong RX12 335 75 ∈ wsX12_year := List.mem_of_getElem? (i := 4) rfl
theorem qX12_year_337 : Cond.constantLong RX12 337 74 ∈ wsX12_year := List.mem_of_getElem? (i := 5) rfl
theorem qX12_year_339 : Cond.constantLong RX12 339 65537 ∈ wsX12_year := List.mem_of_getElem? (i := 6) rfl
set_option maxHeartbeats 4000000 in
set_option maxRecDepth 100000 in
theorem c_X12_actBy (l : Launch) (G : uG) (d : Nat) (hd : d < 8) (M : uM) : CTi l G yX12_actBy wsX12_actBy 0 0 [.int (nI d)] M (fun r M2 => r = nI (yk d) ∧ M2 = M) := by
  refine ustart_i (cc := cX12_actBy) (maxL := 1) (ret := (some .int)) (own := RX12) rfl (by decide) rfl (Nat.le_of_ble_eq_true rfl) ?_
  intro xp xe xs xm xa xb xt xc xA ls S hK hA Z hre hlk hl
  have hl : lv_has ls 1 [(0, .int (nI d))] := hl
  refine lv_iload_n S.1 S.2.1 dX12_actBy_0 rfl (lv_at hl 0 rfl) ?_
  by_cases k_1 : (nI d) = 0
  · skip
    refine utop k_1 ?_
    have k_1 : d = 0 := (nI_eq (a := d) (b := 0) (by omega) (by omega)).mp k_1
    refine lv_tableIn (tgt := 40) S.1 S.2.1 dX12_actBy_1 (by decide) (by decide) rfl (by decide) ?_
    refine lv_iconst (v := 0) S.1 S.2.1 dX12_actBy_40 (by decide) ?_
    refine uret_i S hK Z hre hlk dX12_actBy_41 ?_
    refine ⟨?_, rfl⟩
    unfold yk
    first
      | (rw [if_pos (by omega)]; rfl)
      | (rw [if_neg (by omega), if_pos (by omega)]; rfl)
      | (rw [if_neg (by omega), if_neg (by omega), if_pos (by omega)]; rfl)
      | (rw [if_neg (by omega), if_neg (by omega), if_neg (by omega), if_pos (by omega)]; rfl)
      | (rw [if_neg (by omega), if_neg (by omega), if_neg (by omega), if_neg (by omega)]; rfl)
  · skip
    have jk_1 : ¬ d = 0 := fun z9 => k_1 ((nI_eq (a := d) (b := 0) (by omega) (by omega)).mpr z9)
    by_cases k_2 : (nI d) = 1
    · skip
      refine utop k_2 ?_
      have k_2 : d = 1 := (nI_eq (a := d) (b := 1) (by omega) (by omega)).mp k_2
      refine lv_tableIn (tgt := 40) S.1 S.2.1 dX12_actBy_1 (by decide) (by decide) rfl (by decide) ?_
      refine lv_iconst (v := 0) S.1 S.2.1 dX12_actBy_40 (by decide) ?_
      refine uret_i S hK Z hre hlk dX12_actBy_41 ?_
      refine ⟨?_, rfl⟩
      unfold yk
      first
        | (rw [if_pos (by omega)]; rfl)
        | (rw [if_neg (by omega), if_pos (by omega)]; rfl)
        | (rw [if_neg (by omega), if_neg (by omega), if_pos (by omega)]; rfl)
        | (rw [if_neg (by omega), if_neg (by omega), if_neg (by omega), if_pos (by omega)]; rfl)
        | (rw [if_neg (by omega), if_neg (by omega), if_neg (by omega), if_neg (by omega)]; rfl)
    · skip
      have jk_2 : ¬ d = 1 := fun z9 => k_2 ((nI_eq (a := d) (b := 1) (by omega) (by omega)).mpr z9)
      by_cases k_3 : (nI d) = 2
      · skip
        refine utop k_3 ?_
        have k_3 : d = 2 := (nI_eq (a := d) (b := 2) (by omega) (by omega)).mp k_3
        refine lv_tableIn (tgt := 40) S.1 S.2.1 dX12_actBy_1 (by decide) (by decide) rfl (by decide) ?_
        refine lv_iconst (v := 0) S.1 S.2.1 dX12_actBy_40 (by decide) ?_
        refine uret_i S hK Z hre hlk dX12_actBy_41 ?_
        refine ⟨?_, rfl⟩
        unfold yk
        first
          | (rw [if_pos (by omega)]; rfl)
          | (rw [if_neg (by omega), if_pos (by omega)]; rfl)
          | (rw [if_neg (by omega), if_neg (by omega), if_pos (by omega)]; rfl)
          | (rw [if_neg (by omega), if_neg (by omega), if_neg (by omega), if_pos (by omega)]; rfl)
          | (rw [if_neg (by omega), if_neg (by omega), if_neg (by omega), if_neg (by omega)]; rfl)
      · skip
        have jk_3 : ¬ d = 2 := fun z9 => k_3 ((nI_eq (a := d) (b := 2) (by omega) (by omega)).mpr z9)
        by_cases k_4 : (nI d) = 3
        · skip
          refine utop k_4 ?_
          have k_4 : d = 3 := (nI_eq (a := d) (b := 3) (by omega) (by omega)).mp k_4
          refine lv_tableIn (tgt := 42) S.1 S.2.1 dX12_actBy_1 (by decide) (by decide) rfl (by decide) ?_
          refine lv_iconst (v := 1) S.1 S.2.1 dX12_actBy_42 (by decide) ?_
          refine uret_i S hK Z hre hlk dX12_actBy_43 ?_
          refine ⟨?_, rfl⟩
          unfold yk
          first
            | (rw [if_pos (by omega)]; rfl)
            | (rw [if_neg (by omega), if_pos (by omega)]; rfl)
            | (rw [if_neg (by omega), if_neg (by omega), if_pos (by omega)]; rfl)
            | (rw [if_neg (by omega), if_neg (by omega), if_neg (by omega), if_pos (by omega)]; rfl)
            | (rw [if_neg (by omega), if_neg (by omega), if_neg (by omega), if_neg (by omega)]; rfl)
        · skip
          have jk_4 : ¬ d = 3 := fun z9 => k_4 ((nI_eq (a := d) (b := 3) (by omega) (by omega)).mpr z9)
          by_cases k_5 : (nI d) = 4
          · skip
            refine utop k_5 ?_
            have k_5 : d = 4 := (nI_eq (a := d) (b := 4) (by omega) (by omega)).mp k_5
            refine lv_tableIn (tgt := 44) S.1 S.2.1 dX12_actBy_1 (by decide) (by decide) rfl (by decide) ?_
            refine lv_iconst (v := 2) S.1 S.2.1 dX12_actBy_44 (by decide) ?_
            refine uret_i S hK Z hre hlk dX12_actBy_45 ?_
            refine ⟨?_, rfl⟩
            unfold yk
            first
              | (rw [if_pos (by omega)]; rfl)
              | (rw [if_neg (by omega), if_pos (by omega)]; rfl)
              | (rw [if_neg (by omega), if_neg (by omega), if_pos (by omega)]; rfl)
              | (rw [if_neg (by omega), if_neg (by omega), if_neg (by omega), if_pos (by omega)]; rfl)
              | (rw [if_neg (by omega), if_neg (by omega), if_neg (by omega), if_neg (by omega)]; rfl)
          · skip
            have jk_5 : ¬ d = 4 := fun z9 => k_5 ((nI_eq (a := d) (b := 4) (by omega) (by omega)).mpr z9)
            by_cases k_6 : (nI d) = 5
            · skip
              refine utop k_6 ?_
              have k_6 : d = 5 := (nI_eq (a := d) (b := 5) (by omega) (by omega)).mp k_6
              refine lv_tableIn (tgt := 46) S.1 S.2.1 dX12_actBy_1 (by decide) (by decide) rfl (by decide) ?_
              refine lv_iconst (v := 3) S.1 S.2.1 dX12_actBy_46 (by decide) ?_
              refine uret_i S hK Z hre hlk dX12_actBy_47 ?_
              refine ⟨?_, rfl⟩
              unfold yk
              first
                | (rw [if_pos (by omega)]; rfl)
                | (rw [if_neg (by omega), if_pos (by omega)]; rfl)
                | (rw [if_neg (by omega), if_neg (by omega), if_pos (by omega)]; rfl)
                | (rw [if_neg (by omega), if_neg (by omega), if_neg (by omega), if_pos (by omega)]; rfl)
                | (rw [if_neg (by omega), if_neg (by omega), if_neg (by omega), if_neg (by omega)]; rfl)
            · skip
              have jk_6 : ¬ d = 5 := fun z9 => k_6 ((nI_eq (a := d) (b := 5) (by omega) (by omega)).mpr z9)
              have tk_1 := lv_neT k_1 (show (0 : Int32).toInt = 0 from by decide)
              have tk_2 := lv_neT k_2 (show (1 : Int32).toInt = 1 from by decide)
              have tk_3 := lv_neT k_3 (show (2 : Int32).toInt = 2 from by decide)
              have tk_4 := lv_neT k_4 (show (3 : Int32).toInt = 3 from by decide)
              have tk_5 := lv_neT k_5 (show (4 : Int32).toInt = 4 from by decide)
              have tk_6 := lv_neT k_6 (show (5 : Int32).toInt = 5 from by decide)
              refine lv_tableOut (tgt := 48) S.1 S.2.1 dX12_actBy_1 (by omega) (by decide) ?_
              refine lv_iconst (v := 4) S.1 S.2.1 dX12_actBy_48 (by decide) ?_
              refine uret_i S hK Z hre hlk dX12_actBy_49 ?_
              refine ⟨?_, rfl⟩
              unfold yk
              first
                | (rw [if_pos (by omega)]; rfl)
                | (rw [if_neg (by omega), if_pos (by omega)]; rfl)
                | (rw [if_neg (by omega), if_neg (by omega), if_pos (by omega)]; rfl)
                | (rw [if_neg (by omega), if_neg (by omega), if_neg (by omega), if_pos (by omega)]; rfl)
                | (rw [if_neg (by omega), if_neg (by omega), if_neg (by omega), if_neg (by omega)]; rfl)
set_option maxHeartbeats 4000000 in
set_option maxRecDepth 100000 in
theorem c_X12_year (l : Launch) (G : uG) (h n x : Int32) (M : uM) (w : Nat → Nat → Nat) (hr : uMd M w) (hw : wOk w) : CTi l G yX12_year wsX12_year 3 71 [.ref (G.2.2 71), .int h, .int n, .int x] M (fun r M2 => r = spYear w h n x ∧ mSm M M2) := by
  obtain ⟨h0, hh0⟩ := uAr_ex M 85
  refine ustart_i (cc := cX12_year) (maxL := 9) (ret := (some .int)) (own := RX12) rfl (by decide) rfl (Nat.le_of_ble_eq_true rfl) ?_
  intro xp xe xs xm xa xb xt xc xA ls S hK hA Z hre hlk hl
  have hl : lv_has ls 9 [(0, .ref (G.2.2 71)), (1, .int h), (2, .int n), (3, .int x)] := hl
  refine lv_iload_n S.1 S.2.1 dX12_year_0 rfl (lv_at hl 1 rfl) ?_
  refine lv_i2l (v := h.toInt64) S.1 S.2.1 dX12_year_1 rfl ?_
  refine lv_lconst (v := 0) S.1 S.2.1 dX12_year_2 (by decide) ?_
  refine lv_ldc2 (v := 9999) S.1 S.2.1 S.2.2.2.1 (S.2.2.2.2 _ qX12_year_107) dX12_year_3 ?_
  refine uc_Si (As := [.long h.toInt64, .long 0, .long 9999]) (rest := []) S hK hA Z (c_X12_in l G h 0 9999 _ _ _ rfl (by decide) (by decide) M) (va_cwS 3 S.2.2.2.2 gX12_year_X12_in rfl rfl rfl (by decide +kernel) ⟨Nat.le_of_ble_eq_true rfl, Nat.le_of_ble_eq_true rfl⟩) rfl hl.1 rfl (Nat.le_of_ble_eq_true rfl) dX12_year_6 ⟨Nat.zero_le _, Nat.zero_le _⟩ (fun r_1 M_1 H locs hp Z => ?_)
  obtain ⟨⟨rfl, w_1⟩ | ⟨rfl, w_1⟩, hM_1⟩ := hp
  · skip
    rw [hM_1] at Z
    refine lv_if_eq (tgt := 36) S.1 S.2.1 dX12_year_9 (by decide) (fun c => absurd c (by decide)) (fun _ => ?_)
    refine lv_iload_n S.1 S.2.1 dX12_year_12 rfl (lv_at hl 2 rfl) ?_
    refine lv_i2l (v := n.toInt64) S.1 S.2.1 dX12_year_13 rfl ?_
    refine lv_lconst (v := 1) S.1 S.2.1 dX12_year_14 (by decide) ?_
    refine lv_ldc2 (v := 99) S.1 S.2.1 S.2.2.2.1 (S.2.2.2.2 _ qX12_year_105) dX12_year_15 ?_
    refine uc_Si (As := [.long n.toInt64, .long 1, .long 99]) (rest := []) S hK hA Z (c_X12_in l G n 1 99 _ _ _ rfl (by decide) (by decide) M) (va_cwS 3 S.2.2.2.2 gX12_year_X12_in rfl rfl rfl (by decide +kernel) ⟨Nat.le_of_ble_eq_true rfl, Nat.le_of_ble_eq_true rfl⟩) rfl hl.1 rfl (Nat.le_of_ble_eq_true rfl) dX12_year_18 ⟨Nat.zero_le _, Nat.zero_le _⟩ (fun r_3 M_3 H locs hp Z => ?_)
    obtain ⟨⟨rfl, w_3⟩ | ⟨rfl, w_3⟩, hM_3⟩ := hp
    · skip
      rw [hM_3] at Z
      refine lv_if_eq (tgt := 36) S.1 S.2.1 dX12_year_21 (by decide) (fun c => absurd c (by decide)) (fun _ => ?_)
      refine lv_iload_n S.1 S.2.1 dX12_year_24 rfl (lv_at hl 3 rfl) ?_
      refine lv_i2l (v := x.toInt64) S.1 S.2.1 dX12_year_25 rfl ?_
      refine lv_lconst (v := 0) S.1 S.2.1 dX12_year_26 (by decide) ?_
      refine lv_ldc2 (v := 2) S.1 S.2.1 S.2.2.2.1 (S.2.2.2.2 _ qX12_year_237) dX12_year_27 ?_
      refine uc_Si (As := [.long x.toInt64, .long 0, .long 2]) (rest := []) S hK hA Z (c_X12_in l G x 0 2 _ _ _ rfl (by decide) (by decide) M) (va_cwS 3 S.2.2.2.2 gX12_year_X12_in rfl rfl rfl (by decide +kernel) ⟨Nat.le_of_ble_eq_true rfl, Nat.le_of_ble_eq_true rfl⟩) rfl hl.1 rfl (Nat.le_of_ble_eq_true rfl) dX12_year_30 ⟨Nat.zero_le _, Nat.zero_le _⟩ (fun r_5 M_5 H locs hp Z => ?_)
      obtain ⟨⟨rfl, w_5⟩ | ⟨rfl, w_5⟩, hM_5⟩ := hp
      · skip
        rw [hM_5] at Z
        refine lv_if_ne (tgt := 39) S.1 S.2.1 dX12_year_33 (by decide) (fun _ => ?_) (fun c => absurd c (by decide))
        obtain ⟨j, hj, rfl⟩ := u_in0 (n := 9999) (show inr h 0 9999 by assumption) (by decide)
        obtain ⟨q, hq1, hq, rfl⟩ := u_in1 (n := 99) (show inr n 1 99 by assumption) (by decide)
        refine lv_aload_n S.1 S.2.1 dX12_year_39 rfl (lv_at hl 0 rfl) ?_
        refine uc_Vv (As := []) (rest := []) S hK hA Z ((by have h9 := c_X12_keepNow l G M w hr h0; rw [hh0] at h9; exact h9)) (cwV 0 S.2.2.2.2 gX12_year_X12_keepNow rfl rfl rfl (by decide +kernel) ⟨Nat.le_of_ble_eq_true rfl, Nat.le_of_ble_eq_true rfl⟩) (by decide) rfl rfl rfl hl.1 rfl (Nat.le_of_ble_eq_true rfl) dX12_year_40 ⟨Nat.zero_le _, Nat.zero_le _⟩ (fun M_7 H locs hp Z => ?_)
        obtain ⟨hd, hM, hdd⟩ := hp
        obtain ⟨B, hB⟩ : ∃ B, B = uAr M 85 hd := ⟨_, rfl⟩
        rw [hM, ← hB] at Z
        have hBs : mSm M B := by
          rw [hB]
          exact mSm_r (mSm_rf _) (by decide)
        have hBd : uMd B w := uMd_sm hr hBs
        have hB2 : mSm M (uPM B w) := by
          rw [show uPM B w = B from hBd]
          exact hBs
        have hB85 : ∀ i, B.1 85 i = nI (hd i) := fun i => by
          rw [hB]
          exact uAr_g _ _ _ _
        obtain ⟨sl0, cm0, ba, wy, fs, ft, hmn⟩ := uMn_ex B
        have Z := uZ_eq (show B = uPM (uMn B sl0 cm0 ba wy fs ft) w from by rw [hmn]; exact hBd.symm) Z
        refine lv_iload_n S.1 S.2.1 dX12_year_43 rfl (lv_at hl 1 rfl) ?_
        refine lv_istore (lv' := [(4, .int (nI j)), (0, .ref (G.2.2 71)), (1, .int (nI j)), (2, .int (nI q)), (3, .int x)]) S.1 S.2.1 dX12_year_44 hl (by decide) rfl (fun ls hl => ?_)
        refine lv_iconst (v := 0) S.1 S.2.1 dX12_year_46 (by decide) ?_
        refine lv_istore (lv' := [(5, .int 0), (4, .int (nI j)), (0, .ref (G.2.2 71)), (1, .int (nI j)), (2, .int (nI q)), (3, .int x)]) S.1 S.2.1 dX12_year_47 hl (by decide) rfl (fun ls hl => ?_)
        have LP49 : ∀ (fU : Nat) (y : Nat) (e : Nat) (w1 : Nat → Nat → Nat) (sl : Nat) (cm : Nat), (q < e + fU) → (e ≤ q ∧ y ≤ 65536) → ((y, w1) = yr e (j, w)) → (wOk w1) → (sameR w1 w) → ∀ (H : Heap) (locs : List Loc) (ls : Array Slot), uZ G xA (uPM (uMn B sl cm ba wy fs ft) w1) xs.heap H locs → lv_has ls 9 [(5, .int (nI e)), (4, .int (nI y)), (0, .ref (G.2.2 71)), (1, .int (nI j)), (2, .int (nI q)), (3, .int x)] → W xp l xe (uRm 3 71) xs xm xa xb xt xc H locs 0 0 (MQ xb (va_Qi (fun r M2 => r = spYear w (nI j) (nI q) x ∧ mSm M M2) (fun M' t => uB G M' t) xA) xa xs 0 0 xA) (F0 xm 49 ls []) := by
          intro fU
          induction fU with
          | zero =>
            intro y e w1 sl cm hfl i1 i2 i3 i4 H locs ls Z hl
            exfalso
            omega
          | succ fU ih49 =>
            intro y e w1 sl cm hfl i1 i2 i3 i4 H locs ls Z hl
            refine lv_iload S.1 S.2.1 dX12_year_49 (lv_at hl 0 rfl) ?_
            refine lv_iload_n S.1 S.2.1 dX12_year_51 rfl (lv_at hl 4 rfl) ?_
            refine lv_icmp_ge (tgt := 148) S.1 S.2.1 dX12_year_52 (by decide) (fun c_8 => ?_) (fun c_8 => ?_)
            · skip
              have c_8 : q ≤ e := (nI_leI (a := q) (b := e) (by omega) (by omega)).mp c_8
              rcases in3 (show inr x 0 2 by assumption) with rfl | rfl | rfl
              · skip
                refine lv_aload_n S.1 S.2.1 dX12_year_148 rfl (lv_at hl 2 rfl) ?_
                refine lv_iload_n S.1 S.2.1 dX12_year_149 rfl (lv_at hl 5 rfl) ?_
                refine lv_if_ne (tgt := 160) S.1 S.2.1 dX12_year_150 (by decide) (fun c => absurd c (by decide)) (fun _ => ?_)
                refine lv_aload_n S.1 S.2.1 dX12_year_153 rfl (lv_at hl 2 rfl) ?_
                refine ud_Vi (As := []) (rest := [.ref (G.2.2 71)]) S hK hA Z (c_X12_fitForSale l G (uPM (uMn B sl cm ba wy fs ft) w1) w1 (uPM_md _ _) i3) (cwV 0 S.2.2.2.2 gX12_year_X12_fitForSale rfl rfl rfl (by decide +kernel) ⟨Nat.le_of_ble_eq_true rfl, Nat.le_of_ble_eq_true rfl⟩) (by decide) rfl rfl rfl hl.1 rfl (Nat.le_of_ble_eq_true rfl) dX12_year_154 ⟨Nat.zero_le _, Nat.zero_le _⟩ (fun H locs Z => ?_)
                refine lv_goto (tgt := 179) S.1 S.2.1 dX12_year_157 (by decide) ?_
                refine ud_Vi (As := [.int (nI (wFit w1 12))]) (rest := []) S hK hA Z (c_X12_back l G (nI (wFit w1 12)) (uMn B sl cm ba wy fs ft) w1 w hd (fun i => (uMn_o _ _ _ _ _ _ _ _ (by decide)).trans (hB85 i)) hdd i4 (wOk_z i3) (wOk_z hw)) (cwV 1 S.2.2.2.2 gX12_year_X12_back rfl rfl rfl (by decide +kernel) ⟨Nat.le_of_ble_eq_true rfl, Nat.le_of_ble_eq_true rfl⟩) (by decide) rfl rfl rfl hl.1 rfl (Nat.le_of_ble_eq_true rfl) dX12_year_179 ⟨Nat.zero_le _, Nat.zero_le _⟩ (fun H locs Z => ?_)
                refine uret_i S hK Z hre hlk dX12_year_182 ?_
                have e9 : yr q (j, w) = (y, w1) := by
                  rw [i2, show e = q from by omega]
                refine ⟨?_, mSm_Mn hB2 _ _ _ _ _ _⟩
                rw [spYear, if_neg (u_no3 (show inr (nI j) 0 9999 by assumption) (show inr (nI q) 1 99 by assumption) (show inr (0 : Int32) 0 2 from ⟨by decide, by decide⟩)), nI_clamp (show j < 2 ^ 31 by omega), nI_clamp (show q < 2 ^ 31 by omega), if_pos rfl, e9]
              · skip
                refine lv_aload_n S.1 S.2.1 dX12_year_148 rfl (lv_at hl 2 rfl) ?_
                refine lv_iload_n S.1 S.2.1 dX12_year_149 rfl (lv_at hl 5 rfl) ?_
                refine lv_if_ne (tgt := 160) S.1 S.2.1 dX12_year_150 (by decide) (fun _ => ?_) (fun c => absurd c (by decide))
                refine lv_iload_n S.1 S.2.1 dX12_year_160 rfl (lv_at hl 5 rfl) ?_
                refine lv_iconst (v := 1) S.1 S.2.1 dX12_year_161 (by decide) ?_
                refine lv_icmp_ne (tgt := 174) S.1 S.2.1 dX12_year_162 (by decide) (fun c => absurd c (by decide)) (fun _ => ?_)
                refine lv_aload_n S.1 S.2.1 dX12_year_165 rfl (lv_at hl 2 rfl) ?_
                refine ug_r S hK Z (j := 4) 76 (by decide) rfl rfl rfl (by decide) iX12_year_X12 qX12_year_22 dX12_year_166 ?_
                refine lv_iconst (v := 0) S.1 S.2.1 dX12_year_169 (by decide) ?_
                refine ua_ild S hK Z 0 (by decide) rfl rfl (by omega) dX12_year_170 ?_
                refine utop (y := (nI (w1 5 0))) (uPM_r (uMn B sl cm ba wy fs ft) w1 0 (j := 5) (by decide)) ?_
                refine lv_goto (tgt := 179) S.1 S.2.1 dX12_year_171 (by decide) ?_
                refine ud_Vi (As := [.int (nI (w1 5 0))]) (rest := []) S hK hA Z (c_X12_back l G (nI (w1 5 0)) (uMn B sl cm ba wy fs ft) w1 w hd (fun i => (uMn_o _ _ _ _ _ _ _ _ (by decide)).trans (hB85 i)) hdd i4 (wOk_z i3) (wOk_z hw)) (cwV 1 S.2.2.2.2 gX12_year_X12_back rfl rfl rfl (by decide +kernel) ⟨Nat.le_of_ble_eq_true rfl, Nat.le_of_ble_eq_true rfl⟩) (by decide) rfl rfl rfl hl.1 rfl (Nat.le_of_ble_eq_true rfl) dX12_year_179 ⟨Nat.zero_le _, Nat.zero_le _⟩ (fun H locs Z => ?_)
                refine uret_i S hK Z hre hlk dX12_year_182 ?_
                have e9 : yr q (j, w) = (y, w1) := by
                  rw [i2, show e = q from by omega]
                refine ⟨?_, mSm_Mn hB2 _ _ _ _ _ _⟩
                rw [spYear, if_neg (u_no3 (show inr (nI j) 0 9999 by assumption) (show inr (nI q) 1 99 by assumption) (show inr (1 : Int32) 0 2 from ⟨by decide, by decide⟩)), nI_clamp (show j < 2 ^ 31 by omega), nI_clamp (show q < 2 ^ 31 by omega), if_neg (by decide), if_pos rfl, e9]
              · skip
                refine lv_aload_n S.1 S.2.1 dX12_year_148 rfl (lv_at hl 2 rfl) ?_
                refine lv_iload_n S.1 S.2.1 dX12_year_149 rfl (lv_at hl 5 rfl) ?_
                refine lv_if_ne (tgt := 160) S.1 S.2.1 dX12_year_150 (by decide) (fun _ => ?_) (fun c => absurd c (by decide))
                refine lv_iload_n S.1 S.2.1 dX12_year_160 rfl (lv_at hl 5 rfl) ?_
                refine lv_iconst (v := 1) S.1 S.2.1 dX12_year_161 (by decide) ?_
                refine lv_icmp_ne (tgt := 174) S.1 S.2.1 dX12_year_162 (by decide) (fun _ => ?_) (fun c => absurd c (by decide))
                refine lv_aload_n S.1 S.2.1 dX12_year_174 rfl (lv_at hl 2 rfl) ?_
                refine lv_iconst (v := 0) S.1 S.2.1 dX12_year_175 (by decide) ?_
                refine ud_Vi (As := [.int 0]) (rest := [.ref (G.2.2 71)]) S hK hA Z (c_X12_manyOf l G 0 (by decide) (uPM (uMn B sl cm ba wy fs ft) w1) w1 (uPM_md _ _) i3) (cwV 1 S.2.2.2.2 gX12_year_X12_manyOf rfl rfl rfl (by decide +kernel) ⟨Nat.le_of_ble_eq_true rfl, Nat.le_of_ble_eq_true rfl⟩) (by decide) rfl rfl rfl hl.1 rfl (Nat.le_of_ble_eq_true rfl) dX12_year_176 ⟨Nat.zero_le _, Nat.zero_le _⟩ (fun H locs Z => ?_)
                refine ud_Vi (As := [.int (nI (wMany w1 0 12))]) (rest := []) S hK hA Z (c_X12_back l G (nI (wMany w1 0 12)) (uMn B sl cm ba wy fs ft) w1 w hd (fun i => (uMn_o _ _ _ _ _ _ _ _ (by decide)).trans (hB85 i)) hdd i4 (wOk_z i3) (wOk_z hw)) (cwV 1 S.2.2.2.2 gX12_year_X12_back rfl rfl rfl (by decide +kernel) ⟨Nat.le_of_ble_eq_true rfl, Nat.le_of_ble_eq_true rfl⟩) (by decide) rfl rfl rfl hl.1 rfl (Nat.le_of_ble_eq_true rfl) dX12_year_179 ⟨Nat.zero_le _, Nat.zero_le _⟩ (fun H locs Z => ?_)
                refine uret_i S hK Z hre hlk dX12_year_182 ?_
                have e9 : yr q (j, w) = (y, w1) := by
                  rw [i2, show e = q from by omega]
                refine ⟨?_, mSm_Mn hB2 _ _ _ _ _ _⟩
                rw [spYear, if_neg (u_no3 (show inr (nI j) 0 9999 by assumption) (show inr (nI q) 1 99 by assumption) (show inr (2 : Int32) 0 2 from ⟨by decide, by decide⟩)), nI_clamp (show j < 2 ^ 31 by omega), nI_clamp (show q < 2 ^ 31 by omega), if_neg (by decide), if_neg (by decide), e9]
            · skip
              have c_8 : ¬ q ≤ e := fun z9 => c_8 ((nI_leI (a := q) (b := e) (by omega) (by omega)).mpr z9)
              refine lv_ldc2 (v := 75) S.1 S.2.1 S.2.2.2.1 (S.2.2.2.2 _ qX12_year_335) dX12_year_55 ?_
              refine lv_iload S.1 S.2.1 dX12_year_58 (lv_at hl 1 rfl) ?_
              refine lv_i2l (v := (lN y)) S.1 S.2.1 dX12_year_60 (nI_l (by omega)) ?_
              refine lv_lmul S.1 S.2.1 dX12_year_61 ?_
              refine utopl (lN_mul 75 y) ?_
              refine lv_ldc2 (v := 74) S.1 S.2.1 S.2.2.2.1 (S.2.2.2.2 _ qX12_year_337) dX12_year_62 ?_
              refine lv_ladd S.1 S.2.1 dX12_year_65 ?_
              refine utopl (lN_add (75 * y) 74) ?_
              refine lv_ldc2 (v := 65537) S.1 S.2.1 S.2.2.2.1 (S.2.2.2.2 _ qX12_year_339) dX12_year_66 ?_
              refine lv_lrem S.1 S.2.1 dX12_year_69 (by decide) ?_
              refine utopl (pk_lRem (a := ((75 * y) + 74)) (b := 65537) (by omega) (by omega) (by omega)) ?_
              refine lv_l2i S.1 S.2.1 dX12_year_70 rfl ?_
              refine utop (lN_i (((75 * y) + 74) % 65537)) ?_
              refine lv_istore (lv' := [(4, .int (nI (((75 * y) + 74) % 65537))), (5, .int (nI e)), (0, .ref (G.2.2 71)), (1, .int (nI j)), (2, .int (nI q)), (3, .int x)]) S.1 S.2.1 dX12_year_71 hl (by decide) rfl (fun ls hl => ?_)
              refine lv_iload S.1 S.2.1 dX12_year_73 (lv_at hl 0 rfl) ?_
              refine lv_bipush (v := 8) S.1 S.2.1 dX12_year_75 (by decide) ?_
              refine lv_idiv S.1 S.2.1 dX12_year_77 (by decide) ?_
              refine utop (pk_div (a := (((75 * y) + 74) % 65537)) (d := 8) (by omega) (by omega) (by omega)) ?_
              refine lv_bipush (v := 8) S.1 S.2.1 dX12_year_78 (by decide) ?_
              refine lv_irem S.1 S.2.1 dX12_year_80 (by decide) ?_
              refine utop (pk_rem (a := ((((75 * y) + 74) % 65537) / 8)) (d := 8) (by omega) (by omega) (by omega)) ?_
              refine ud_Si (As := [.int (nI (((((75 * y) + 74) % 65537) / 8) % 8))]) (rest := []) S hK hA Z (c_X12_actBy l G (((((75 * y) + 74) % 65537) / 8) % 8) (by omega) (uPM (uMn B sl cm ba wy fs ft) w1)) (va_cwS 1 S.2.2.2.2 gX12_year_X12_actBy rfl rfl rfl (by decide +kernel) ⟨Nat.le_of_ble_eq_true rfl, Nat.le_of_ble_eq_true rfl⟩) rfl hl.1 rfl (Nat.le_of_ble_eq_true rfl) dX12_year_81 ⟨Nat.zero_le _, Nat.zero_le _⟩ (fun H locs Z => ?_)
              have hyk := yk_le (((((75 * y) + 74) % 65537) / 8) % 8)
              refine lv_istore (lv' := [(6, .int (nI (yk (((((75 * y) + 74) % 65537) / 8) % 8)))), (4, .int (nI (((75 * y) + 74) % 65537))), (5, .int (nI e)), (0, .ref (G.2.2 71)), (1, .int (nI j)), (2, .int (nI q)), (3, .int x)]) S.1 S.2.1 dX12_year_84 hl (by decide) rfl (fun ls hl => ?_)
              refine lv_iload S.1 S.2.1 dX12_year_86 (lv_at hl 1 rfl) ?_
              refine lv_bipush (v := 64) S.1 S.2.1 dX12_year_88 (by decide) ?_
              refine lv_idiv S.1 S.2.1 dX12_year_90 (by decide) ?_
              refine utop (pk_div (a := (((75 * y) + 74) % 65537)) (d := 64) (by omega) (by omega) (by omega)) ?_
              refine lv_bipush (v := 12) S.1 S.2.1 dX12_year_91 (by decide) ?_
              refine lv_irem S.1 S.2.1 dX12_year_93 (by decide) ?_
              refine utop (pk_rem (a := ((((75 * y) + 74) % 65537) / 64)) (d := 12) (by omega) (by omega) (by omega)) ?_
              refine lv_istore (lv' := [(7, .int (nI (((((75 * y) + 74) % 65537) / 64) % 12))), (6, .int (nI (yk (((((75 * y) + 74) % 65537) / 8) % 8)))), (4, .int (nI (((75 * y) + 74) % 65537))), (5, .int (nI e)), (0, .ref (G.2.2 71)), (1, .int (nI j)), (2, .int (nI q)), (3, .int x)]) S.1 S.2.1 dX12_year_94 hl (by decide) rfl (fun ls hl => ?_)
              refine lv_iload S.1 S.2.1 dX12_year_96 (lv_at hl 2 rfl) ?_
              refine lv_bipush (v := 64) S.1 S.2.1 dX12_year_98 (by decide) ?_
              refine lv_idiv S.1 S.2.1 dX12_year_100 (by decide) ?_
              refine utop (pk_div (a := (((75 * y) + 74) % 65537)) (d := 64) (by omega) (by omega) (by omega)) ?_
              refine lv_bipush (v := 12) S.1 S.2.1 dX12_year_101 (by decide) ?_
              refine lv_idiv S.1 S.2.1 dX12_year_103 (by decide) ?_
              refine utop (pk_div (a := ((((75 * y) + 74) % 65537) / 64)) (d := 12) (by omega) (by omega) (by omega)) ?_
              refine lv_bipush (v := 8) S.1 S.2.1 dX12_year_104 (by decide) ?_
              refine lv_irem S.1 S.2.1 dX12_year_106 (by decide) ?_
              refine utop (pk_rem (a := (((((75 * y) + 74) % 65537) / 64) / 12)) (d := 8) (by omega) (by omega) (by omega)) ?_
              refine lv_istore (lv' := [(8, .int (nI ((((((75 * y) + 74) % 65537) / 64) / 12) % 8))), (7, .int (nI (((((75 * y) + 74) % 65537) / 64) % 12))), (6, .int (nI (yk (((((75 * y) + 74) % 65537) / 8) % 8)))), (4, .int (nI (((75 * y) + 74) % 65537))), (5, .int (nI e)), (0, .ref (G.2.2 71)), (1, .int (nI j)), (2, .int (nI q)), (3, .int x)]) S.1 S.2.1 dX12_year_107 hl (by decide) rfl (fun ls hl => ?_)
              refine lv_aload_n S.1 S.2.1 dX12_year_109 rfl (lv_at hl 5 rfl) ?_
              refine lv_iload S.1 S.2.1 dX12_year_110 (lv_at hl 2 rfl) ?_
              refine lv_iload S.1 S.2.1 dX12_year_112 (lv_at hl 3 rfl) ?_
              refine lv_bipush (v := 8) S.1 S.2.1 dX12_year_114 (by decide) ?_
              refine lv_irem S.1 S.2.1 dX12_year_116 (by decide) ?_
              refine utop (pk_rem (a := (((75 * y) + 74) % 65537)) (d := 8) (by omega) (by omega) (by omega)) ?_
              refine lv_iload S.1 S.2.1 dX12_year_117 (lv_at hl 1 rfl) ?_
              refine lv_iload S.1 S.2.1 dX12_year_119 (lv_at hl 0 rfl) ?_
              refine ud_Vi (As := [.int (nI (yk (((((75 * y) + 74) % 65537) / 8) % 8))), .int (nI ((((75 * y) + 74) % 65537) % 8)), .int (nI (((((75 * y) + 74) % 65537) / 64) % 12)), .int (nI ((((((75 * y) + 74) % 65537) / 64) / 12) % 8))]) (rest := []) S hK hA Z (c_X12_whyNot l G (yk (((((75 * y) + 74) % 65537) / 8) % 8)) ((((75 * y) + 74) % 65537) % 8) (((((75 * y) + 74) % 65537) / 64) % 12) ((((((75 * y) + 74) % 65537) / 64) / 12) % 8) (by omega) ⟨fun _ => ⟨by omega, by omega⟩, fun _ => ⟨by omega, by omega, by omega⟩, fun _ => by omega⟩ (uPM (uMn B sl cm ba wy fs ft) w1) w1 (uPM_md _ _) i3) (cwV 4 S.2.2.2.2 gX12_year_X12_whyNot rfl rfl rfl (by decide +kernel) ⟨Nat.le_of_ble_eq_true rfl, Nat.le_of_ble_eq_true rfl⟩) (by decide) rfl rfl rfl hl.1 rfl (Nat.le_of_ble_eq_true rfl) dX12_year_121 ⟨Nat.zero_le _, Nat.zero_le _⟩ (fun H locs Z => ?_)
              have h6 := ac_le w1 (yk (((((75 * y) + 74) % 65537) / 8) % 8)) ((((75 * y) + 74) % 65537) % 8) (((((75 * y) + 74) % 65537) / 64) % 12) ((((((75 * y) + 74) % 65537) / 64) / 12) % 8)
              refine lv_if_ne (tgt := 142) S.1 S.2.1 dX12_year_124 (by decide) (fun c_21 => ?_) (fun c_21 => ?_)
              · skip
                have c_21 : ¬ ((ac w1 (yk (((((75 * y) + 74) % 65537) / 8) % 8)) ((((75 * y) + 74) % 65537) % 8) (((((75 * y) + 74) % 65537) / 64) % 12) ((((((75 * y) + 74) % 65537) / 64) / 12) % 8)).1) = 0 := fun z9 => c_21 ((nI_eq (a := ((ac w1 (yk (((((75 * y) + 74) % 65537) / 8) % 8)) ((((75 * y) + 74) % 65537) % 8) (((((75 * y) + 74) % 65537) / 64) % 12) ((((((75 * y) + 74) % 65537) / 64) / 12) % 8)).1)) (b := 0) (by omega) (by omega)).mpr z9)
                refine lv_iinc (v := (nI (e + 1))) (lv' := [(5, .int (nI (e + 1))), (8, .int (nI ((((((75 * y) + 74) % 65537) / 64) / 12) % 8))), (7, .int (nI (((((75 * y) + 74) % 65537) / 64) % 12))), (6, .int (nI (yk (((((75 * y) + 74) % 65537) / 8) % 8)))), (4, .int (nI (((75 * y) + 74) % 65537))), (0, .ref (G.2.2 71)), (1, .int (nI j)), (2, .int (nI q)), (3, .int x)]) S.1 S.2.1 dX12_year_142 hl (k := 4) rfl (u_inc1 e) (by decide) rfl (fun ls hl => ?_)
                refine lv_goto (tgt := 49) S.1 S.2.1 dX12_year_145 (by decide) ?_
                exact ih49 (((75 * y) + 74) % 65537) (e + 1) w1 sl cm (by omega) (by omega) (by
                    rw [yr, ← i2]
                    unfold yrS
                    dsimp only
                    rw [ac_no (by assumption)]) (by exact i3) (by exact i4) _ _ _ Z (lv_sub hl [0, 4, 5, 6, 7, 8] rfl)
              · skip
                have c_21 : ((ac w1 (yk (((((75 * y) + 74) % 65537) / 8) % 8)) ((((75 * y) + 74) % 65537) % 8) (((((75 * y) + 74) % 65537) / 64) % 12) ((((((75 * y) + 74) % 65537) / 64) / 12) % 8)).1) = 0 := (nI_eq (a := ((ac w1 (yk (((((75 * y) + 74) % 65537) / 8) % 8)) ((((75 * y) + 74) % 65537) % 8) (((((75 * y) + 74) % 65537) / 64) % 12) ((((((75 * y) + 74) % 65537) / 64) / 12) % 8)).1)) (b := 0) (by omega) (by omega)).mp c_21
                refine lv_aload_n S.1 S.2.1 dX12_year_127 rfl (lv_at hl 5 rfl) ?_
                refine lv_iload S.1 S.2.1 dX12_year_128 (lv_at hl 2 rfl) ?_
                refine lv_iload S.1 S.2.1 dX12_year_130 (lv_at hl 3 rfl) ?_
                refine lv_bipush (v := 8) S.1 S.2.1 dX12_year_132 (by decide) ?_
                refine lv_irem S.1 S.2.1 dX12_year_134 (by decide) ?_
                refine utop (pk_rem (a := (((75 * y) + 74) % 65537)) (d := 8) (by omega) (by omega) (by omega)) ?_
                refine lv_iload S.1 S.2.1 dX12_year_135 (lv_at hl 1 rfl) ?_
                refine lv_iload S.1 S.2.1 dX12_year_137 (lv_at hl 0 rfl) ?_
                refine ud_Vv (As := [.int (nI (yk (((((75 * y) + 74) % 65537) / 8) % 8))), .int (nI ((((75 * y) + 74) % 65537) % 8)), .int (nI (((((75 * y) + 74) % 65537) / 64) % 12)), .int (nI ((((((75 * y) + 74) % 65537) / 64) / 12) % 8))]) (rest := []) S hK hA Z (c_X12_happen l G (yk (((((75 * y) + 74) % 65537) / 8) % 8)) ((((75 * y) + 74) % 65537) % 8) (((((75 * y) + 74) % 65537) / 64) % 12) ((((((75 * y) + 74) % 65537) / 64) / 12) % 8) (by omega) ⟨fun _ => ⟨by omega, by omega⟩, fun _ => ⟨by omega, by omega, by omega⟩, fun _ => by omega⟩ B w1 i3 sl cm ba wy fs ft (by omega)) (cwV 4 S.2.2.2.2 gX12_year_X12_happen rfl rfl rfl (by decide +kernel) ⟨Nat.le_of_ble_eq_true rfl, Nat.le_of_ble_eq_true rfl⟩) (by decide) rfl rfl rfl hl.1 rfl (Nat.le_of_ble_eq_true rfl) dX12_year_139 ⟨Nat.zero_le _, Nat.zero_le _⟩ (fun H locs Z => ?_)
                refine lv_iinc (v := (nI (e + 1))) (lv' := [(5, .int (nI (e + 1))), (8, .int (nI ((((((75 * y) + 74) % 65537) / 64) / 12) % 8))), (7, .int (nI (((((75 * y) + 74) % 65537) / 64) % 12))), (6, .int (nI (yk (((((75 * y) + 74) % 65537) / 8) % 8)))), (4, .int (nI (((75 * y) + 74) % 65537))), (0, .ref (G.2.2 71)), (1, .int (nI j)), (2, .int (nI q)), (3, .int x)]) S.1 S.2.1 dX12_year_142 hl (k := 4) rfl (u_inc1 e) (by decide) rfl (fun ls hl => ?_)
                refine lv_goto (tgt := 49) S.1 S.2.1 dX12_year_145 (by decide) ?_
                exact ih49 (((75 * y) + 74) % 65537) (e + 1) ((ac w1 (yk (((((75 * y) + 74) % 65537) / 8) % 8)) ((((75 * y) + 74) % 65537) % 8) (((((75 * y) + 74) % 65537) / 64) % 12) ((((((75 * y) + 74) % 65537) / 64) / 12) % 8)).2) (if (yk (((((75 * y) + 74) % 65537) / 8) % 8)) = 1 then sl + 1 else sl) (if (yk (((((75 * y) + 74) % 65537) / 8) % 8)) = 1 then cm + wPrice w1 (((((75 * y) + 74) % 65537) / 64) % 12) else cm) (by omega) (by omega) (by
                    rw [yr, ← i2]
                    rfl) (by exact ac_ok8 i3 (by omega) (by omega) (by omega)) (by exact sameR_ac i4) _ _ _ Z (lv_sub hl [0, 4, 5, 6, 7, 8] rfl)
        exact LP49 (q + 1) j 0 w sl0 cm0 (by omega) (by omega) (by rfl) (by exact hw) (by exact sameR_rf w) _ _ _ Z (lv_sub hl [0, 1, 2, 3, 4, 5] rfl)
      · skip
        rw [hM_5] at Z
        refine lv_if_ne (tgt := 39) S.1 S.2.1 dX12_year_33 (by decide) (fun c => absurd c (by decide)) (fun _ => ?_)
        refine lv_bipush (v := (-2)) S.1 S.2.1 dX12_year_36 (by decide) ?_
        refine uret_i S hK Z hre hlk dX12_year_38 ?_
        rw [spYear, if_pos (by first | exact Or.inl (by assumption) | exact Or.inr (Or.inl (by assumption)) | exact Or.inr (Or.inr (by assumption)))]
        exact ⟨rfl, mSm_rf _⟩
    · skip
      rw [hM_3] at Z
      refine lv_if_eq (tgt := 36) S.1 S.2.1 dX12_year_21 (by decide) (fun _ => ?_) (fun c => absurd c (by decide))
      refine lv_bipush (v := (-2)) S.1 S.2.1 dX12_year_36 (by decide) ?_
      refine uret_i S hK Z hre hlk dX12_year_38 ?_
      rw [spYear, if_pos (by first | exact Or.inl (by assumption) | exact Or.inr (Or.inl (by assumption)) | exact Or.inr (Or.inr (by assumption)))]
      exact ⟨rfl, mSm_rf _⟩
  · skip
    rw [hM_1] at Z
    refine lv_if_eq (tgt := 36) S.1 S.2.1 dX12_year_9 (by decide) (fun _ => ?_) (fun c => absurd c (by decide))
    refine lv_bipush (v := (-2)) S.1 S.2.1 dX12_year_36 (by decide) ?_
    refine uret_i S hK Z hre hlk dX12_year_38 ?_
    rw [spYear, if_pos (by first | exact Or.inl (by assumption) | exact Or.inr (Or.inl (by assumption)) | exact Or.inr (Or.inr (by assumption)))]
    exact ⟨rfl, mSm_rf _⟩
