set_option maxHeartbeats 4000000 in
set_option maxRecDepth 100000 in
theorem c_X12_lowest (l : Launch) (G : uG) (u v pt : Nat) (hu : u < 17592186044416) (hv : v < 17592186044416) (hv0 : 0 < v) (hp : pt ≤ 1) (M : uM) : CTl l G yX12_lowest wsX12_lowest 0 0 [.long (lN u), .long (lN v), .int (nI pt)] M (fun r M2 => r = lN ((if pt = 0 then u else v) / Nat.gcd u v) ∧ M2 = M) := by
  have hg0 : 0 < Nat.gcd u v := Nat.gcd_pos_of_pos_right u hv0
  have hg1 : Nat.gcd u v ≤ v := Nat.le_of_dvd hv0 (Nat.gcd_dvd_right u v)
  refine ustart_l (cc := cX12_lowest) (maxL := 11) (ret := (some .long)) (own := RX12) rfl (by decide) rfl (Nat.le_of_ble_eq_true rfl) ?_
  intro xp xe xs xm xa xb xt xc xA ls S hK hA Z hre hlk hl
  have hl : lv_has ls 11 [(0, .long (lN u)), (2, .long (lN v)), (4, .int (nI pt))] := hl
  refine lv_lload_n S.1 S.2.1 dX12_lowest_0 rfl (lv_at hl 1 rfl) ?_
  refine lv_lstore (lv' := [(5, .long (lN v)), (0, .long (lN u)), (2, .long (lN v)), (4, .int (nI pt))]) S.1 S.2.1 dX12_lowest_1 hl (by decide) rfl (fun ls hl => ?_)
  refine lv_lload_n S.1 S.2.1 dX12_lowest_3 rfl (lv_at hl 1 rfl) ?_
  refine lv_lstore (lv' := [(7, .long (lN u)), (5, .long (lN v)), (0, .long (lN u)), (2, .long (lN v)), (4, .int (nI pt))]) S.1 S.2.1 dX12_lowest_4 hl (by decide) rfl (fun ls hl => ?_)
  have LP6 : ∀ (fU : Nat) (a : Nat) (b : Nat), (b < fU) → (a < 17592186044416 ∧ b < 17592186044416) → (Nat.gcd a b = Nat.gcd u v) → ∀ (H : Heap) (locs : List Loc) (ls : Array Slot), uZ G xA M xs.heap H locs → lv_has ls 11 [(7, .long (lN b)), (5, .long (lN a)), (0, .long (lN u)), (2, .long (lN v)), (4, .int (nI pt))] → W xp l xe (uRm 0 0) xs xm xa xb xt xc H locs 0 0 (MQ xb (va_Ql (fun r M2 => r = lN ((if pt = 0 then u else v) / Nat.gcd u v) ∧ M2 = M) (fun M' t => uB G M' t) xA) xa xs 0 0 xA) (F0 xm 6 ls []) := by
    intro fU
    induction fU with
    | zero =>
      intro a b hfl i1 i2 H locs ls Z hl
      exfalso
      omega
    | succ fU ih6 =>
      intro a b hfl i1 i2 H locs ls Z hl
      refine lv_lload S.1 S.2.1 dX12_lowest_6 (lv_at hl 0 rfl) ?_
      refine lv_lconst (v := 0) S.1 S.2.1 dX12_lowest_8 (by decide) ?_
      refine W.lcmp S.1 S.2.1 dX12_lowest_9 ?_
      refine lv_if_eq (tgt := 31) S.1 S.2.1 dX12_lowest_10 (by decide) (fun c_1 => ?_) (fun c_1 => ?_)
      · skip
        have c_1 : (lN b) = 0 := (lg_cmp_eq (lN b) 0).mp c_1
        have c_1 : b = 0 := (pk_lEQ (a := b) (b := 0) (by omega) (by omega)).mp c_1
        obtain rfl : b = 0 := by omega
        rw [Nat.gcd_zero_right] at i2
        refine lv_iload S.1 S.2.1 dX12_lowest_31 (lv_at hl 4 rfl) ?_
        refine lv_if_ne (tgt := 43) S.1 S.2.1 dX12_lowest_33 (by decide) (fun c_2 => ?_) (fun c_2 => ?_)
        · skip
          have c_2 : ¬ pt = 0 := fun z9 => c_2 ((nI_eq (a := pt) (b := 0) (by omega) (by omega)).mpr z9)
          refine lv_lload_n S.1 S.2.1 dX12_lowest_43 rfl (lv_at hl 3 rfl) ?_
          refine lv_lload S.1 S.2.1 dX12_lowest_44 (lv_at hl 1 rfl) ?_
          refine lv_ldiv S.1 S.2.1 dX12_lowest_46 (u_lne (by omega) (by omega)) ?_
          refine utopl (pk_lDiv (a := v) (b := a) (by omega) (by omega) (by omega)) ?_
          refine uret_l S hK Z hre hlk dX12_lowest_47 ?_
          rw [i2, if_neg (by omega)]
          exact ⟨rfl, rfl⟩
        · skip
          have c_2 : pt = 0 := (nI_eq (a := pt) (b := 0) (by omega) (by omega)).mp c_2
          refine lv_lload_n S.1 S.2.1 dX12_lowest_36 rfl (lv_at hl 2 rfl) ?_
          refine lv_lload S.1 S.2.1 dX12_lowest_37 (lv_at hl 1 rfl) ?_
          refine lv_ldiv S.1 S.2.1 dX12_lowest_39 (u_lne (by omega) (by omega)) ?_
          refine utopl (pk_lDiv (a := u) (b := a) (by omega) (by omega) (by omega)) ?_
          refine lv_goto (tgt := 47) S.1 S.2.1 dX12_lowest_40 (by decide) ?_
          refine uret_l S hK Z hre hlk dX12_lowest_47 ?_
          rw [i2, if_pos (by omega)]
          exact ⟨rfl, rfl⟩
      · skip
        have c_1 : ¬ (lN b) = 0 := fun z9 => c_1 ((lg_cmp_eq (lN b) 0).mpr z9)
        have c_1 : ¬ b = 0 := fun z9 => c_1 ((pk_lEQ (a := b) (b := 0) (by omega) (by omega)).mpr z9)
        refine lv_lload S.1 S.2.1 dX12_lowest_13 (lv_at hl 1 rfl) ?_
        refine lv_lload S.1 S.2.1 dX12_lowest_15 (lv_at hl 0 rfl) ?_
        refine lv_lrem S.1 S.2.1 dX12_lowest_17 (u_lne (by omega) (by omega)) ?_
        refine utopl (pk_lRem (a := a) (b := b) (by omega) (by omega) (by omega)) ?_
        refine lv_lstore (lv' := [(9, .long (lN (a % b))), (7, .long (lN b)), (5, .long (lN a)), (0, .long (lN u)), (2, .long (lN v)), (4, .int (nI pt))]) S.1 S.2.1 dX12_lowest_18 hl (by decide) rfl (fun ls hl => ?_)
        refine lv_lload S.1 S.2.1 dX12_lowest_20 (lv_at hl 1 rfl) ?_
        refine lv_lstore (lv' := [(5, .long (lN b)), (9, .long (lN (a % b))), (7, .long (lN b)), (0, .long (lN u)), (2, .long (lN v)), (4, .int (nI pt))]) S.1 S.2.1 dX12_lowest_22 hl (by decide) rfl (fun ls hl => ?_)
        refine lv_lload S.1 S.2.1 dX12_lowest_24 (lv_at hl 1 rfl) ?_
        refine lv_lstore (lv' := [(7, .long (lN (a % b))), (5, .long (lN b)), (9, .long (lN (a % b))), (0, .long (lN u)), (2, .long (lN v)), (4, .int (nI pt))]) S.1 S.2.1 dX12_lowest_26 hl (by decide) rfl (fun ls hl => ?_)
        refine lv_goto (tgt := 6) S.1 S.2.1 dX12_lowest_28 (by decide) ?_
        have hml := Nat.mod_lt a (show 0 < b by omega)
        exact ih6 b (a % b) (by omega) (by
            have := Nat.mod_lt a (show 0 < b by omega)
            omega) (by rw [gcd_step]; exact i2) _ _ _ Z (lv_sub hl [0, 1, 3, 4, 5] rfl)
  exact LP6 (u + 1) v u (by omega) (by omega) (by exact Nat.gcd_comm _ _) _ _ _ Z (lv_sub hl [0, 1, 2, 3, 4] rfl)
