theorem nwX8_init_1 : Cond.methodLink RX8 1 objectInit ∈ wsX8_init := List.mem_of_getElem? (i := 1) rfl
theorem nwX8_init_2 : Cond.instanceMethod objectInit ∈ wsX8_init := List.mem_of_getElem? (i := 2) rfl
theorem nwX8_init_3 : Cond.code objectInit ⟨#[0xb1]⟩ 1 none ∈ wsX8_init := List.mem_of_getElem? (i := 3) rfl
theorem nwX8_init_4 : Cond.arrayClass .int ∈ wsX8_init := List.mem_of_getElem? (i := 4) rfl
theorem nwX3_init_1 : Cond.methodLink RX3 3 objectInit ∈ wsX3_init := List.mem_of_getElem? (i := 1) rfl
theorem nwX3_init_2 : Cond.instanceMethod objectInit ∈ wsX3_init := List.mem_of_getElem? (i := 2) rfl
theorem nwX3_init_3 : Cond.code objectInit ⟨#[0xb1]⟩ 1 none ∈ wsX3_init := List.mem_of_getElem? (i := 3) rfl
theorem nwX3_init_4 : Cond.arrayClass .int ∈ wsX3_init := List.mem_of_getElem? (i := 4) rfl
theorem nwX6_init_1 : Cond.methodLink RX6 3 objectInit ∈ wsX6_init := List.mem_of_getElem? (i := 1) rfl
theorem nwX6_init_2 : Cond.instanceMethod objectInit ∈ wsX6_init := List.mem_of_getElem? (i := 2) rfl
theorem nwX6_init_3 : Cond.code objectInit ⟨#[0xb1]⟩ 1 none ∈ wsX6_init := List.mem_of_getElem? (i := 3) rfl
theorem nwX6_init_4 : Cond.arrayClass .int ∈ wsX6_init := List.mem_of_getElem? (i := 4) rfl
theorem nwX4_init_1 : Cond.methodLink RX4 3 objectInit ∈ wsX4_init := List.mem_of_getElem? (i := 1) rfl
theorem nwX4_init_2 : Cond.instanceMethod objectInit ∈ wsX4_init := List.mem_of_getElem? (i := 2) rfl
theorem nwX4_init_3 : Cond.code objectInit ⟨#[0xb1]⟩ 1 none ∈ wsX4_init := List.mem_of_getElem? (i := 3) rfl
theorem nwX4_init_4 : Cond.arrayClass .int ∈ wsX4_init := List.mem_of_getElem? (i := 4) rfl
theorem nwX0_init_1 : Cond.methodLink RX0 1 objectInit ∈ wsX0_init := List.mem_of_getElem? (i := 1) rfl
theorem nwX0_init_2 : Cond.instanceMethod objectInit ∈ wsX0_init := List.mem_of_getElem? (i := 2) rfl
theorem nwX0_init_3 : Cond.code objectInit ⟨#[0xb1]⟩ 1 none ∈ wsX0_init := List.mem_of_getElem? (i := 3) rfl
theorem nwX0_init_4 : Cond.arrayClass .int ∈ wsX0_init := List.mem_of_getElem? (i := 4) rfl
theorem nwX2_init_1 : Cond.methodLink RX2 3 objectInit ∈ wsX2_init := List.mem_of_getElem? (i := 1) rfl
theorem nwX2_init_2 : Cond.instanceMethod objectInit ∈ wsX2_init := List.mem_of_getElem? (i := 2) rfl
theorem nwX2_init_3 : Cond.code objectInit ⟨#[0xb1]⟩ 1 none ∈ wsX2_init := List.mem_of_getElem? (i := 3) rfl
theorem nwX2_init_4 : Cond.arrayClass .int ∈ wsX2_init := List.mem_of_getElem? (i := 4) rfl
theorem nwX7_init_1 : Cond.methodLink RX7 3 objectInit ∈ wsX7_init := List.mem_of_getElem? (i := 1) rfl
theorem nwX7_init_2 : Cond.instanceMethod objectInit ∈ wsX7_init := List.mem_of_getElem? (i := 2) rfl
theorem nwX7_init_3 : Cond.code objectInit ⟨#[0xb1]⟩ 1 none ∈ wsX7_init := List.mem_of_getElem? (i := 3) rfl
theorem nwX7_init_4 : Cond.arrayClass .int ∈ wsX7_init := List.mem_of_getElem? (i := 4) rfl
theorem nwX1_init_1 : Cond.methodLink RX1 1 objectInit ∈ wsX1_init := List.mem_of_getElem? (i := 1) rfl
theorem nwX1_init_2 : Cond.instanceMethod objectInit ∈ wsX1_init := List.mem_of_getElem? (i := 2) rfl
theorem nwX1_init_3 : Cond.code objectInit ⟨#[0xb1]⟩ 1 none ∈ wsX1_init := List.mem_of_getElem? (i := 3) rfl
theorem nwX1_init_4 : Cond.arrayClass .long ∈ wsX1_init := List.mem_of_getElem? (i := 4) rfl
theorem nwX10_init_1 : Cond.methodLink RX10 3 objectInit ∈ wsX10_init := List.mem_of_getElem? (i := 1) rfl
theorem nwX10_init_2 : Cond.instanceMethod objectInit ∈ wsX10_init := List.mem_of_getElem? (i := 2) rfl
theorem nwX10_init_3 : Cond.code objectInit ⟨#[0xb1]⟩ 1 none ∈ wsX10_init := List.mem_of_getElem? (i := 3) rfl
theorem nwX10_init_4 : Cond.arrayClass .int ∈ wsX10_init := List.mem_of_getElem? (i := 4) rfl
theorem nwX10_init_12 : Cond.instantiable RX8 3 ∈ wsX10_init := List.mem_of_getElem? (i := 12) rfl
theorem nwX10_init_13 : Cond.initialized RX8 ∈ wsX10_init := List.mem_of_getElem? (i := 13) rfl
theorem nwX10_init_11 : Cond.classLink RX10 30 RX8 ∈ wsX10_init := List.mem_of_getElem? (i := 11) rfl
theorem nwX10_init_17 : Cond.methodLink RX10 32 yX8_init ∈ wsX10_init := List.mem_of_getElem? (i := 17) rfl
theorem nwX10_init_18 : Cond.instanceMethod yX8_init ∈ wsX10_init := List.mem_of_getElem? (i := 18) rfl
theorem nwX9_init_1 : Cond.methodLink RX9 3 objectInit ∈ wsX9_init := List.mem_of_getElem? (i := 1) rfl
theorem nwX9_init_2 : Cond.instanceMethod objectInit ∈ wsX9_init := List.mem_of_getElem? (i := 2) rfl
theorem nwX9_init_3 : Cond.code objectInit ⟨#[0xb1]⟩ 1 none ∈ wsX9_init := List.mem_of_getElem? (i := 3) rfl
theorem nwX9_init_5 : Cond.instantiable RX10 9 ∈ wsX9_init := List.mem_of_getElem? (i := 5) rfl
theorem nwX9_init_6 : Cond.initialized RX10 ∈ wsX9_init := List.mem_of_getElem? (i := 6) rfl
theorem nwX9_init_4 : Cond.classLink RX9 9 RX10 ∈ wsX9_init := List.mem_of_getElem? (i := 4) rfl
theorem nwX9_init_8 : Cond.methodLink RX9 11 yX10_init ∈ wsX9_init := List.mem_of_getElem? (i := 8) rfl
theorem nwX9_init_9 : Cond.instanceMethod yX10_init ∈ wsX9_init := List.mem_of_getElem? (i := 9) rfl
theorem qX8_init_9 : Cond.fieldLink RX8 9 (TX8 0).1 (TX8 0).2.1 (TX8 0).2.2.1 ∈ wsX8_init := List.mem_of_getElem? (i := 5) rfl
theorem qX8_init_13 : Cond.fieldLink RX8 13 (TX8 1).1 (TX8 1).2.1 (TX8 1).2.2.1 ∈ wsX8_init := List.mem_of_getElem? (i := 6) rfl
theorem qX8_init_16 : Cond.fieldLink RX8 16 (TX8 2).1 (TX8 2).2.1 (TX8 2).2.2.1 ∈ wsX8_init := List.mem_of_getElem? (i := 7) rfl
theorem qX3_init_11 : Cond.fieldLink RX3 11 (TX3 0).1 (TX3 0).2.1 (TX3 0).2.2.1 ∈ wsX3_init := List.mem_of_getElem? (i := 5) rfl
theorem qX3_init_15 : Cond.fieldLink RX3 15 (TX3 1).1 (TX3 1).2.1 (TX3 1).2.2.1 ∈ wsX3_init := List.mem_of_getElem? (i := 6) rfl
theorem qX6_init_9 : Cond.fieldLink RX6 9 (TX6 0).1 (TX6 0).2.1 (TX6 0).2.2.1 ∈ wsX6_init := List.mem_of_getElem? (i := 5) rfl
theorem qX6_init_15 : Cond.fieldLink RX6 15 (TX6 1).1 (TX6 1).2.1 (TX6 1).2.2.1 ∈ wsX6_init := List.mem_of_getElem? (i := 6) rfl
theorem qX4_init_9 : Cond.fieldLink RX4 9 (TX4 0).1 (TX4 0).2.1 (TX4 0).2.2.1 ∈ wsX4_init := List.mem_of_getElem? (i := 5) rfl
theorem qX4_init_15 : Cond.fieldLink RX4 15 (TX4 1).1 (TX4 1).2.1 (TX4 1).2.2.1 ∈ wsX4_init := List.mem_of_getElem? (i := 6) rfl
theorem qX4_init_18 : Cond.fieldLink RX4 18 (TX4 2).1 (TX4 2).2.1 (TX4 2).2.2.1 ∈ wsX4_init := List.mem_of_getElem? (i := 7) rfl
theorem qX0_init_9 : Cond.fieldLink RX0 9 (TX0 0).1 (TX0 0).2.1 (TX0 0).2.2.1 ∈ wsX0_init := List.mem_of_getElem? (i := 5) rfl
theorem qX2_init_11 : Cond.fieldLink RX2 11 (TX2 0).1 (TX2 0).2.1 (TX2 0).2.2.1 ∈ wsX2_init := List.mem_of_getElem? (i := 5) rfl
theorem qX2_init_15 : Cond.fieldLink RX2 15 (TX2 1).1 (TX2 1).2.1 (TX2 1).2.2.1 ∈ wsX2_init := List.mem_of_getElem? (i := 6) rfl
theorem qX7_init_11 : Cond.fieldLink RX7 11 (TX7 0).1 (TX7 0).2.1 (TX7 0).2.2.1 ∈ wsX7_init := List.mem_of_getElem? (i := 5) rfl
theorem qX7_init_15 : Cond.fieldLink RX7 15 (TX7 1).1 (TX7 1).2.1 (TX7 1).2.2.1 ∈ wsX7_init := List.mem_of_getElem? (i := 6) rfl
theorem qX7_init_18 : Cond.fieldLink RX7 18 (TX7 2).1 (TX7 2).2.1 (TX7 2).2.2.1 ∈ wsX7_init := List.mem_of_getElem? (i := 7) rfl
theorem qX1_init_9 : Cond.fieldLink RX1 9 (TX1 0).1 (TX1 0).2.1 (TX1 0).2.2.1 ∈ wsX1_init := List.mem_of_getElem? (i := 5) rfl
theorem qX10_init_9 : Cond.fieldLink RX10 9 (TX10 0).1 (TX10 0).2.1 (TX10 0).2.2.1 ∈ wsX10_init := List.mem_of_getElem? (i := 5) rfl
theorem qX10_init_15 : Cond.fieldLink RX10 15 (TX10 1).1 (TX10 1).2.1 (TX10 1).2.2.1 ∈ wsX10_init := List.mem_of_getElem? (i := 6) rfl
theorem qX10_init_18 : Cond.fieldLink RX10 18 (TX10 2).1 (TX10 2).2.1 (TX10 2).2.2.1 ∈ wsX10_init := List.mem_of_getElem? (i := 7) rfl
theorem qX10_init_21 : Cond.fieldLink RX10 21 (TX10 3).1 (TX10 3).2.1 (TX10 3).2.2.1 ∈ wsX10_init := List.mem_of_getElem? (i := 8) rfl
theorem qX10_init_24 : Cond.fieldLink RX10 24 (TX10 4).1 (TX10 4).2.1 (TX10 4).2.2.1 ∈ wsX10_init := List.mem_of_getElem? (i := 9) rfl
theorem qX10_init_27 : Cond.fieldLink RX10 27 (TX10 5).1 (TX10 5).2.1 (TX10 5).2.2.1 ∈ wsX10_init := List.mem_of_getElem? (i := 10) rfl
theorem qX10_init_33 : Cond.fieldLink RX10 33 (TX10 6).1 (TX10 6).2.1 (TX10 6).2.2.1 ∈ wsX10_init := List.mem_of_getElem? (i := 14) rfl
theorem qX10_init_37 : Cond.fieldLink RX10 37 (TX10 7).1 (TX10 7).2.1 (TX10 7).2.2.1 ∈ wsX10_init := List.mem_of_getElem? (i := 15) rfl
theorem qX10_init_41 : Cond.fieldLink RX10 41 (TX10 8).1 (TX10 8).2.1 (TX10 8).2.2.1 ∈ wsX10_init := List.mem_of_getElem? (i := 16) rfl
theorem qX9_init_12 : Cond.fieldLink RX9 12 (TX9 0).1 (TX9 0).2.1 (TX9 0).2.2.1 ∈ wsX9_init := List.mem_of_getElem? (i := 7) rfl
theorem iX8_init_X8 : ∀ w ∈ wsX80, w ∈ wsX8_init := fun _ h => List.mem_cons_of_mem _ (List.mem_append_right _ h)
theorem iX3_init_X3 : ∀ w ∈ wsX30, w ∈ wsX3_init := fun _ h => List.mem_cons_of_mem _ (List.mem_append_right _ h)
theorem iX6_init_X6 : ∀ w ∈ wsX60, w ∈ wsX6_init := fun _ h => List.mem_cons_of_mem _ (List.mem_append_right _ h)
theorem iX4_init_X4 : ∀ w ∈ wsX40, w ∈ wsX4_init := fun _ h => List.mem_cons_of_mem _ (List.mem_append_right _ h)
theorem iX0_init_X0 : ∀ w ∈ wsX00, w ∈ wsX0_init := fun _ h => List.mem_cons_of_mem _ (List.mem_append_right _ h)
theorem iX2_init_X2 : ∀ w ∈ wsX20, w ∈ wsX2_init := fun _ h => List.mem_cons_of_mem _ (List.mem_append_right _ h)
theorem iX7_init_X7 : ∀ w ∈ wsX70, w ∈ wsX7_init := fun _ h => List.mem_cons_of_mem _ (List.mem_append_right _ h)
theorem iX1_init_X1 : ∀ w ∈ wsX10, w ∈ wsX1_init := fun _ h => List.mem_cons_of_mem _ (List.mem_append_right _ h)
theorem iX10_init_X10 : ∀ w ∈ wsX100, w ∈ wsX10_init := fun _ h => List.mem_cons_of_mem _ (List.mem_append_left _ (List.mem_append_right _ h))
theorem iX10_init_X8 : ∀ w ∈ wsX80, w ∈ wsX10_init := fun _ h => List.mem_cons_of_mem _ (List.mem_append_right _ h)
theorem iX9_init_X10 : ∀ w ∈ wsX100, w ∈ wsX9_init := fun _ h => List.mem_cons_of_mem _ (List.mem_append_left _ (List.mem_append_left _ (List.mem_append_right _ h)))
theorem iX9_init_X9 : ∀ w ∈ wsX90, w ∈ wsX9_init := fun _ h => List.mem_cons_of_mem _ (List.mem_append_left _ (List.mem_append_right _ h))
set_option maxHeartbeats 8000000 in
set_option maxRecDepth 100000 in
theorem c_X8_init (l : Launch) (D : va_G) (cs : ClassId × ClassId × ClassId) (h : Nat) : CN l yX8_init wsX8_init 1 2 16 20 D cs [.ref h] [(h, .inr (7, [.null, .null, .int 0]))] (fun a => nSi cs h a) := by
  refine n_start (cc := cX8_init) (maxL := 1) (own := RX8) rfl (by decide) rfl (Nat.le_of_ble_eq_true rfl) ?_
  intro xp xe xs xm xa xb xt xc xA ls S hK hA Z hre hlk hin2 hl
  have hl : lv_has ls 1 [(0, .ref h)] := hl
  have hin2 : xt.name = "<init>" := hin2
  refine lv_aload_n S.1 S.2.1 dX8_init_0 rfl (lv_at hl 0 rfl) ?_
  refine W.objInit S.1 S.2.1 S.2.2.2.1 (S.2.2.2.2 _ nwX8_init_1) (S.2.2.2.2 _ nwX8_init_2) (S.2.2.2.2 _ nwX8_init_3) rfl (hl.1.trans S.2.2.1.symm) rfl dX8_init_1 (Nat.le_of_ble_eq_true rfl) (Nat.le_of_ble_eq_true rfl) ?_
  refine W.eq (g2 := F0 xm 4 ls []) rfl ?_
  refine lv_aload_n S.1 S.2.1 dX8_init_4 rfl (lv_at hl 0 rfl) ?_
  refine lv_bipush (v := 8) S.1 S.2.1 dX8_init_5 (by decide) ?_
  refine n_newI S hK hA Z nwX8_init_4 (by decide) (N := 8) rfl (Nat.le_of_ble_eq_true rfl) (Nat.le_of_ble_eq_true rfl) (Nat.le_of_ble_eq_true rfl) dX8_init_7 (fun q7 H Z => ?_)
  refine W.widen (k := 1) (n := 8) (Nat.le_of_ble_eq_true rfl) (Nat.le_of_ble_eq_true rfl) ?_
  have Z : nZ D xA ([(h, .inr (7, [.null, .null, .int 0]))] ++ [(q7, .inl (cs.1, 8, .inl nz))]) xs.heap _ _ := Z
  refine n_putF S hK Z (j := 0) (v := .ref q7) rfl rfl (by decide) iX8_init_X8 tyX8_ok nmX8 qX8_init_9 rfl hin2 rfl rfl rfl (Nat.le_of_ble_eq_true rfl) dX8_init_9 (fun H locs Z => ?_)
  have Z : nZ D xA ([(h, .inr (7, [.ref q7, .null, .int 0]))] ++ [(q7, .inl (cs.1, 8, .inl nz))]) xs.heap _ _ := Z
  refine lv_aload_n S.1 S.2.1 dX8_init_12 rfl (lv_at hl 0 rfl) ?_
  refine lv_bipush (v := 8) S.1 S.2.1 dX8_init_13 (by decide) ?_
  refine n_newI S hK hA Z nwX8_init_4 (by decide) (N := 8) rfl (Nat.le_of_ble_eq_true rfl) (Nat.le_of_ble_eq_true rfl) (Nat.le_of_ble_eq_true rfl) dX8_init_15 (fun q15 H Z => ?_)
  refine W.widen (k := 2) (n := 16) (Nat.le_of_ble_eq_true rfl) (Nat.le_of_ble_eq_true rfl) ?_
  have Z : nZ D xA ([(h, .inr (7, [.ref q7, .null, .int 0]))] ++ [(q7, .inl (cs.1, 8, .inl nz))] ++ [(q15, .inl (cs.1, 8, .inl nz))]) xs.heap _ _ := Z
  refine n_putF S hK Z (j := 1) (v := .ref q15) rfl rfl (by decide) iX8_init_X8 tyX8_ok nmX8 qX8_init_13 rfl hin2 rfl rfl rfl (Nat.le_of_ble_eq_true rfl) dX8_init_17 (fun H locs Z => ?_)
  have Z : nZ D xA ([(h, .inr (7, [.ref q7, .ref q15, .int 0]))] ++ [(q7, .inl (cs.1, 8, .inl nz))] ++ [(q15, .inl (cs.1, 8, .inl nz))]) xs.heap _ _ := Z
  refine lv_aload_n S.1 S.2.1 dX8_init_20 rfl (lv_at hl 0 rfl) ?_
  refine lv_iconst (v := 0) S.1 S.2.1 dX8_init_21 (by decide) ?_
  refine n_put S hK Z (j := 2) (v := .int 0) rfl rfl (by decide) iX8_init_X8 tyX8_ok nmX8 qX8_init_16 rfl rfl rfl (Nat.le_of_ble_eq_true rfl) dX8_init_22 (fun H locs Z => ?_)
  have Z : nZ D xA ([(h, .inr (7, [.ref q7, .ref q15, .int 0]))] ++ [(q7, .inl (cs.1, 8, .inl nz))] ++ [(q15, .inl (cs.1, 8, .inl nz))]) xs.heap _ _ := Z
  exact n_ret (w1 := fun a => nSi cs h a) (fun k => ([h, q7, q15] : List Nat).getD k 0) S hK Z hre hlk rfl (Nat.le_of_ble_eq_true rfl) (Nat.le_of_ble_eq_true rfl) dX8_init_25
set_option maxHeartbeats 8000000 in
set_option maxRecDepth 100000 in
theorem c_X3_init (l : Launch) (D : va_G) (cs : ClassId × ClassId × ClassId) (h : Nat) : CN l yX3_init wsX3_init 1 1 60 20 D cs [.ref h] [(h, .inr (3, [.null, .int 0]))] (fun a => nPa cs h a) := by
  refine n_start (cc := cX3_init) (maxL := 1) (own := RX3) rfl (by decide) rfl (Nat.le_of_ble_eq_true rfl) ?_
  intro xp xe xs xm xa xb xt xc xA ls S hK hA Z hre hlk hin2 hl
  have hl : lv_has ls 1 [(0, .ref h)] := hl
  have hin2 : xt.name = "<init>" := hin2
  refine lv_aload_n S.1 S.2.1 dX3_init_0 rfl (lv_at hl 0 rfl) ?_
  refine W.objInit S.1 S.2.1 S.2.2.2.1 (S.2.2.2.2 _ nwX3_init_1) (S.2.2.2.2 _ nwX3_init_2) (S.2.2.2.2 _ nwX3_init_3) rfl (hl.1.trans S.2.2.1.symm) rfl dX3_init_1 (Nat.le_of_ble_eq_true rfl) (Nat.le_of_ble_eq_true rfl) ?_
  refine W.eq (g2 := F0 xm 4 ls []) rfl ?_
  refine lv_aload_n S.1 S.2.1 dX3_init_4 rfl (lv_at hl 0 rfl) ?_
  refine lv_bipush (v := 60) S.1 S.2.1 dX3_init_5 (by decide) ?_
  refine n_newI S hK hA Z nwX3_init_4 (by decide) (N := 60) rfl (Nat.le_of_ble_eq_true rfl) (Nat.le_of_ble_eq_true rfl) (Nat.le_of_ble_eq_true rfl) dX3_init_7 (fun q7 H Z => ?_)
  refine W.widen (k := 1) (n := 60) (Nat.le_of_ble_eq_true rfl) (Nat.le_of_ble_eq_true rfl) ?_
  have Z : nZ D xA ([(h, .inr (3, [.null, .int 0]))] ++ [(q7, .inl (cs.1, 60, .inl nz))]) xs.heap _ _ := Z
  refine n_putF S hK Z (j := 0) (v := .ref q7) rfl rfl (by decide) iX3_init_X3 tyX3_ok nmX3 qX3_init_11 rfl hin2 rfl rfl rfl (Nat.le_of_ble_eq_true rfl) dX3_init_9 (fun H locs Z => ?_)
  have Z : nZ D xA ([(h, .inr (3, [.ref q7, .int 0]))] ++ [(q7, .inl (cs.1, 60, .inl nz))]) xs.heap _ _ := Z
  refine lv_aload_n S.1 S.2.1 dX3_init_12 rfl (lv_at hl 0 rfl) ?_
  refine lv_iconst (v := 0) S.1 S.2.1 dX3_init_13 (by decide) ?_
  refine n_put S hK Z (j := 1) (v := .int 0) rfl rfl (by decide) iX3_init_X3 tyX3_ok nmX3 qX3_init_15 rfl rfl rfl (Nat.le_of_ble_eq_true rfl) dX3_init_14 (fun H locs Z => ?_)
  have Z : nZ D xA ([(h, .inr (3, [.ref q7, .int 0]))] ++ [(q7, .inl (cs.1, 60, .inl nz))]) xs.heap _ _ := Z
  exact n_ret (w1 := fun a => nPa cs h a) (fun k => ([h, q7] : List Nat).getD k 0) S hK Z hre hlk rfl (Nat.le_of_ble_eq_true rfl) (Nat.le_of_ble_eq_true rfl) dX3_init_17
set_option maxHeartbeats 8000000 in
set_option maxRecDepth 100000 in
theorem c_X6_init (l : Launch) (D : va_G) (cs : ClassId × ClassId × ClassId) (h : Nat) : CN l yX6_init wsX6_init 1 2 200 20 D cs [.ref h] [(h, .inr (5, [.null, .null]))] (fun a => nSa cs h a) := by
  refine n_start (cc := cX6_init) (maxL := 1) (own := RX6) rfl (by decide) rfl (Nat.le_of_ble_eq_true rfl) ?_
  intro xp xe xs xm xa xb xt xc xA ls S hK hA Z hre hlk hin2 hl
  have hl : lv_has ls 1 [(0, .ref h)] := hl
  have hin2 : xt.name = "<init>" := hin2
  refine lv_aload_n S.1 S.2.1 dX6_init_0 rfl (lv_at hl 0 rfl) ?_
  refine W.objInit S.1 S.2.1 S.2.2.2.1 (S.2.2.2.2 _ nwX6_init_1) (S.2.2.2.2 _ nwX6_init_2) (S.2.2.2.2 _ nwX6_init_3) rfl (hl.1.trans S.2.2.1.symm) rfl dX6_init_1 (Nat.le_of_ble_eq_true rfl) (Nat.le_of_ble_eq_true rfl) ?_
  refine W.eq (g2 := F0 xm 4 ls []) rfl ?_
  refine lv_aload_n S.1 S.2.1 dX6_init_4 rfl (lv_at hl 0 rfl) ?_
  refine lv_bipush (v := 100) S.1 S.2.1 dX6_init_5 (by decide) ?_
  refine n_newI S hK hA Z nwX6_init_4 (by decide) (N := 100) rfl (Nat.le_of_ble_eq_true rfl) (Nat.le_of_ble_eq_true rfl) (Nat.le_of_ble_eq_true rfl) dX6_init_7 (fun q7 H Z => ?_)
  refine W.widen (k := 1) (n := 100) (Nat.le_of_ble_eq_true rfl) (Nat.le_of_ble_eq_true rfl) ?_
  have Z : nZ D xA ([(h, .inr (5, [.null, .null]))] ++ [(q7, .inl (cs.1, 100, .inl nz))]) xs.heap _ _ := Z
  refine n_putF S hK Z (j := 0) (v := .ref q7) rfl rfl (by decide) iX6_init_X6 tyX6_ok nmX6 qX6_init_9 rfl hin2 rfl rfl rfl (Nat.le_of_ble_eq_true rfl) dX6_init_9 (fun H locs Z => ?_)
  have Z : nZ D xA ([(h, .inr (5, [.ref q7, .null]))] ++ [(q7, .inl (cs.1, 100, .inl nz))]) xs.heap _ _ := Z
  refine lv_aload_n S.1 S.2.1 dX6_init_12 rfl (lv_at hl 0 rfl) ?_
  refine lv_bipush (v := 100) S.1 S.2.1 dX6_init_13 (by decide) ?_
  refine n_newI S hK hA Z nwX6_init_4 (by decide) (N := 100) rfl (Nat.le_of_ble_eq_true rfl) (Nat.le_of_ble_eq_true rfl) (Nat.le_of_ble_eq_true rfl) dX6_init_15 (fun q15 H Z => ?_)
  refine W.widen (k := 2) (n := 200) (Nat.le_of_ble_eq_true rfl) (Nat.le_of_ble_eq_true rfl) ?_
  have Z : nZ D xA ([(h, .inr (5, [.ref q7, .null]))] ++ [(q7, .inl (cs.1, 100, .inl nz))] ++ [(q15, .inl (cs.1, 100, .inl nz))]) xs.heap _ _ := Z
  refine n_putF S hK Z (j := 1) (v := .ref q15) rfl rfl (by decide) iX6_init_X6 tyX6_ok nmX6 qX6_init_15 rfl hin2 rfl rfl rfl (Nat.le_of_ble_eq_true rfl) dX6_init_17 (fun H locs Z => ?_)
  have Z : nZ D xA ([(h, .inr (5, [.ref q7, .ref q15]))] ++ [(q7, .inl (cs.1, 100, .inl nz))] ++ [(q15, .inl (cs.1, 100, .inl nz))]) xs.heap _ _ := Z
  exact n_ret (w1 := fun a => nSa cs h a) (fun k => ([h, q7, q15] : List Nat).getD k 0) S hK Z hre hlk rfl (Nat.le_of_ble_eq_true rfl) (Nat.le_of_ble_eq_true rfl) dX6_init_20
set_option maxHeartbeats 8000000 in
set_option maxRecDepth 100000 in
theorem c_X4_init (l : Launch) (D : va_G) (cs : ClassId × ClassId × ClassId) (h : Nat) : CN l yX4_init wsX4_init 1 3 24 20 D cs [.ref h] [(h, .inr (4, [.null, .null, .null, .int 0, .int 0, .int 0]))] (fun a => nRi cs h a) := by
  refine n_start (cc := cX4_init) (maxL := 1) (own := RX4) rfl (by decide) rfl (Nat.le_of_ble_eq_true rfl) ?_
  intro xp xe xs xm xa xb xt xc xA ls S hK hA Z hre hlk hin2 hl
  have hl : lv_has ls 1 [(0, .ref h)] := hl
  have hin2 : xt.name = "<init>" := hin2
  refine lv_aload_n S.1 S.2.1 dX4_init_0 rfl (lv_at hl 0 rfl) ?_
  refine W.objInit S.1 S.2.1 S.2.2.2.1 (S.2.2.2.2 _ nwX4_init_1) (S.2.2.2.2 _ nwX4_init_2) (S.2.2.2.2 _ nwX4_init_3) rfl (hl.1.trans S.2.2.1.symm) rfl dX4_init_1 (Nat.le_of_ble_eq_true rfl) (Nat.le_of_ble_eq_true rfl) ?_
  refine W.eq (g2 := F0 xm 4 ls []) rfl ?_
  refine lv_aload_n S.1 S.2.1 dX4_init_4 rfl (lv_at hl 0 rfl) ?_
  refine lv_bipush (v := 8) S.1 S.2.1 dX4_init_5 (by decide) ?_
  refine n_newI S hK hA Z nwX4_init_4 (by decide) (N := 8) rfl (Nat.le_of_ble_eq_true rfl) (Nat.le_of_ble_eq_true rfl) (Nat.le_of_ble_eq_true rfl) dX4_init_7 (fun q7 H Z => ?_)
  refine W.widen (k := 1) (n := 8) (Nat.le_of_ble_eq_true rfl) (Nat.le_of_ble_eq_true rfl) ?_
  have Z : nZ D xA ([(h, .inr (4, [.null, .null, .null, .int 0, .int 0, .int 0]))] ++ [(q7, .inl (cs.1, 8, .inl nz))]) xs.heap _ _ := Z
  refine n_putF S hK Z (j := 0) (v := .ref q7) rfl rfl (by decide) iX4_init_X4 tyX4_ok nmX4 qX4_init_9 rfl hin2 rfl rfl rfl (Nat.le_of_ble_eq_true rfl) dX4_init_9 (fun H locs Z => ?_)
  have Z : nZ D xA ([(h, .inr (4, [.ref q7, .null, .null, .int 0, .int 0, .int 0]))] ++ [(q7, .inl (cs.1, 8, .inl nz))]) xs.heap _ _ := Z
  refine lv_aload_n S.1 S.2.1 dX4_init_12 rfl (lv_at hl 0 rfl) ?_
  refine lv_bipush (v := 8) S.1 S.2.1 dX4_init_13 (by decide) ?_
  refine n_newI S hK hA Z nwX4_init_4 (by decide) (N := 8) rfl (Nat.le_of_ble_eq_true rfl) (Nat.le_of_ble_eq_true rfl) (Nat.le_of_ble_eq_true rfl) dX4_init_15 (fun q15 H Z => ?_)
  refine W.widen (k := 2) (n := 16) (Nat.le_of_ble_eq_true rfl) (Nat.le_of_ble_eq_true rfl) ?_
  have Z : nZ D xA ([(h, .inr (4, [.ref q7, .null, .null, .int 0, .int 0, .int 0]))] ++ [(q7, .inl (cs.1, 8, .inl nz))] ++ [(q15, .inl (cs.1, 8, .inl nz))]) xs.heap _ _ := Z
  refine n_putF S hK Z (j := 1) (v := .ref q15) rfl rfl (by decide) iX4_init_X4 tyX4_ok nmX4 qX4_init_15 rfl hin2 rfl rfl rfl (Nat.le_of_ble_eq_true rfl) dX4_init_17 (fun H locs Z => ?_)
  have Z : nZ D xA ([(h, .inr (4, [.ref q7, .ref q15, .null, .int 0, .int 0, .int 0]))] ++ [(q7, .inl (cs.1, 8, .inl nz))] ++ [(q15, .inl (cs.1, 8, .inl nz))]) xs.heap _ _ := Z
  refine lv_aload_n S.1 S.2.1 dX4_init_20 rfl (lv_at hl 0 rfl) ?_
  refine lv_bipush (v := 8) S.1 S.2.1 dX4_init_21 (by decide) ?_
  refine n_newI S hK hA Z nwX4_init_4 (by decide) (N := 8) rfl (Nat.le_of_ble_eq_true rfl) (Nat.le_of_ble_eq_true rfl) (Nat.le_of_ble_eq_true rfl) dX4_init_23 (fun q23 H Z => ?_)
  refine W.widen (k := 3) (n := 24) (Nat.le_of_ble_eq_true rfl) (Nat.le_of_ble_eq_true rfl) ?_
  have Z : nZ D xA ([(h, .inr (4, [.ref q7, .ref q15, .null, .int 0, .int 0, .int 0]))] ++ [(q7, .inl (cs.1, 8, .inl nz))] ++ [(q15, .inl (cs.1, 8, .inl nz))] ++ [(q23, .inl (cs.1, 8, .inl nz))]) xs.heap _ _ := Z
  refine n_putF S hK Z (j := 2) (v := .ref q23) rfl rfl (by decide) iX4_init_X4 tyX4_ok nmX4 qX4_init_18 rfl hin2 rfl rfl rfl (Nat.le_of_ble_eq_true rfl) dX4_init_25 (fun H locs Z => ?_)
  have Z : nZ D xA ([(h, .inr (4, [.ref q7, .ref q15, .ref q23, .int 0, .int 0, .int 0]))] ++ [(q7, .inl (cs.1, 8, .inl nz))] ++ [(q15, .inl (cs.1, 8, .inl nz))] ++ [(q23, .inl (cs.1, 8, .inl nz))]) xs.heap _ _ := Z
  exact n_ret (w1 := fun a => nRi cs h a) (fun k => ([h, q7, q15, q23] : List Nat).getD k 0) S hK Z hre hlk rfl (Nat.le_of_ble_eq_true rfl) (Nat.le_of_ble_eq_true rfl) dX4_init_28
set_option maxHeartbeats 8000000 in
set_option maxRecDepth 100000 in
theorem c_X0_init (l : Launch) (D : va_G) (cs : ClassId × ClassId × ClassId) (h : Nat) : CN l yX0_init wsX0_init 1 1 9 20 D cs [.ref h] [(h, .inr (0, [.null, .int 0, .int 0, .long 0, .long 0]))] (fun a => nCa cs h a) := by
  refine n_start (cc := cX0_init) (maxL := 1) (own := RX0) rfl (by decide) rfl (Nat.le_of_ble_eq_true rfl) ?_
  intro xp xe xs xm xa xb xt xc xA ls S hK hA Z hre hlk hin2 hl
  have hl : lv_has ls 1 [(0, .ref h)] := hl
  have hin2 : xt.name = "<init>" := hin2
  refine lv_aload_n S.1 S.2.1 dX0_init_0 rfl (lv_at hl 0 rfl) ?_
  refine W.objInit S.1 S.2.1 S.2.2.2.1 (S.2.2.2.2 _ nwX0_init_1) (S.2.2.2.2 _ nwX0_init_2) (S.2.2.2.2 _ nwX0_init_3) rfl (hl.1.trans S.2.2.1.symm) rfl dX0_init_1 (Nat.le_of_ble_eq_true rfl) (Nat.le_of_ble_eq_true rfl) ?_
  refine W.eq (g2 := F0 xm 4 ls []) rfl ?_
  refine lv_aload_n S.1 S.2.1 dX0_init_4 rfl (lv_at hl 0 rfl) ?_
  refine lv_bipush (v := 9) S.1 S.2.1 dX0_init_5 (by decide) ?_
  refine n_newI S hK hA Z nwX0_init_4 (by decide) (N := 9) rfl (Nat.le_of_ble_eq_true rfl) (Nat.le_of_ble_eq_true rfl) (Nat.le_of_ble_eq_true rfl) dX0_init_7 (fun q7 H Z => ?_)
  refine W.widen (k := 1) (n := 9) (Nat.le_of_ble_eq_true rfl) (Nat.le_of_ble_eq_true rfl) ?_
  have Z : nZ D xA ([(h, .inr (0, [.null, .int 0, .int 0, .long 0, .long 0]))] ++ [(q7, .inl (cs.1, 9, .inl nz))]) xs.heap _ _ := Z
  refine n_putF S hK Z (j := 0) (v := .ref q7) rfl rfl (by decide) iX0_init_X0 tyX0_ok nmX0 qX0_init_9 rfl hin2 rfl rfl rfl (Nat.le_of_ble_eq_true rfl) dX0_init_9 (fun H locs Z => ?_)
  have Z : nZ D xA ([(h, .inr (0, [.ref q7, .int 0, .int 0, .long 0, .long 0]))] ++ [(q7, .inl (cs.1, 9, .inl nz))]) xs.heap _ _ := Z
  exact n_ret (w1 := fun a => nCa cs h a) (fun k => ([h, q7] : List Nat).getD k 0) S hK Z hre hlk rfl (Nat.le_of_ble_eq_true rfl) (Nat.le_of_ble_eq_true rfl) dX0_init_12
set_option maxHeartbeats 8000000 in
set_option maxRecDepth 100000 in
theorem c_X2_init (l : Launch) (D : va_G) (cs : ClassId × ClassId × ClassId) (h : Nat) : CN l yX2_init wsX2_init 1 2 30 20 D cs [.ref h] [(h, .inr (2, [.null, .null, .int 0, .int 0, .int 0, .int 0]))] (fun a => nHa cs h a) := by
  refine n_start (cc := cX2_init) (maxL := 1) (own := RX2) rfl (by decide) rfl (Nat.le_of_ble_eq_true rfl) ?_
  intro xp xe xs xm xa xb xt xc xA ls S hK hA Z hre hlk hin2 hl
  have hl : lv_has ls 1 [(0, .ref h)] := hl
  have hin2 : xt.name = "<init>" := hin2
  refine lv_aload_n S.1 S.2.1 dX2_init_0 rfl (lv_at hl 0 rfl) ?_
  refine W.objInit S.1 S.2.1 S.2.2.2.1 (S.2.2.2.2 _ nwX2_init_1) (S.2.2.2.2 _ nwX2_init_2) (S.2.2.2.2 _ nwX2_init_3) rfl (hl.1.trans S.2.2.1.symm) rfl dX2_init_1 (Nat.le_of_ble_eq_true rfl) (Nat.le_of_ble_eq_true rfl) ?_
  refine W.eq (g2 := F0 xm 4 ls []) rfl ?_
  refine lv_aload_n S.1 S.2.1 dX2_init_4 rfl (lv_at hl 0 rfl) ?_
  refine lv_iconst (v := 5) S.1 S.2.1 dX2_init_5 (by decide) ?_
  refine n_newI S hK hA Z nwX2_init_4 (by decide) (N := 5) rfl (Nat.le_of_ble_eq_true rfl) (Nat.le_of_ble_eq_true rfl) (Nat.le_of_ble_eq_true rfl) dX2_init_6 (fun q6 H Z => ?_)
  refine W.widen (k := 1) (n := 5) (Nat.le_of_ble_eq_true rfl) (Nat.le_of_ble_eq_true rfl) ?_
  have Z : nZ D xA ([(h, .inr (2, [.null, .null, .int 0, .int 0, .int 0, .int 0]))] ++ [(q6, .inl (cs.1, 5, .inl nz))]) xs.heap _ _ := Z
  refine n_putF S hK Z (j := 0) (v := .ref q6) rfl rfl (by decide) iX2_init_X2 tyX2_ok nmX2 qX2_init_11 rfl hin2 rfl rfl rfl (Nat.le_of_ble_eq_true rfl) dX2_init_8 (fun H locs Z => ?_)
  have Z : nZ D xA ([(h, .inr (2, [.ref q6, .null, .int 0, .int 0, .int 0, .int 0]))] ++ [(q6, .inl (cs.1, 5, .inl nz))]) xs.heap _ _ := Z
  refine lv_aload_n S.1 S.2.1 dX2_init_11 rfl (lv_at hl 0 rfl) ?_
  refine lv_bipush (v := 25) S.1 S.2.1 dX2_init_12 (by decide) ?_
  refine n_newI S hK hA Z nwX2_init_4 (by decide) (N := 25) rfl (Nat.le_of_ble_eq_true rfl) (Nat.le_of_ble_eq_true rfl) (Nat.le_of_ble_eq_true rfl) dX2_init_14 (fun q14 H Z => ?_)
  refine W.widen (k := 2) (n := 30) (Nat.le_of_ble_eq_true rfl) (Nat.le_of_ble_eq_true rfl) ?_
  have Z : nZ D xA ([(h, .inr (2, [.ref q6, .null, .int 0, .int 0, .int 0, .int 0]))] ++ [(q6, .inl (cs.1, 5, .inl nz))] ++ [(q14, .inl (cs.1, 25, .inl nz))]) xs.heap _ _ := Z
  refine n_putF S hK Z (j := 1) (v := .ref q14) rfl rfl (by decide) iX2_init_X2 tyX2_ok nmX2 qX2_init_15 rfl hin2 rfl rfl rfl (Nat.le_of_ble_eq_true rfl) dX2_init_16 (fun H locs Z => ?_)
  have Z : nZ D xA ([(h, .inr (2, [.ref q6, .ref q14, .int 0, .int 0, .int 0, .int 0]))] ++ [(q6, .inl (cs.1, 5, .inl nz))] ++ [(q14, .inl (cs.1, 25, .inl nz))]) xs.heap _ _ := Z
  exact n_ret (w1 := fun a => nHa cs h a) (fun k => ([h, q6, q14] : List Nat).getD k 0) S hK Z hre hlk rfl (Nat.le_of_ble_eq_true rfl) (Nat.le_of_ble_eq_true rfl) dX2_init_19
set_option maxHeartbeats 8000000 in
set_option maxRecDepth 100000 in
theorem c_X7_init (l : Launch) (D : va_G) (cs : ClassId × ClassId × ClassId) (h : Nat) : CN l yX7_init wsX7_init 1 2 248 20 D cs [.ref h] [(h, .inr (6, [.null, .null, .int 0]))] (fun a => nSh cs h a) := by
  refine n_start (cc := cX7_init) (maxL := 1) (own := RX7) rfl (by decide) rfl (Nat.le_of_ble_eq_true rfl) ?_
  intro xp xe xs xm xa xb xt xc xA ls S hK hA Z hre hlk hin2 hl
  have hl : lv_has ls 1 [(0, .ref h)] := hl
  have hin2 : xt.name = "<init>" := hin2
  refine lv_aload_n S.1 S.2.1 dX7_init_0 rfl (lv_at hl 0 rfl) ?_
  refine W.objInit S.1 S.2.1 S.2.2.2.1 (S.2.2.2.2 _ nwX7_init_1) (S.2.2.2.2 _ nwX7_init_2) (S.2.2.2.2 _ nwX7_init_3) rfl (hl.1.trans S.2.2.1.symm) rfl dX7_init_1 (Nat.le_of_ble_eq_true rfl) (Nat.le_of_ble_eq_true rfl) ?_
  refine W.eq (g2 := F0 xm 4 ls []) rfl ?_
  refine lv_aload_n S.1 S.2.1 dX7_init_4 rfl (lv_at hl 0 rfl) ?_
  refine lv_sipush (v := 243) S.1 S.2.1 dX7_init_5 (by decide) ?_
  refine n_newI S hK hA Z nwX7_init_4 (by decide) (N := 243) rfl (Nat.le_of_ble_eq_true rfl) (Nat.le_of_ble_eq_true rfl) (Nat.le_of_ble_eq_true rfl) dX7_init_8 (fun q8 H Z => ?_)
  refine W.widen (k := 1) (n := 243) (Nat.le_of_ble_eq_true rfl) (Nat.le_of_ble_eq_true rfl) ?_
  have Z : nZ D xA ([(h, .inr (6, [.null, .null, .int 0]))] ++ [(q8, .inl (cs.1, 243, .inl nz))]) xs.heap _ _ := Z
  refine n_putF S hK Z (j := 0) (v := .ref q8) rfl rfl (by decide) iX7_init_X7 tyX7_ok nmX7 qX7_init_11 rfl hin2 rfl rfl rfl (Nat.le_of_ble_eq_true rfl) dX7_init_10 (fun H locs Z => ?_)
  have Z : nZ D xA ([(h, .inr (6, [.ref q8, .null, .int 0]))] ++ [(q8, .inl (cs.1, 243, .inl nz))]) xs.heap _ _ := Z
  refine lv_aload_n S.1 S.2.1 dX7_init_13 rfl (lv_at hl 0 rfl) ?_
  refine lv_iconst (v := 5) S.1 S.2.1 dX7_init_14 (by decide) ?_
  refine n_newI S hK hA Z nwX7_init_4 (by decide) (N := 5) rfl (Nat.le_of_ble_eq_true rfl) (Nat.le_of_ble_eq_true rfl) (Nat.le_of_ble_eq_true rfl) dX7_init_15 (fun q15 H Z => ?_)
  refine W.widen (k := 2) (n := 248) (Nat.le_of_ble_eq_true rfl) (Nat.le_of_ble_eq_true rfl) ?_
  have Z : nZ D xA ([(h, .inr (6, [.ref q8, .null, .int 0]))] ++ [(q8, .inl (cs.1, 243, .inl nz))] ++ [(q15, .inl (cs.1, 5, .inl nz))]) xs.heap _ _ := Z
  refine n_putF S hK Z (j := 1) (v := .ref q15) rfl rfl (by decide) iX7_init_X7 tyX7_ok nmX7 qX7_init_15 rfl hin2 rfl rfl rfl (Nat.le_of_ble_eq_true rfl) dX7_init_17 (fun H locs Z => ?_)
  have Z : nZ D xA ([(h, .inr (6, [.ref q8, .ref q15, .int 0]))] ++ [(q8, .inl (cs.1, 243, .inl nz))] ++ [(q15, .inl (cs.1, 5, .inl nz))]) xs.heap _ _ := Z
  refine lv_aload_n S.1 S.2.1 dX7_init_20 rfl (lv_at hl 0 rfl) ?_
  refine lv_iconst (v := 0) S.1 S.2.1 dX7_init_21 (by decide) ?_
  refine n_put S hK Z (j := 2) (v := .int 0) rfl rfl (by decide) iX7_init_X7 tyX7_ok nmX7 qX7_init_18 rfl rfl rfl (Nat.le_of_ble_eq_true rfl) dX7_init_22 (fun H locs Z => ?_)
  have Z : nZ D xA ([(h, .inr (6, [.ref q8, .ref q15, .int 0]))] ++ [(q8, .inl (cs.1, 243, .inl nz))] ++ [(q15, .inl (cs.1, 5, .inl nz))]) xs.heap _ _ := Z
  exact n_ret (w1 := fun a => nSh cs h a) (fun k => ([h, q8, q15] : List Nat).getD k 0) S hK Z hre hlk rfl (Nat.le_of_ble_eq_true rfl) (Nat.le_of_ble_eq_true rfl) dX7_init_25
set_option maxHeartbeats 8000000 in
set_option maxRecDepth 100000 in
theorem c_X1_init (l : Launch) (D : va_G) (cs : ClassId × ClassId × ClassId) (h : Nat) : CN l yX1_init wsX1_init 1 1 13 20 D cs [.ref h] [(h, .inr (1, [.null, .long 0]))] (fun a => nCh cs h a) := by
  refine n_start (cc := cX1_init) (maxL := 1) (own := RX1) rfl (by decide) rfl (Nat.le_of_ble_eq_true rfl) ?_
  intro xp xe xs xm xa xb xt xc xA ls S hK hA Z hre hlk hin2 hl
  have hl : lv_has ls 1 [(0, .ref h)] := hl
  have hin2 : xt.name = "<init>" := hin2
  refine lv_aload_n S.1 S.2.1 dX1_init_0 rfl (lv_at hl 0 rfl) ?_
  refine W.objInit S.1 S.2.1 S.2.2.2.1 (S.2.2.2.2 _ nwX1_init_1) (S.2.2.2.2 _ nwX1_init_2) (S.2.2.2.2 _ nwX1_init_3) rfl (hl.1.trans S.2.2.1.symm) rfl dX1_init_1 (Nat.le_of_ble_eq_true rfl) (Nat.le_of_ble_eq_true rfl) ?_
  refine W.eq (g2 := F0 xm 4 ls []) rfl ?_
  refine lv_aload_n S.1 S.2.1 dX1_init_4 rfl (lv_at hl 0 rfl) ?_
  refine lv_bipush (v := 13) S.1 S.2.1 dX1_init_5 (by decide) ?_
  refine n_newL S hK hA Z nwX1_init_4 (by decide) (N := 13) rfl (Nat.le_of_ble_eq_true rfl) (Nat.le_of_ble_eq_true rfl) (Nat.le_of_ble_eq_true rfl) dX1_init_7 (fun q7 H Z => ?_)
  refine W.widen (k := 1) (n := 13) (Nat.le_of_ble_eq_true rfl) (Nat.le_of_ble_eq_true rfl) ?_
  have Z : nZ D xA ([(h, .inr (1, [.null, .long 0]))] ++ [(q7, .inl (cs.2.1, 13, .inr (.inl (fun _ => 0))))]) xs.heap _ _ := Z
  refine n_putF S hK Z (j := 0) (v := .ref q7) rfl rfl (by decide) iX1_init_X1 tyX1_ok nmX1 qX1_init_9 rfl hin2 rfl rfl rfl (Nat.le_of_ble_eq_true rfl) dX1_init_9 (fun H locs Z => ?_)
  have Z : nZ D xA ([(h, .inr (1, [.ref q7, .long 0]))] ++ [(q7, .inl (cs.2.1, 13, .inr (.inl (fun _ => 0))))]) xs.heap _ _ := Z
  exact n_ret (w1 := fun a => nCh cs h a) (fun k => ([h, q7] : List Nat).getD k 0) S hK Z hre hlk rfl (Nat.le_of_ble_eq_true rfl) (Nat.le_of_ble_eq_true rfl) dX1_init_12
set_option maxHeartbeats 8000000 in
set_option maxRecDepth 100000 in
theorem c_X10_init (l : Launch) (D : va_G) (cs : ClassId × ClassId × ClassId) (h : Nat) : CN l yX10_init wsX10_init 2 9 83 40 D cs [.ref h] [(h, .inr (9, [.null, .null, .null, .null, .null, .null, .null, .int 0, .int 0]))] (fun a => nWo cs h a) := by
  refine n_start (cc := cX10_init) (maxL := 2) (own := RX10) rfl (by decide) rfl (Nat.le_of_ble_eq_true rfl) ?_
  intro xp xe xs xm xa xb xt xc xA ls S hK hA Z hre hlk hin2 hl
  have hl : lv_has ls 2 [(0, .ref h)] := hl
  have hin2 : xt.name = "<init>" := hin2
  refine lv_aload_n S.1 S.2.1 dX10_init_0 rfl (lv_at hl 0 rfl) ?_
  refine W.objInit S.1 S.2.1 S.2.2.2.1 (S.2.2.2.2 _ nwX10_init_1) (S.2.2.2.2 _ nwX10_init_2) (S.2.2.2.2 _ nwX10_init_3) rfl (hl.1.trans S.2.2.1.symm) rfl dX10_init_1 (Nat.le_of_ble_eq_true rfl) (Nat.le_of_ble_eq_true rfl) ?_
  refine W.eq (g2 := F0 xm 4 ls []) rfl ?_
  refine lv_aload_n S.1 S.2.1 dX10_init_4 rfl (lv_at hl 0 rfl) ?_
  refine lv_bipush (v := 12) S.1 S.2.1 dX10_init_5 (by decide) ?_
  refine n_newI S hK hA Z nwX10_init_4 (by decide) (N := 12) rfl (Nat.le_of_ble_eq_true rfl) (Nat.le_of_ble_eq_true rfl) (Nat.le_of_ble_eq_true rfl) dX10_init_7 (fun q7 H Z => ?_)
  refine W.widen (k := 1) (n := 12) (Nat.le_of_ble_eq_true rfl) (Nat.le_of_ble_eq_true rfl) ?_
  have Z : nZ D xA ([(h, .inr (9, [.null, .null, .null, .null, .null, .null, .null, .int 0, .int 0]))] ++ [(q7, .inl (cs.1, 12, .inl nz))]) xs.heap _ _ := Z
  refine n_putF S hK Z (j := 0) (v := .ref q7) rfl rfl (by decide) iX10_init_X10 tyX10_ok nmX10 qX10_init_9 rfl hin2 rfl rfl rfl (Nat.le_of_ble_eq_true rfl) dX10_init_9 (fun H locs Z => ?_)
  have Z : nZ D xA ([(h, .inr (9, [.ref q7, .null, .null, .null, .null, .null, .null, .int 0, .int 0]))] ++ [(q7, .inl (cs.1, 12, .inl nz))]) xs.heap _ _ := Z
  refine lv_aload_n S.1 S.2.1 dX10_init_12 rfl (lv_at hl 0 rfl) ?_
  refine lv_bipush (v := 12) S.1 S.2.1 dX10_init_13 (by decide) ?_
  refine n_newI S hK hA Z nwX10_init_4 (by decide) (N := 12) rfl (Nat.le_of_ble_eq_true rfl) (Nat.le_of_ble_eq_true rfl) (Nat.le_of_ble_eq_true rfl) dX10_init_15 (fun q15 H Z => ?_)
  refine W.widen (k := 2) (n := 24) (Nat.le_of_ble_eq_true rfl) (Nat.le_of_ble_eq_true rfl) ?_
  have Z : nZ D xA ([(h, .inr (9, [.ref q7, .null, .null, .null, .null, .null, .null, .int 0, .int 0]))] ++ [(q7, .inl (cs.1, 12, .inl nz))] ++ [(q15, .inl (cs.1, 12, .inl nz))]) xs.heap _ _ := Z
  refine n_putF S hK Z (j := 1) (v := .ref q15) rfl rfl (by decide) iX10_init_X10 tyX10_ok nmX10 qX10_init_15 rfl hin2 rfl rfl rfl (Nat.le_of_ble_eq_true rfl) dX10_init_17 (fun H locs Z => ?_)
  have Z : nZ D xA ([(h, .inr (9, [.ref q7, .ref q15, .null, .null, .null, .null, .null, .int 0, .int 0]))] ++ [(q7, .inl (cs.1, 12, .inl nz))] ++ [(q15, .inl (cs.1, 12, .inl nz))]) xs.heap _ _ := Z
  refine lv_aload_n S.1 S.2.1 dX10_init_20 rfl (lv_at hl 0 rfl) ?_
  refine lv_bipush (v := 12) S.1 S.2.1 dX10_init_21 (by decide) ?_
  refine n_newI S hK hA Z nwX10_init_4 (by decide) (N := 12) rfl (Nat.le_of_ble_eq_true rfl) (Nat.le_of_ble_eq_true rfl) (Nat.le_of_ble_eq_true rfl) dX10_init_23 (fun q23 H Z => ?_)
  refine W.widen (k := 3) (n := 36) (Nat.le_of_ble_eq_true rfl) (Nat.le_of_ble_eq_true rfl) ?_
  have Z : nZ D xA ([(h, .inr (9, [.ref q7, .ref q15, .null, .null, .null, .null, .null, .int 0, .int 0]))] ++ [(q7, .inl (cs.1, 12, .inl nz))] ++ [(q15, .inl (cs.1, 12, .inl nz))] ++ [(q23, .inl (cs.1, 12, .inl nz))]) xs.heap _ _ := Z
  refine n_putF S hK Z (j := 2) (v := .ref q23) rfl rfl (by decide) iX10_init_X10 tyX10_ok nmX10 qX10_init_18 rfl hin2 rfl rfl rfl (Nat.le_of_ble_eq_true rfl) dX10_init_25 (fun H locs Z => ?_)
  have Z : nZ D xA ([(h, .inr (9, [.ref q7, .ref q15, .ref q23, .null, .null, .null, .null, .int 0, .int 0]))] ++ [(q7, .inl (cs.1, 12, .inl nz))] ++ [(q15, .inl (cs.1, 12, .inl nz))] ++ [(q23, .inl (cs.1, 12, .inl nz))]) xs.heap _ _ := Z
  refine lv_aload_n S.1 S.2.1 dX10_init_28 rfl (lv_at hl 0 rfl) ?_
  refine lv_bipush (v := 12) S.1 S.2.1 dX10_init_29 (by decide) ?_
  refine n_newI S hK hA Z nwX10_init_4 (by decide) (N := 12) rfl (Nat.le_of_ble_eq_true rfl) (Nat.le_of_ble_eq_true rfl) (Nat.le_of_ble_eq_true rfl) dX10_init_31 (fun q31 H Z => ?_)
  refine W.widen (k := 4) (n := 48) (Nat.le_of_ble_eq_true rfl) (Nat.le_of_ble_eq_true rfl) ?_
  have Z : nZ D xA ([(h, .inr (9, [.ref q7, .ref q15, .ref q23, .null, .null, .null, .null, .int 0, .int 0]))] ++ [(q7, .inl (cs.1, 12, .inl nz))] ++ [(q15, .inl (cs.1, 12, .inl nz))] ++ [(q23, .inl (cs.1, 12, .inl nz))] ++ [(q31, .inl (cs.1, 12, .inl nz))]) xs.heap _ _ := Z
  refine n_putF S hK Z (j := 3) (v := .ref q31) rfl rfl (by decide) iX10_init_X10 tyX10_ok nmX10 qX10_init_21 rfl hin2 rfl rfl rfl (Nat.le_of_ble_eq_true rfl) dX10_init_33 (fun H locs Z => ?_)
  have Z : nZ D xA ([(h, .inr (9, [.ref q7, .ref q15, .ref q23, .ref q31, .null, .null, .null, .int 0, .int 0]))] ++ [(q7, .inl (cs.1, 12, .inl nz))] ++ [(q15, .inl (cs.1, 12, .inl nz))] ++ [(q23, .inl (cs.1, 12, .inl nz))] ++ [(q31, .inl (cs.1, 12, .inl nz))]) xs.heap _ _ := Z
  refine lv_aload_n S.1 S.2.1 dX10_init_36 rfl (lv_at hl 0 rfl) ?_
  refine lv_bipush (v := 8) S.1 S.2.1 dX10_init_37 (by decide) ?_
  refine n_newI S hK hA Z nwX10_init_4 (by decide) (N := 8) rfl (Nat.le_of_ble_eq_true rfl) (Nat.le_of_ble_eq_true rfl) (Nat.le_of_ble_eq_true rfl) dX10_init_39 (fun q39 H Z => ?_)
  refine W.widen (k := 5) (n := 56) (Nat.le_of_ble_eq_true rfl) (Nat.le_of_ble_eq_true rfl) ?_
  have Z : nZ D xA ([(h, .inr (9, [.ref q7, .ref q15, .ref q23, .ref q31, .null, .null, .null, .int 0, .int 0]))] ++ [(q7, .inl (cs.1, 12, .inl nz))] ++ [(q15, .inl (cs.1, 12, .inl nz))] ++ [(q23, .inl (cs.1, 12, .inl nz))] ++ [(q31, .inl (cs.1, 12, .inl nz))] ++ [(q39, .inl (cs.1, 8, .inl nz))]) xs.heap _ _ := Z
  refine n_putF S hK Z (j := 4) (v := .ref q39) rfl rfl (by decide) iX10_init_X10 tyX10_ok nmX10 qX10_init_24 rfl hin2 rfl rfl rfl (Nat.le_of_ble_eq_true rfl) dX10_init_41 (fun H locs Z => ?_)
  have Z : nZ D xA ([(h, .inr (9, [.ref q7, .ref q15, .ref q23, .ref q31, .ref q39, .null, .null, .int 0, .int 0]))] ++ [(q7, .inl (cs.1, 12, .inl nz))] ++ [(q15, .inl (cs.1, 12, .inl nz))] ++ [(q23, .inl (cs.1, 12, .inl nz))] ++ [(q31, .inl (cs.1, 12, .inl nz))] ++ [(q39, .inl (cs.1, 8, .inl nz))]) xs.heap _ _ := Z
  refine lv_aload_n S.1 S.2.1 dX10_init_44 rfl (lv_at hl 0 rfl) ?_
  refine lv_bipush (v := 8) S.1 S.2.1 dX10_init_45 (by decide) ?_
  refine n_newI S hK hA Z nwX10_init_4 (by decide) (N := 8) rfl (Nat.le_of_ble_eq_true rfl) (Nat.le_of_ble_eq_true rfl) (Nat.le_of_ble_eq_true rfl) dX10_init_47 (fun q47 H Z => ?_)
  refine W.widen (k := 6) (n := 64) (Nat.le_of_ble_eq_true rfl) (Nat.le_of_ble_eq_true rfl) ?_
  have Z : nZ D xA ([(h, .inr (9, [.ref q7, .ref q15, .ref q23, .ref q31, .ref q39, .null, .null, .int 0, .int 0]))] ++ [(q7, .inl (cs.1, 12, .inl nz))] ++ [(q15, .inl (cs.1, 12, .inl nz))] ++ [(q23, .inl (cs.1, 12, .inl nz))] ++ [(q31, .inl (cs.1, 12, .inl nz))] ++ [(q39, .inl (cs.1, 8, .inl nz))] ++ [(q47, .inl (cs.1, 8, .inl nz))]) xs.heap _ _ := Z
  refine n_putF S hK Z (j := 5) (v := .ref q47) rfl rfl (by decide) iX10_init_X10 tyX10_ok nmX10 qX10_init_27 rfl hin2 rfl rfl rfl (Nat.le_of_ble_eq_true rfl) dX10_init_49 (fun H locs Z => ?_)
  have Z : nZ D xA ([(h, .inr (9, [.ref q7, .ref q15, .ref q23, .ref q31, .ref q39, .ref q47, .null, .int 0, .int 0]))] ++ [(q7, .inl (cs.1, 12, .inl nz))] ++ [(q15, .inl (cs.1, 12, .inl nz))] ++ [(q23, .inl (cs.1, 12, .inl nz))] ++ [(q31, .inl (cs.1, 12, .inl nz))] ++ [(q39, .inl (cs.1, 8, .inl nz))] ++ [(q47, .inl (cs.1, 8, .inl nz))]) xs.heap _ _ := Z
  refine lv_aload_n S.1 S.2.1 dX10_init_52 rfl (lv_at hl 0 rfl) ?_
  refine n_new S hK hA Z (ci := 7) (fs := [.null, .null, .int 0]) rfl iX10_init_X8 tyX8_ok nwX10_init_11 nwX10_init_12 nwX10_init_13 dfX8 (Nat.le_of_ble_eq_true rfl) (Nat.le_of_ble_eq_true rfl) dX10_init_53 (fun q53 H Z => ?_)
  refine W.widen (k := 7) (n := 67) (Nat.le_of_ble_eq_true rfl) (Nat.le_of_ble_eq_true rfl) ?_
  have Z : nZ D xA ([(h, .inr (9, [.ref q7, .ref q15, .ref q23, .ref q31, .ref q39, .ref q47, .null, .int 0, .int 0]))] ++ [(q7, .inl (cs.1, 12, .inl nz))] ++ [(q15, .inl (cs.1, 12, .inl nz))] ++ [(q23, .inl (cs.1, 12, .inl nz))] ++ [(q31, .inl (cs.1, 12, .inl nz))] ++ [(q39, .inl (cs.1, 8, .inl nz))] ++ [(q47, .inl (cs.1, 8, .inl nz))] ++ [(q53, .inr (7, [.null, .null, .int 0]))]) xs.heap _ _ := Z
  refine lv_dup S.1 S.2.1 dX10_init_56 rfl ?_
  refine n_callI (X := ([(h, .inr (9, [.ref q7, .ref q15, .ref q23, .ref q31, .ref q39, .ref q47, .null, .int 0, .int 0]))] ++ [(q7, .inl (cs.1, 12, .inl nz))] ++ [(q15, .inl (cs.1, 12, .inl nz))] ++ [(q23, .inl (cs.1, 12, .inl nz))] ++ [(q31, .inl (cs.1, 12, .inl nz))] ++ [(q39, .inl (cs.1, 8, .inl nz))] ++ [(q47, .inl (cs.1, 8, .inl nz))])) (rest := [.ref q53, .ref h]) S hK hA Z (c_X8_init l D cs q53) (cwI 0 S.2.2.2.2 gX10_init_X8_init rfl rfl rfl (S.2.2.2.2 _ nwX10_init_13) (S.2.2.2.2 _ nwX10_init_17) (S.2.2.2.2 _ nwX10_init_18) rfl (by decide +kernel) ⟨Nat.le_of_ble_eq_true rfl, Nat.le_of_ble_eq_true rfl⟩) hl.1 (Nat.le_of_ble_eq_true rfl) dX10_init_57 ⟨Nat.le_of_ble_eq_true rfl, Nat.le_of_ble_eq_true rfl⟩ (fun a57 H locs Z => ?_)
  refine W.widen (k := 9) (n := 83) (Nat.le_of_ble_eq_true rfl) (Nat.le_of_ble_eq_true rfl) ?_
  have Z : nZ D xA ([(h, .inr (9, [.ref q7, .ref q15, .ref q23, .ref q31, .ref q39, .ref q47, .null, .int 0, .int 0]))] ++ [(q7, .inl (cs.1, 12, .inl nz))] ++ [(q15, .inl (cs.1, 12, .inl nz))] ++ [(q23, .inl (cs.1, 12, .inl nz))] ++ [(q31, .inl (cs.1, 12, .inl nz))] ++ [(q39, .inl (cs.1, 8, .inl nz))] ++ [(q47, .inl (cs.1, 8, .inl nz))] ++ nSi cs q53 a57) xs.heap _ _ := Z
  refine n_putF S hK Z (j := 6) (v := .ref q53) rfl rfl (by decide) iX10_init_X10 tyX10_ok nmX10 qX10_init_33 rfl hin2 rfl rfl rfl (Nat.le_of_ble_eq_true rfl) dX10_init_60 (fun H locs Z => ?_)
  have Z : nZ D xA ([(h, .inr (9, [.ref q7, .ref q15, .ref q23, .ref q31, .ref q39, .ref q47, .ref q53, .int 0, .int 0]))] ++ [(q7, .inl (cs.1, 12, .inl nz))] ++ [(q15, .inl (cs.1, 12, .inl nz))] ++ [(q23, .inl (cs.1, 12, .inl nz))] ++ [(q31, .inl (cs.1, 12, .inl nz))] ++ [(q39, .inl (cs.1, 8, .inl nz))] ++ [(q47, .inl (cs.1, 8, .inl nz))] ++ nSi cs q53 a57) xs.heap _ _ := Z
  refine lv_aload_n S.1 S.2.1 dX10_init_63 rfl (lv_at hl 0 rfl) ?_
  refine lv_sipush (v := 255) S.1 S.2.1 dX10_init_64 (by decide) ?_
  refine n_put S hK Z (j := 7) (v := .int 255) rfl rfl (by decide) iX10_init_X10 tyX10_ok nmX10 qX10_init_37 rfl rfl rfl (Nat.le_of_ble_eq_true rfl) dX10_init_67 (fun H locs Z => ?_)
  have Z : nZ D xA ([(h, .inr (9, [.ref q7, .ref q15, .ref q23, .ref q31, .ref q39, .ref q47, .ref q53, .int 255, .int 0]))] ++ [(q7, .inl (cs.1, 12, .inl nz))] ++ [(q15, .inl (cs.1, 12, .inl nz))] ++ [(q23, .inl (cs.1, 12, .inl nz))] ++ [(q31, .inl (cs.1, 12, .inl nz))] ++ [(q39, .inl (cs.1, 8, .inl nz))] ++ [(q47, .inl (cs.1, 8, .inl nz))] ++ nSi cs q53 a57) xs.heap _ _ := Z
  refine lv_aload_n S.1 S.2.1 dX10_init_70 rfl (lv_at hl 0 rfl) ?_
  refine lv_iconst (v := 0) S.1 S.2.1 dX10_init_71 (by decide) ?_
  refine n_put S hK Z (j := 8) (v := .int 0) rfl rfl (by decide) iX10_init_X10 tyX10_ok nmX10 qX10_init_41 rfl rfl rfl (Nat.le_of_ble_eq_true rfl) dX10_init_72 (fun H locs Z => ?_)
  have Z : nZ D xA ([(h, .inr (9, [.ref q7, .ref q15, .ref q23, .ref q31, .ref q39, .ref q47, .ref q53, .int 255, .int 0]))] ++ [(q7, .inl (cs.1, 12, .inl nz))] ++ [(q15, .inl (cs.1, 12, .inl nz))] ++ [(q23, .inl (cs.1, 12, .inl nz))] ++ [(q31, .inl (cs.1, 12, .inl nz))] ++ [(q39, .inl (cs.1, 8, .inl nz))] ++ [(q47, .inl (cs.1, 8, .inl nz))] ++ nSi cs q53 a57) xs.heap _ _ := Z
  refine lv_iconst (v := 0) S.1 S.2.1 dX10_init_75 (by decide) ?_
  refine lv_istore_n (lv' := [(1, .int (nI 0)), (0, .ref h)]) S.1 S.2.1 dX10_init_76 rfl hl (by decide) rfl (fun ls hl => ?_)
  have Z : nZ D xA ([(h, .inr (9, [.ref q7, .ref q15, .ref q23, .ref q31, .ref q39, .ref q47, .ref q53, .int 255, .int 0]))] ++ [(q7, .inl (cs.1, 12, .inl (nHo 0)))] ++ [(q15, .inl (cs.1, 12, .inl nz))] ++ [(q23, .inl (cs.1, 12, .inl nz))] ++ [(q31, .inl (cs.1, 12, .inl nz))] ++ [(q39, .inl (cs.1, 8, .inl nz))] ++ [(q47, .inl (cs.1, 8, .inl nz))] ++ nSi cs q53 a57) xs.heap H locs := by
    rw [← nHo_0]
    exact Z
  have LP77 : ∀ (fU t : Nat), 12 < t + fU → t ≤ 12 → ∀ (H : Heap) (locs : List Loc) (ls : Array Slot), nZ D xA ([(h, .inr (9, [.ref q7, .ref q15, .ref q23, .ref q31, .ref q39, .ref q47, .ref q53, .int 255, .int 0]))] ++ [(q7, .inl (cs.1, 12, .inl (nHo t)))] ++ [(q15, .inl (cs.1, 12, .inl nz))] ++ [(q23, .inl (cs.1, 12, .inl nz))] ++ [(q31, .inl (cs.1, 12, .inl nz))] ++ [(q39, .inl (cs.1, 8, .inl nz))] ++ [(q47, .inl (cs.1, 8, .inl nz))] ++ nSi cs q53 a57) xs.heap H locs → lv_has ls 2 [(1, .int (nI t)), (0, .ref h)] → W xp l xe (nRm 2 9 83 40) xs xm xa xb xt xc H locs 9 83 (MQ xb (va_Qv (fun _ : Nat → Nat => True) (fun a t => nB D cs xA (nWo cs h a) t) xA) xa xs 9 83 xA) (F0 xm 77 ls []) := by
    intro fU
    induction fU with
    | zero =>
      intro t hfl i1 H locs ls Z hl
      exfalso
      omega
    | succ fU ih77 =>
      intro t hfl i1 H locs ls Z hl
      refine lv_iload_n S.1 S.2.1 dX10_init_77 rfl (lv_at hl 0 rfl) ?_
      refine lv_bipush (v := 12) S.1 S.2.1 dX10_init_78 (by decide) ?_
      refine lv_icmp_ge (tgt := 101) S.1 S.2.1 dX10_init_80 (by decide) (fun c_1 => ?_) (fun c_1 => ?_)
      · skip
        have c_1 : 12 ≤ t := (nI_leI (a := 12) (b := t) (by omega) (by omega)).mp c_1
        have et : t = 12 := by omega
        subst et
        have Z : nZ D xA ([(h, .inr (9, [.ref q7, .ref q15, .ref q23, .ref q31, .ref q39, .ref q47, .ref q53, .int 255, .int 0]))] ++ [(q7, .inl (cs.1, 12, .inl (nHo 12)))] ++ [(q15, .inl (cs.1, 12, .inl nz))] ++ [(q23, .inl (cs.1, 12, .inl nz))] ++ [(q31, .inl (cs.1, 12, .inl nz))] ++ [(q39, .inl (cs.1, 8, .inl nz))] ++ [(q47, .inl (cs.1, 8, .inl nz))] ++ nSi cs q53 a57) xs.heap _ _ := Z
        refine lv_aload_n S.1 S.2.1 dX10_init_101 rfl (lv_at hl 1 rfl) ?_
        refine n_get S hK Z (j := 2) (v := .ref q23) rfl rfl (by decide) iX10_init_X10 qX10_init_18 rfl dX10_init_102 ?_
        refine lv_iconst (v := 5) S.1 S.2.1 dX10_init_105 (by decide) ?_
        refine n_callS (i := 3) (e1 := .inl (cs.1, 12, .inl (nFl nz 12 5))) (As := [.ref q23, .int 5]) (rest := []) S hK hA Z rfl (c_n_fill l D cs q23 12 nz 5 (by decide)) (va_cwS 2 S.2.2.2.2 gX10_init_X5_fill rfl rfl rfl (by decide +kernel) ⟨Nat.le_of_ble_eq_true rfl, Nat.le_of_ble_eq_true rfl⟩) rfl hl.1 rfl (Nat.le_of_ble_eq_true rfl) dX10_init_106 ⟨Nat.le_of_ble_eq_true rfl, Nat.le_of_ble_eq_true rfl⟩ (fun H locs Z => ?_)
        have Z : nZ D xA ([(h, .inr (9, [.ref q7, .ref q15, .ref q23, .ref q31, .ref q39, .ref q47, .ref q53, .int 255, .int 0]))] ++ [(q7, .inl (cs.1, 12, .inl (nHo 12)))] ++ [(q15, .inl (cs.1, 12, .inl nz))] ++ [(q23, .inl (cs.1, 12, .inl (nFl nz 12 5)))] ++ [(q31, .inl (cs.1, 12, .inl nz))] ++ [(q39, .inl (cs.1, 8, .inl nz))] ++ [(q47, .inl (cs.1, 8, .inl nz))] ++ nSi cs q53 a57) xs.heap _ _ := Z
        refine lv_aload_n S.1 S.2.1 dX10_init_109 rfl (lv_at hl 1 rfl) ?_
        refine n_get S hK Z (j := 3) (v := .ref q31) rfl rfl (by decide) iX10_init_X10 qX10_init_21 rfl dX10_init_110 ?_
        refine lv_iconst (v := 1) S.1 S.2.1 dX10_init_113 (by decide) ?_
        refine n_callS (i := 4) (e1 := .inl (cs.1, 12, .inl (nFl nz 12 1))) (As := [.ref q31, .int 1]) (rest := []) S hK hA Z rfl (c_n_fill l D cs q31 12 nz 1 (by decide)) (va_cwS 2 S.2.2.2.2 gX10_init_X5_fill rfl rfl rfl (by decide +kernel) ⟨Nat.le_of_ble_eq_true rfl, Nat.le_of_ble_eq_true rfl⟩) rfl hl.1 rfl (Nat.le_of_ble_eq_true rfl) dX10_init_114 ⟨Nat.le_of_ble_eq_true rfl, Nat.le_of_ble_eq_true rfl⟩ (fun H locs Z => ?_)
        have Z : nZ D xA ([(h, .inr (9, [.ref q7, .ref q15, .ref q23, .ref q31, .ref q39, .ref q47, .ref q53, .int 255, .int 0]))] ++ [(q7, .inl (cs.1, 12, .inl (nHo 12)))] ++ [(q15, .inl (cs.1, 12, .inl nz))] ++ [(q23, .inl (cs.1, 12, .inl (nFl nz 12 5)))] ++ [(q31, .inl (cs.1, 12, .inl (nFl nz 12 1)))] ++ [(q39, .inl (cs.1, 8, .inl nz))] ++ [(q47, .inl (cs.1, 8, .inl nz))] ++ nSi cs q53 a57) xs.heap _ _ := Z
        refine lv_aload_n S.1 S.2.1 dX10_init_117 rfl (lv_at hl 1 rfl) ?_
        refine n_get S hK Z (j := 4) (v := .ref q39) rfl rfl (by decide) iX10_init_X10 qX10_init_24 rfl dX10_init_118 ?_
        refine lv_bipush (v := 100) S.1 S.2.1 dX10_init_121 (by decide) ?_
        refine n_callS (i := 5) (e1 := .inl (cs.1, 8, .inl (nFl nz 8 100))) (As := [.ref q39, .int 100]) (rest := []) S hK hA Z rfl (c_n_fill l D cs q39 8 nz 100 (by decide)) (va_cwS 2 S.2.2.2.2 gX10_init_X5_fill rfl rfl rfl (by decide +kernel) ⟨Nat.le_of_ble_eq_true rfl, Nat.le_of_ble_eq_true rfl⟩) rfl hl.1 rfl (Nat.le_of_ble_eq_true rfl) dX10_init_123 ⟨Nat.le_of_ble_eq_true rfl, Nat.le_of_ble_eq_true rfl⟩ (fun H locs Z => ?_)
        have Z : nZ D xA ([(h, .inr (9, [.ref q7, .ref q15, .ref q23, .ref q31, .ref q39, .ref q47, .ref q53, .int 255, .int 0]))] ++ [(q7, .inl (cs.1, 12, .inl (nHo 12)))] ++ [(q15, .inl (cs.1, 12, .inl nz))] ++ [(q23, .inl (cs.1, 12, .inl (nFl nz 12 5)))] ++ [(q31, .inl (cs.1, 12, .inl (nFl nz 12 1)))] ++ [(q39, .inl (cs.1, 8, .inl (nFl nz 8 100)))] ++ [(q47, .inl (cs.1, 8, .inl nz))] ++ nSi cs q53 a57) xs.heap _ _ := Z
        exact n_ret (w1 := fun a => nWo cs h a) (fun k => ([h, q7, q15, q23, q31, q39, q47, q53, a57 1, a57 2] : List Nat).getD k 0) S hK Z hre hlk rfl (Nat.le_of_ble_eq_true rfl) (Nat.le_of_ble_eq_true rfl) dX10_init_126
      · skip
        have c_1 : ¬ 12 ≤ t := fun z9 => c_1 ((nI_leI (a := 12) (b := t) (by omega) (by omega)).mpr z9)
        refine lv_aload_n S.1 S.2.1 dX10_init_83 rfl (lv_at hl 1 rfl) ?_
        refine n_get S hK Z (j := 0) (v := .ref q7) rfl rfl (by decide) iX10_init_X10 qX10_init_9 rfl dX10_init_84 ?_
        refine lv_iload_n S.1 S.2.1 dX10_init_87 rfl (lv_at hl 0 rfl) ?_
        refine lv_iload_n S.1 S.2.1 dX10_init_88 rfl (lv_at hl 0 rfl) ?_
        refine lv_bipush (v := 8) S.1 S.2.1 dX10_init_89 (by decide) ?_
        refine lv_irem S.1 S.2.1 dX10_init_91 (by decide) ?_
        refine utop (pk_rem (a := t) (d := 8) (by omega) (by omega) (by omega)) ?_
        refine n_callS (i := 1) (e1 := .inl (cs.1, 12, .inl (upd (nHo t) t (nI (t % 8))))) (As := [.ref q7, .int (nI t), .int (nI (t % 8))]) (rest := []) S hK hA Z rfl (c_n_put l D cs q7 12 t (nHo t) (nI (t % 8)) (by decide) (by omega)) (va_cwS 3 S.2.2.2.2 gX10_init_X5_put rfl rfl rfl (by decide +kernel) ⟨Nat.le_of_ble_eq_true rfl, Nat.le_of_ble_eq_true rfl⟩) rfl hl.1 rfl (Nat.le_of_ble_eq_true rfl) dX10_init_92 ⟨Nat.le_of_ble_eq_true rfl, Nat.le_of_ble_eq_true rfl⟩ (fun H locs Z => ?_)
        have Z : nZ D xA ([(h, .inr (9, [.ref q7, .ref q15, .ref q23, .ref q31, .ref q39, .ref q47, .ref q53, .int 255, .int 0]))] ++ [(q7, .inl (cs.1, 12, .inl (upd (nHo t) t (nI (t % 8)))))] ++ [(q15, .inl (cs.1, 12, .inl nz))] ++ [(q23, .inl (cs.1, 12, .inl nz))] ++ [(q31, .inl (cs.1, 12, .inl nz))] ++ [(q39, .inl (cs.1, 8, .inl nz))] ++ [(q47, .inl (cs.1, 8, .inl nz))] ++ nSi cs q53 a57) xs.heap _ _ := Z
        rw [nHo_s] at Z
        refine lv_iinc (v := (nI (t + 1))) (lv' := [(1, .int (nI (t + 1))), (0, .ref h)]) S.1 S.2.1 dX10_init_95 hl (k := 0) rfl (u_inc1 t) (by decide) rfl (fun ls hl => ?_)
        refine lv_goto (tgt := 77) S.1 S.2.1 dX10_init_98 (by decide) ?_
        exact ih77 (t + 1) (by omega) (by omega) _ _ _ Z hl
  exact LP77 13 0 (by omega) (by omega) _ _ _ Z hl
set_option maxHeartbeats 8000000 in
set_option maxRecDepth 100000 in
theorem c_X9_init (l : Launch) (D : va_G) (cs : ClassId × ClassId × ClassId) (h : Nat) : CN l yX9_init wsX9_init 3 10 92 61 D cs [.ref h] [(h, .inr (8, [.null, .int 0, .int 0, .int 0, .int 0, .int 0, .int 0, .int 0]))] (fun a => nTr cs h a) := by
  refine n_start (cc := cX9_init) (maxL := 1) (own := RX9) rfl (by decide) rfl (Nat.le_of_ble_eq_true rfl) ?_
  intro xp xe xs xm xa xb xt xc xA ls S hK hA Z hre hlk hin2 hl
  have hl : lv_has ls 1 [(0, .ref h)] := hl
  have hin2 : xt.name = "<init>" := hin2
  refine lv_aload_n S.1 S.2.1 dX9_init_0 rfl (lv_at hl 0 rfl) ?_
  refine W.objInit S.1 S.2.1 S.2.2.2.1 (S.2.2.2.2 _ nwX9_init_1) (S.2.2.2.2 _ nwX9_init_2) (S.2.2.2.2 _ nwX9_init_3) rfl (hl.1.trans S.2.2.1.symm) rfl dX9_init_1 (Nat.le_of_ble_eq_true rfl) (Nat.le_of_ble_eq_true rfl) ?_
  refine W.eq (g2 := F0 xm 4 ls []) rfl ?_
  refine lv_aload_n S.1 S.2.1 dX9_init_4 rfl (lv_at hl 0 rfl) ?_
  refine n_new S hK hA Z (ci := 9) (fs := [.null, .null, .null, .null, .null, .null, .null, .int 0, .int 0]) rfl iX9_init_X10 tyX10_ok nwX9_init_4 nwX9_init_5 nwX9_init_6 dfX10 (Nat.le_of_ble_eq_true rfl) (Nat.le_of_ble_eq_true rfl) dX9_init_5 (fun q5 H Z => ?_)
  refine W.widen (k := 1) (n := 9) (Nat.le_of_ble_eq_true rfl) (Nat.le_of_ble_eq_true rfl) ?_
  have Z : nZ D xA ([(h, .inr (8, [.null, .int 0, .int 0, .int 0, .int 0, .int 0, .int 0, .int 0]))] ++ [(q5, .inr (9, [.null, .null, .null, .null, .null, .null, .null, .int 0, .int 0]))]) xs.heap _ _ := Z
  refine lv_dup S.1 S.2.1 dX9_init_8 rfl ?_
  refine n_callI (X := ([(h, .inr (8, [.null, .int 0, .int 0, .int 0, .int 0, .int 0, .int 0, .int 0]))])) (rest := [.ref q5, .ref h]) S hK hA Z (c_X10_init l D cs q5) (cwI 0 S.2.2.2.2 gX9_init_X10_init rfl rfl rfl (S.2.2.2.2 _ nwX9_init_6) (S.2.2.2.2 _ nwX9_init_8) (S.2.2.2.2 _ nwX9_init_9) rfl (by decide +kernel) ⟨Nat.le_of_ble_eq_true rfl, Nat.le_of_ble_eq_true rfl⟩) hl.1 (Nat.le_of_ble_eq_true rfl) dX9_init_9 ⟨Nat.le_of_ble_eq_true rfl, Nat.le_of_ble_eq_true rfl⟩ (fun a9 H locs Z => ?_)
  refine W.widen (k := 10) (n := 92) (Nat.le_of_ble_eq_true rfl) (Nat.le_of_ble_eq_true rfl) ?_
  have Z : nZ D xA ([(h, .inr (8, [.null, .int 0, .int 0, .int 0, .int 0, .int 0, .int 0, .int 0]))] ++ nWo cs q5 a9) xs.heap _ _ := Z
  refine n_putF S hK Z (j := 0) (v := .ref q5) rfl rfl (by decide) iX9_init_X9 tyX9_ok nmX9 qX9_init_12 rfl hin2 rfl rfl rfl (Nat.le_of_ble_eq_true rfl) dX9_init_12 (fun H locs Z => ?_)
  have Z : nZ D xA ([(h, .inr (8, [.ref q5, .int 0, .int 0, .int 0, .int 0, .int 0, .int 0, .int 0]))] ++ nWo cs q5 a9) xs.heap _ _ := Z
  exact n_ret (w1 := fun a => nTr cs h a) (fun k => ([h, q5, a9 1, a9 2, a9 3, a9 4, a9 5, a9 6, a9 7, a9 8, a9 9] : List Nat).getD k 0) S hK Z hre hlk rfl (Nat.le_of_ble_eq_true rfl) (Nat.le_of_ble_eq_true rfl) dX9_init_15
