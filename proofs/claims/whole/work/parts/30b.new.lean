theorem nwX11_init_1 : Cond.methodLink RX11 1 objectInit ∈ wsX11_init := List.mem_of_getElem? (i := 1) rfl
theorem nwX11_init_2 : Cond.instanceMethod objectInit ∈ wsX11_init := List.mem_of_getElem? (i := 2) rfl
theorem nwX11_init_3 : Cond.code objectInit ⟨#[0xb1]⟩ 1 none ∈ wsX11_init := List.mem_of_getElem? (i := 3) rfl
theorem nwX11_init_5 : Cond.instantiable RX10 9 ∈ wsX11_init := List.mem_of_getElem? (i := 5) rfl
theorem nwX11_init_6 : Cond.initialized RX10 ∈ wsX11_init := List.mem_of_getElem? (i := 6) rfl
theorem nwX11_init_4 : Cond.classLink RX11 7 RX10 ∈ wsX11_init := List.mem_of_getElem? (i := 4) rfl
theorem nwX11_init_44 : Cond.methodLink RX11 9 yX10_init ∈ wsX11_init := List.mem_of_getElem? (i := 44) rfl
theorem nwX11_init_45 : Cond.instanceMethod yX10_init ∈ wsX11_init := List.mem_of_getElem? (i := 45) rfl
theorem nwX11_init_10 : Cond.instantiable RX3 2 ∈ wsX11_init := List.mem_of_getElem? (i := 10) rfl
theorem nwX11_init_11 : Cond.initialized RX3 ∈ wsX11_init := List.mem_of_getElem? (i := 11) rfl
theorem nwX11_init_9 : Cond.classLink RX11 19 RX3 ∈ wsX11_init := List.mem_of_getElem? (i := 9) rfl
theorem nwX11_init_75 : Cond.methodLink RX11 21 yX3_init ∈ wsX11_init := List.mem_of_getElem? (i := 75) rfl
theorem nwX11_init_76 : Cond.instanceMethod yX3_init ∈ wsX11_init := List.mem_of_getElem? (i := 76) rfl
theorem nwX11_init_14 : Cond.instantiable RX9 8 ∈ wsX11_init := List.mem_of_getElem? (i := 14) rfl
theorem nwX11_init_15 : Cond.initialized RX9 ∈ wsX11_init := List.mem_of_getElem? (i := 15) rfl
theorem nwX11_init_13 : Cond.classLink RX11 26 RX9 ∈ wsX11_init := List.mem_of_getElem? (i := 13) rfl
theorem nwX11_init_81 : Cond.methodLink RX11 28 yX9_init ∈ wsX11_init := List.mem_of_getElem? (i := 81) rfl
theorem nwX11_init_82 : Cond.instanceMethod yX9_init ∈ wsX11_init := List.mem_of_getElem? (i := 82) rfl
theorem nwX11_init_18 : Cond.instantiable RX6 2 ∈ wsX11_init := List.mem_of_getElem? (i := 18) rfl
theorem nwX11_init_19 : Cond.initialized RX6 ∈ wsX11_init := List.mem_of_getElem? (i := 19) rfl
theorem nwX11_init_17 : Cond.classLink RX11 33 RX6 ∈ wsX11_init := List.mem_of_getElem? (i := 17) rfl
theorem nwX11_init_88 : Cond.methodLink RX11 35 yX6_init ∈ wsX11_init := List.mem_of_getElem? (i := 88) rfl
theorem nwX11_init_89 : Cond.instanceMethod yX6_init ∈ wsX11_init := List.mem_of_getElem? (i := 89) rfl
theorem nwX11_init_22 : Cond.instantiable RX4 6 ∈ wsX11_init := List.mem_of_getElem? (i := 22) rfl
theorem nwX11_init_23 : Cond.initialized RX4 ∈ wsX11_init := List.mem_of_getElem? (i := 23) rfl
theorem nwX11_init_21 : Cond.classLink RX11 40 RX4 ∈ wsX11_init := List.mem_of_getElem? (i := 21) rfl
theorem nwX11_init_94 : Cond.methodLink RX11 42 yX4_init ∈ wsX11_init := List.mem_of_getElem? (i := 94) rfl
theorem nwX11_init_95 : Cond.instanceMethod yX4_init ∈ wsX11_init := List.mem_of_getElem? (i := 95) rfl
theorem nwX11_init_26 : Cond.instantiable RX0 5 ∈ wsX11_init := List.mem_of_getElem? (i := 26) rfl
theorem nwX11_init_27 : Cond.initialized RX0 ∈ wsX11_init := List.mem_of_getElem? (i := 27) rfl
theorem nwX11_init_25 : Cond.classLink RX11 47 RX0 ∈ wsX11_init := List.mem_of_getElem? (i := 25) rfl
theorem nwX11_init_101 : Cond.methodLink RX11 49 yX0_init ∈ wsX11_init := List.mem_of_getElem? (i := 101) rfl
theorem nwX11_init_102 : Cond.instanceMethod yX0_init ∈ wsX11_init := List.mem_of_getElem? (i := 102) rfl
theorem nwX11_init_30 : Cond.instantiable RX2 6 ∈ wsX11_init := List.mem_of_getElem? (i := 30) rfl
theorem nwX11_init_31 : Cond.initialized RX2 ∈ wsX11_init := List.mem_of_getElem? (i := 31) rfl
theorem nwX11_init_29 : Cond.classLink RX11 54 RX2 ∈ wsX11_init := List.mem_of_getElem? (i := 29) rfl
theorem nwX11_init_106 : Cond.methodLink RX11 56 yX2_init ∈ wsX11_init := List.mem_of_getElem? (i := 106) rfl
theorem nwX11_init_107 : Cond.instanceMethod yX2_init ∈ wsX11_init := List.mem_of_getElem? (i := 107) rfl
theorem nwX11_init_34 : Cond.instantiable RX7 3 ∈ wsX11_init := List.mem_of_getElem? (i := 34) rfl
theorem nwX11_init_35 : Cond.initialized RX7 ∈ wsX11_init := List.mem_of_getElem? (i := 35) rfl
theorem nwX11_init_33 : Cond.classLink RX11 61 RX7 ∈ wsX11_init := List.mem_of_getElem? (i := 33) rfl
theorem nwX11_init_112 : Cond.methodLink RX11 63 yX7_init ∈ wsX11_init := List.mem_of_getElem? (i := 112) rfl
theorem nwX11_init_113 : Cond.instanceMethod yX7_init ∈ wsX11_init := List.mem_of_getElem? (i := 113) rfl
theorem nwX11_init_38 : Cond.instantiable RX1 2 ∈ wsX11_init := List.mem_of_getElem? (i := 38) rfl
theorem nwX11_init_39 : Cond.initialized RX1 ∈ wsX11_init := List.mem_of_getElem? (i := 39) rfl
theorem nwX11_init_37 : Cond.classLink RX11 68 RX1 ∈ wsX11_init := List.mem_of_getElem? (i := 37) rfl
theorem nwX11_init_119 : Cond.methodLink RX11 70 yX1_init ∈ wsX11_init := List.mem_of_getElem? (i := 119) rfl
theorem nwX11_init_120 : Cond.instanceMethod yX1_init ∈ wsX11_init := List.mem_of_getElem? (i := 120) rfl
theorem qX11_init_10 : Cond.fieldLink RX11 10 (TX11 0).1 (TX11 0).2.1 (TX11 0).2.2.1 ∈ wsX11_init := List.mem_of_getElem? (i := 7) rfl
theorem qX11_init_16 : Cond.fieldLink RX11 16 (TX11 1).1 (TX11 1).2.1 (TX11 1).2.2.1 ∈ wsX11_init := List.mem_of_getElem? (i := 8) rfl
theorem qX11_init_22 : Cond.fieldLink RX11 22 (TX11 2).1 (TX11 2).2.1 (TX11 2).2.2.1 ∈ wsX11_init := List.mem_of_getElem? (i := 12) rfl
theorem qX11_init_29 : Cond.fieldLink RX11 29 (TX11 3).1 (TX11 3).2.1 (TX11 3).2.2.1 ∈ wsX11_init := List.mem_of_getElem? (i := 16) rfl
theorem qX11_init_36 : Cond.fieldLink RX11 36 (TX11 4).1 (TX11 4).2.1 (TX11 4).2.2.1 ∈ wsX11_init := List.mem_of_getElem? (i := 20) rfl
theorem qX11_init_43 : Cond.fieldLink RX11 43 (TX11 5).1 (TX11 5).2.1 (TX11 5).2.2.1 ∈ wsX11_init := List.mem_of_getElem? (i := 24) rfl
theorem qX11_init_50 : Cond.fieldLink RX11 50 (TX11 6).1 (TX11 6).2.1 (TX11 6).2.2.1 ∈ wsX11_init := List.mem_of_getElem? (i := 28) rfl
theorem qX11_init_57 : Cond.fieldLink RX11 57 (TX11 7).1 (TX11 7).2.1 (TX11 7).2.2.1 ∈ wsX11_init := List.mem_of_getElem? (i := 32) rfl
theorem qX11_init_64 : Cond.fieldLink RX11 64 (TX11 8).1 (TX11 8).2.1 (TX11 8).2.2.1 ∈ wsX11_init := List.mem_of_getElem? (i := 36) rfl
theorem qX11_init_71 : Cond.fieldLink RX11 71 (TX11 9).1 (TX11 9).2.1 (TX11 9).2.2.1 ∈ wsX11_init := List.mem_of_getElem? (i := 40) rfl
theorem qX11_init_75 : Cond.fieldLink RX11 75 (TX11 10).1 (TX11 10).2.1 (TX11 10).2.2.1 ∈ wsX11_init := List.mem_of_getElem? (i := 41) rfl
theorem qX11_init_78 : Cond.fieldLink RX11 78 (TX11 11).1 (TX11 11).2.1 (TX11 11).2.2.1 ∈ wsX11_init := List.mem_of_getElem? (i := 42) rfl
theorem qX11_init_81 : Cond.fieldLink RX11 81 (TX11 12).1 (TX11 12).2.1 (TX11 12).2.2.1 ∈ wsX11_init := List.mem_of_getElem? (i := 43) rfl
theorem iX11_init_X10 : ∀ w ∈ wsX100, w ∈ wsX11_init := fun _ h => List.mem_cons_of_mem _ (List.mem_append_left _ (List.mem_append_left _ (List.mem_append_left _ (List.mem_append_left _ (List.mem_append_left _ (List.mem_append_left _ (List.mem_append_left _ (List.mem_append_left _ (List.mem_append_left _ (List.mem_append_left _ (List.mem_append_right _ h)))))))))))
theorem iX11_init_X11 : ∀ w ∈ wsX110, w ∈ wsX11_init := fun _ h => List.mem_cons_of_mem _ (List.mem_append_left _ (List.mem_append_left _ (List.mem_append_left _ (List.mem_append_left _ (List.mem_append_left _ (List.mem_append_left _ (List.mem_append_left _ (List.mem_append_left _ (List.mem_append_left _ (List.mem_append_right _ h))))))))))
theorem iX11_init_X3 : ∀ w ∈ wsX30, w ∈ wsX11_init := fun _ h => List.mem_cons_of_mem _ (List.mem_append_left _ (List.mem_append_left _ (List.mem_append_left _ (List.mem_append_left _ (List.mem_append_left _ (List.mem_append_left _ (List.mem_append_left _ (List.mem_append_left _ (List.mem_append_right _ h)))))))))
theorem iX11_init_X9 : ∀ w ∈ wsX90, w ∈ wsX11_init := fun _ h => List.mem_cons_of_mem _ (List.mem_append_left _ (List.mem_append_left _ (List.mem_append_left _ (List.mem_append_left _ (List.mem_append_left _ (List.mem_append_left _ (List.mem_append_left _ (List.mem_append_right _ h))))))))
theorem iX11_init_X6 : ∀ w ∈ wsX60, w ∈ wsX11_init := fun _ h => List.mem_cons_of_mem _ (List.mem_append_left _ (List.mem_append_left _ (List.mem_append_left _ (List.mem_append_left _ (List.mem_append_left _ (List.mem_append_left _ (List.mem_append_right _ h)))))))
theorem iX11_init_X4 : ∀ w ∈ wsX40, w ∈ wsX11_init := fun _ h => List.mem_cons_of_mem _ (List.mem_append_left _ (List.mem_append_left _ (List.mem_append_left _ (List.mem_append_left _ (List.mem_append_left _ (List.mem_append_right _ h))))))
theorem iX11_init_X0 : ∀ w ∈ wsX00, w ∈ wsX11_init := fun _ h => List.mem_cons_of_mem _ (List.mem_append_left _ (List.mem_append_left _ (List.mem_append_left _ (List.mem_append_left _ (List.mem_append_right _ h)))))
theorem iX11_init_X2 : ∀ w ∈ wsX20, w ∈ wsX11_init := fun _ h => List.mem_cons_of_mem _ (List.mem_append_left _ (List.mem_append_left _ (List.mem_append_left _ (List.mem_append_right _ h))))
theorem iX11_init_X7 : ∀ w ∈ wsX70, w ∈ wsX11_init := fun _ h => List.mem_cons_of_mem _ (List.mem_append_left _ (List.mem_append_left _ (List.mem_append_right _ h)))
theorem iX11_init_X1 : ∀ w ∈ wsX10, w ∈ wsX11_init := fun _ h => List.mem_cons_of_mem _ (List.mem_append_left _ (List.mem_append_right _ h))
set_option maxHeartbeats 8000000 in
set_option maxRecDepth 100000 in
theorem c_X11_init (l : Launch) (D : va_G) (cs : ClassId × ClassId × ClassId) (h : Nat) : CN l yX11_init wsX11_init 4 70 1078 81 D cs [.ref h] [(h, .inr (10, [.null, .null, .null, .null, .null, .null, .null, .null, .null, .null, .null, .null, .int 0]))] (fun a => nCl cs h a) := by
  refine n_start (cc := cX11_init) (maxL := 1) (own := RX11) rfl (by decide) rfl (Nat.le_of_ble_eq_true rfl) ?_
  intro xp xe xs xm xa xb xt xc xA ls S hK hA Z hre hlk hin2 hl
  have hl : lv_has ls 1 [(0, .ref h)] := hl
  have hin2 : xt.name = "<init>" := hin2
  refine lv_aload_n S.1 S.2.1 dX11_init_0 rfl (lv_at hl 0 rfl) ?_
  refine W.objInit S.1 S.2.1 S.2.2.2.1 (S.2.2.2.2 _ nwX11_init_1) (S.2.2.2.2 _ nwX11_init_2) (S.2.2.2.2 _ nwX11_init_3) rfl (hl.1.trans S.2.2.1.symm) rfl dX11_init_1 (Nat.le_of_ble_eq_true rfl) (Nat.le_of_ble_eq_true rfl) ?_
  refine W.eq (g2 := F0 xm 4 ls []) rfl ?_
  refine lv_aload_n S.1 S.2.1 dX11_init_4 rfl (lv_at hl 0 rfl) ?_
  refine n_new S hK hA Z (ci := 9) (fs := [.null, .null, .null, .null, .null, .null, .null, .int 0, .int 0]) rfl iX11_init_X10 tyX10_ok nwX11_init_4 nwX11_init_5 nwX11_init_6 dfX10 (Nat.le_of_ble_eq_true rfl) (Nat.le_of_ble_eq_true rfl) dX11_init_5 (fun q5 H Z => ?_)
  refine W.widen (k := 1) (n := 9) (Nat.le_of_ble_eq_true rfl) (Nat.le_of_ble_eq_true rfl) ?_
  have Z : nZ D xA ([(h, .inr (10, [.null, .null, .null, .null, .null, .null, .null, .null, .null, .null, .null, .null, .int 0]))] ++ [(q5, .inr (9, [.null, .null, .null, .null, .null, .null, .null, .int 0, .int 0]))]) xs.heap _ _ := Z
  refine lv_dup S.1 S.2.1 dX11_init_8 rfl ?_
  refine n_callI (X := ([(h, .inr (10, [.null, .null, .null, .null, .null, .null, .null, .null, .null, .null, .null, .null, .int 0]))])) (rest := [.ref q5, .ref h]) S hK hA Z (c_X10_init l D cs q5) (cwI 0 S.2.2.2.2 gX11_init_X10_init rfl rfl rfl (S.2.2.2.2 _ nwX11_init_6) (S.2.2.2.2 _ nwX11_init_44) (S.2.2.2.2 _ nwX11_init_45) rfl (by decide +kernel) ⟨Nat.le_of_ble_eq_true rfl, Nat.le_of_ble_eq_true rfl⟩) hl.1 (Nat.le_of_ble_eq_true rfl) dX11_init_9 ⟨Nat.le_of_ble_eq_true rfl, Nat.le_of_ble_eq_true rfl⟩ (fun a9 H locs Z => ?_)
  refine W.widen (k := 10) (n := 92) (Nat.le_of_ble_eq_true rfl) (Nat.le_of_ble_eq_true rfl) ?_
  have Z : nZ D xA ([(h, .inr (10, [.null, .null, .null, .null, .null, .null, .null, .null, .null, .null, .null, .null, .int 0]))] ++ nWo cs q5 a9) xs.heap _ _ := Z
  refine n_putF S hK Z (j := 0) (v := .ref q5) rfl rfl (by decide) iX11_init_X11 tyX11_ok nmX11 qX11_init_10 rfl hin2 rfl rfl rfl (Nat.le_of_ble_eq_true rfl) dX11_init_12 (fun H locs Z => ?_)
  have Z : nZ D xA ([(h, .inr (10, [.ref q5, .null, .null, .null, .null, .null, .null, .null, .null, .null, .null, .null, .int 0]))] ++ nWo cs q5 a9) xs.heap _ _ := Z
  refine lv_aload_n S.1 S.2.1 dX11_init_15 rfl (lv_at hl 0 rfl) ?_
  refine n_new S hK hA Z (ci := 9) (fs := [.null, .null, .null, .null, .null, .null, .null, .int 0, .int 0]) rfl iX11_init_X10 tyX10_ok nwX11_init_4 nwX11_init_5 nwX11_init_6 dfX10 (Nat.le_of_ble_eq_true rfl) (Nat.le_of_ble_eq_true rfl) dX11_init_16 (fun q16 H Z => ?_)
  refine W.widen (k := 11) (n := 101) (Nat.le_of_ble_eq_true rfl) (Nat.le_of_ble_eq_true rfl) ?_
  have Z : nZ D xA ([(h, .inr (10, [.ref q5, .null, .null, .null, .null, .null, .null, .null, .null, .null, .null, .null, .int 0]))] ++ nWo cs q5 a9 ++ [(q16, .inr (9, [.null, .null, .null, .null, .null, .null, .null, .int 0, .int 0]))]) xs.heap _ _ := Z
  refine lv_dup S.1 S.2.1 dX11_init_19 rfl ?_
  refine n_callI (X := ([(h, .inr (10, [.ref q5, .null, .null, .null, .null, .null, .null, .null, .null, .null, .null, .null, .int 0]))] ++ nWo cs q5 a9)) (rest := [.ref q16, .ref h]) S hK hA Z (c_X10_init l D cs q16) (cwI 0 S.2.2.2.2 gX11_init_X10_init rfl rfl rfl (S.2.2.2.2 _ nwX11_init_6) (S.2.2.2.2 _ nwX11_init_44) (S.2.2.2.2 _ nwX11_init_45) rfl (by decide +kernel) ⟨Nat.le_of_ble_eq_true rfl, Nat.le_of_ble_eq_true rfl⟩) hl.1 (Nat.le_of_ble_eq_true rfl) dX11_init_20 ⟨Nat.le_of_ble_eq_true rfl, Nat.le_of_ble_eq_true rfl⟩ (fun a20 H locs Z => ?_)
  refine W.widen (k := 20) (n := 184) (Nat.le_of_ble_eq_true rfl) (Nat.le_of_ble_eq_true rfl) ?_
  have Z : nZ D xA ([(h, .inr (10, [.ref q5, .null, .null, .null, .null, .null, .null, .null, .null, .null, .null, .null, .int 0]))] ++ nWo cs q5 a9 ++ nWo cs q16 a20) xs.heap _ _ := Z
  refine n_putF S hK Z (j := 1) (v := .ref q16) rfl rfl (by decide) iX11_init_X11 tyX11_ok nmX11 qX11_init_16 rfl hin2 rfl rfl rfl (Nat.le_of_ble_eq_true rfl) dX11_init_23 (fun H locs Z => ?_)
  have Z : nZ D xA ([(h, .inr (10, [.ref q5, .ref q16, .null, .null, .null, .null, .null, .null, .null, .null, .null, .null, .int 0]))] ++ nWo cs q5 a9 ++ nWo cs q16 a20) xs.heap _ _ := Z
  refine lv_aload_n S.1 S.2.1 dX11_init_26 rfl (lv_at hl 0 rfl) ?_
  refine n_new S hK hA Z (ci := 3) (fs := [.null, .int 0]) rfl iX11_init_X3 tyX3_ok nwX11_init_9 nwX11_init_10 nwX11_init_11 dfX3 (Nat.le_of_ble_eq_true rfl) (Nat.le_of_ble_eq_true rfl) dX11_init_27 (fun q27 H Z => ?_)
  refine W.widen (k := 21) (n := 186) (Nat.le_of_ble_eq_true rfl) (Nat.le_of_ble_eq_true rfl) ?_
  have Z : nZ D xA ([(h, .inr (10, [.ref q5, .ref q16, .null, .null, .null, .null, .null, .null, .null, .null, .null, .null, .int 0]))] ++ nWo cs q5 a9 ++ nWo cs q16 a20 ++ [(q27, .inr (3, [.null, .int 0]))]) xs.heap _ _ := Z
  refine lv_dup S.1 S.2.1 dX11_init_30 rfl ?_
  refine n_callI (X := ([(h, .inr (10, [.ref q5, .ref q16, .null, .null, .null, .null, .null, .null, .null, .null, .null, .null, .int 0]))] ++ nWo cs q5 a9 ++ nWo cs q16 a20)) (rest := [.ref q27, .ref h]) S hK hA Z (c_X3_init l D cs q27) (cwI 0 S.2.2.2.2 gX11_init_X3_init rfl rfl rfl (S.2.2.2.2 _ nwX11_init_11) (S.2.2.2.2 _ nwX11_init_75) (S.2.2.2.2 _ nwX11_init_76) rfl (by decide +kernel) ⟨Nat.le_of_ble_eq_true rfl, Nat.le_of_ble_eq_true rfl⟩) hl.1 (Nat.le_of_ble_eq_true rfl) dX11_init_31 ⟨Nat.le_of_ble_eq_true rfl, Nat.le_of_ble_eq_true rfl⟩ (fun a31 H locs Z => ?_)
  refine W.widen (k := 22) (n := 246) (Nat.le_of_ble_eq_true rfl) (Nat.le_of_ble_eq_true rfl) ?_
  have Z : nZ D xA ([(h, .inr (10, [.ref q5, .ref q16, .null, .null, .null, .null, .null, .null, .null, .null, .null, .null, .int 0]))] ++ nWo cs q5 a9 ++ nWo cs q16 a20 ++ nPa cs q27 a31) xs.heap _ _ := Z
  refine n_putF S hK Z (j := 2) (v := .ref q27) rfl rfl (by decide) iX11_init_X11 tyX11_ok nmX11 qX11_init_22 rfl hin2 rfl rfl rfl (Nat.le_of_ble_eq_true rfl) dX11_init_34 (fun H locs Z => ?_)
  have Z : nZ D xA ([(h, .inr (10, [.ref q5, .ref q16, .ref q27, .null, .null, .null, .null, .null, .null, .null, .null, .null, .int 0]))] ++ nWo cs q5 a9 ++ nWo cs q16 a20 ++ nPa cs q27 a31) xs.heap _ _ := Z
  refine lv_aload_n S.1 S.2.1 dX11_init_37 rfl (lv_at hl 0 rfl) ?_
  refine n_new S hK hA Z (ci := 8) (fs := [.null, .int 0, .int 0, .int 0, .int 0, .int 0, .int 0, .int 0]) rfl iX11_init_X9 tyX9_ok nwX11_init_13 nwX11_init_14 nwX11_init_15 dfX9 (Nat.le_of_ble_eq_true rfl) (Nat.le_of_ble_eq_true rfl) dX11_init_38 (fun q38 H Z => ?_)
  refine W.widen (k := 23) (n := 254) (Nat.le_of_ble_eq_true rfl) (Nat.le_of_ble_eq_true rfl) ?_
  have Z : nZ D xA ([(h, .inr (10, [.ref q5, .ref q16, .ref q27, .null, .null, .null, .null, .null, .null, .null, .null, .null, .int 0]))] ++ nWo cs q5 a9 ++ nWo cs q16 a20 ++ nPa cs q27 a31 ++ [(q38, .inr (8, [.null, .int 0, .int 0, .int 0, .int 0, .int 0, .int 0, .int 0]))]) xs.heap _ _ := Z
  refine lv_dup S.1 S.2.1 dX11_init_41 rfl ?_
  refine n_callI (X := ([(h, .inr (10, [.ref q5, .ref q16, .ref q27, .null, .null, .null, .null, .null, .null, .null, .null, .null, .int 0]))] ++ nWo cs q5 a9 ++ nWo cs q16 a20 ++ nPa cs q27 a31)) (rest := [.ref q38, .ref h]) S hK hA Z (c_X9_init l D cs q38) (cwI 0 S.2.2.2.2 gX11_init_X9_init rfl rfl rfl (S.2.2.2.2 _ nwX11_init_15) (S.2.2.2.2 _ nwX11_init_81) (S.2.2.2.2 _ nwX11_init_82) rfl (by decide +kernel) ⟨Nat.le_of_ble_eq_true rfl, Nat.le_of_ble_eq_true rfl⟩) hl.1 (Nat.le_of_ble_eq_true rfl) dX11_init_42 ⟨Nat.le_of_ble_eq_true rfl, Nat.le_of_ble_eq_true rfl⟩ (fun a42 H locs Z => ?_)
  refine W.widen (k := 33) (n := 346) (Nat.le_of_ble_eq_true rfl) (Nat.le_of_ble_eq_true rfl) ?_
  have Z : nZ D xA ([(h, .inr (10, [.ref q5, .ref q16, .ref q27, .null, .null, .null, .null, .null, .null, .null, .null, .null, .int 0]))] ++ nWo cs q5 a9 ++ nWo cs q16 a20 ++ nPa cs q27 a31 ++ nTr cs q38 a42) xs.heap _ _ := Z
  refine n_putF S hK Z (j := 3) (v := .ref q38) rfl rfl (by decide) iX11_init_X11 tyX11_ok nmX11 qX11_init_29 rfl hin2 rfl rfl rfl (Nat.le_of_ble_eq_true rfl) dX11_init_45 (fun H locs Z => ?_)
  have Z : nZ D xA ([(h, .inr (10, [.ref q5, .ref q16, .ref q27, .ref q38, .null, .null, .null, .null, .null, .null, .null, .null, .int 0]))] ++ nWo cs q5 a9 ++ nWo cs q16 a20 ++ nPa cs q27 a31 ++ nTr cs q38 a42) xs.heap _ _ := Z
  refine lv_aload_n S.1 S.2.1 dX11_init_48 rfl (lv_at hl 0 rfl) ?_
  refine n_new S hK hA Z (ci := 5) (fs := [.null, .null]) rfl iX11_init_X6 tyX6_ok nwX11_init_17 nwX11_init_18 nwX11_init_19 dfX6 (Nat.le_of_ble_eq_true rfl) (Nat.le_of_ble_eq_true rfl) dX11_init_49 (fun q49 H Z => ?_)
  refine W.widen (k := 34) (n := 348) (Nat.le_of_ble_eq_true rfl) (Nat.le_of_ble_eq_true rfl) ?_
  have Z : nZ D xA ([(h, .inr (10, [.ref q5, .ref q16, .ref q27, .ref q38, .null, .null, .null, .null, .null, .null, .null, .null, .int 0]))] ++ nWo cs q5 a9 ++ nWo cs q16 a20 ++ nPa cs q27 a31 ++ nTr cs q38 a42 ++ [(q49, .inr (5, [.null, .null]))]) xs.heap _ _ := Z
  refine lv_dup S.1 S.2.1 dX11_init_52 rfl ?_
  refine n_callI (X := ([(h, .inr (10, [.ref q5, .ref q16, .ref q27, .ref q38, .null, .null, .null, .null, .null, .null, .null, .null, .int 0]))] ++ nWo cs q5 a9 ++ nWo cs q16 a20 ++ nPa cs q27 a31 ++ nTr cs q38 a42)) (rest := [.ref q49, .ref h]) S hK hA Z (c_X6_init l D cs q49) (cwI 0 S.2.2.2.2 gX11_init_X6_init rfl rfl rfl (S.2.2.2.2 _ nwX11_init_19) (S.2.2.2.2 _ nwX11_init_88) (S.2.2.2.2 _ nwX11_init_89) rfl (by decide +kernel) ⟨Nat.le_of_ble_eq_true rfl, Nat.le_of_ble_eq_true rfl⟩) hl.1 (Nat.le_of_ble_eq_true rfl) dX11_init_53 ⟨Nat.le_of_ble_eq_true rfl, Nat.le_of_ble_eq_true rfl⟩ (fun a53 H locs Z => ?_)
  refine W.widen (k := 36) (n := 548) (Nat.le_of_ble_eq_true rfl) (Nat.le_of_ble_eq_true rfl) ?_
  have Z : nZ D xA ([(h, .inr (10, [.ref q5, .ref q16, .ref q27, .ref q38, .null, .null, .null, .null, .null, .null, .null, .null, .int 0]))] ++ nWo cs q5 a9 ++ nWo cs q16 a20 ++ nPa cs q27 a31 ++ nTr cs q38 a42 ++ nSa cs q49 a53) xs.heap _ _ := Z
  refine n_putF S hK Z (j := 4) (v := .ref q49) rfl rfl (by decide) iX11_init_X11 tyX11_ok nmX11 qX11_init_36 rfl hin2 rfl rfl rfl (Nat.le_of_ble_eq_true rfl) dX11_init_56 (fun H locs Z => ?_)
  have Z : nZ D xA ([(h, .inr (10, [.ref q5, .ref q16, .ref q27, .ref q38, .ref q49, .null, .null, .null, .null, .null, .null, .null, .int 0]))] ++ nWo cs q5 a9 ++ nWo cs q16 a20 ++ nPa cs q27 a31 ++ nTr cs q38 a42 ++ nSa cs q49 a53) xs.heap _ _ := Z
  refine lv_aload_n S.1 S.2.1 dX11_init_59 rfl (lv_at hl 0 rfl) ?_
  refine n_new S hK hA Z (ci := 4) (fs := [.null, .null, .null, .int 0, .int 0, .int 0]) rfl iX11_init_X4 tyX4_ok nwX11_init_21 nwX11_init_22 nwX11_init_23 dfX4 (Nat.le_of_ble_eq_true rfl) (Nat.le_of_ble_eq_true rfl) dX11_init_60 (fun q60 H Z => ?_)
  refine W.widen (k := 37) (n := 554) (Nat.le_of_ble_eq_true rfl) (Nat.le_of_ble_eq_true rfl) ?_
  have Z : nZ D xA ([(h, .inr (10, [.ref q5, .ref q16, .ref q27, .ref q38, .ref q49, .null, .null, .null, .null, .null, .null, .null, .int 0]))] ++ nWo cs q5 a9 ++ nWo cs q16 a20 ++ nPa cs q27 a31 ++ nTr cs q38 a42 ++ nSa cs q49 a53 ++ [(q60, .inr (4, [.null, .null, .null, .int 0, .int 0, .int 0]))]) xs.heap _ _ := Z
  refine lv_dup S.1 S.2.1 dX11_init_63 rfl ?_
  refine n_callI (X := ([(h, .inr (10, [.ref q5, .ref q16, .ref q27, .ref q38, .ref q49, .null, .null, .null, .null, .null, .null, .null, .int 0]))] ++ nWo cs q5 a9 ++ nWo cs q16 a20 ++ nPa cs q27 a31 ++ nTr cs q38 a42 ++ nSa cs q49 a53)) (rest := [.ref q60, .ref h]) S hK hA Z (c_X4_init l D cs q60) (cwI 0 S.2.2.2.2 gX11_init_X4_init rfl rfl rfl (S.2.2.2.2 _ nwX11_init_23) (S.2.2.2.2 _ nwX11_init_94) (S.2.2.2.2 _ nwX11_init_95) rfl (by decide +kernel) ⟨Nat.le_of_ble_eq_true rfl, Nat.le_of_ble_eq_true rfl⟩) hl.1 (Nat.le_of_ble_eq_true rfl) dX11_init_64 ⟨Nat.le_of_ble_eq_true rfl, Nat.le_of_ble_eq_true rfl⟩ (fun a64 H locs Z => ?_)
  refine W.widen (k := 40) (n := 578) (Nat.le_of_ble_eq_true rfl) (Nat.le_of_ble_eq_true rfl) ?_
  have Z : nZ D xA ([(h, .inr (10, [.ref q5, .ref q16, .ref q27, .ref q38, .ref q49, .null, .null, .null, .null, .null, .null, .null, .int 0]))] ++ nWo cs q5 a9 ++ nWo cs q16 a20 ++ nPa cs q27 a31 ++ nTr cs q38 a42 ++ nSa cs q49 a53 ++ nRi cs q60 a64) xs.heap _ _ := Z
  refine n_putF S hK Z (j := 5) (v := .ref q60) rfl rfl (by decide) iX11_init_X11 tyX11_ok nmX11 qX11_init_43 rfl hin2 rfl rfl rfl (Nat.le_of_ble_eq_true rfl) dX11_init_67 (fun H locs Z => ?_)
  have Z : nZ D xA ([(h, .inr (10, [.ref q5, .ref q16, .ref q27, .ref q38, .ref q49, .ref q60, .null, .null, .null, .null, .null, .null, .int 0]))] ++ nWo cs q5 a9 ++ nWo cs q16 a20 ++ nPa cs q27 a31 ++ nTr cs q38 a42 ++ nSa cs q49 a53 ++ nRi cs q60 a64) xs.heap _ _ := Z
  refine lv_aload_n S.1 S.2.1 dX11_init_70 rfl (lv_at hl 0 rfl) ?_
  refine n_new S hK hA Z (ci := 0) (fs := [.null, .int 0, .int 0, .long 0, .long 0]) rfl iX11_init_X0 tyX0_ok nwX11_init_25 nwX11_init_26 nwX11_init_27 dfX0 (Nat.le_of_ble_eq_true rfl) (Nat.le_of_ble_eq_true rfl) dX11_init_71 (fun q71 H Z => ?_)
  refine W.widen (k := 41) (n := 583) (Nat.le_of_ble_eq_true rfl) (Nat.le_of_ble_eq_true rfl) ?_
  have Z : nZ D xA ([(h, .inr (10, [.ref q5, .ref q16, .ref q27, .ref q38, .ref q49, .ref q60, .null, .null, .null, .null, .null, .null, .int 0]))] ++ nWo cs q5 a9 ++ nWo cs q16 a20 ++ nPa cs q27 a31 ++ nTr cs q38 a42 ++ nSa cs q49 a53 ++ nRi cs q60 a64 ++ [(q71, .inr (0, [.null, .int 0, .int 0, .long 0, .long 0]))]) xs.heap _ _ := Z
  refine lv_dup S.1 S.2.1 dX11_init_74 rfl ?_
  refine n_callI (X := ([(h, .inr (10, [.ref q5, .ref q16, .ref q27, .ref q38, .ref q49, .ref q60, .null, .null, .null, .null, .null, .null, .int 0]))] ++ nWo cs q5 a9 ++ nWo cs q16 a20 ++ nPa cs q27 a31 ++ nTr cs q38 a42 ++ nSa cs q49 a53 ++ nRi cs q60 a64)) (rest := [.ref q71, .ref h]) S hK hA Z (c_X0_init l D cs q71) (cwI 0 S.2.2.2.2 gX11_init_X0_init rfl rfl rfl (S.2.2.2.2 _ nwX11_init_27) (S.2.2.2.2 _ nwX11_init_101) (S.2.2.2.2 _ nwX11_init_102) rfl (by decide +kernel) ⟨Nat.le_of_ble_eq_true rfl, Nat.le_of_ble_eq_true rfl⟩) hl.1 (Nat.le_of_ble_eq_true rfl) dX11_init_75 ⟨Nat.le_of_ble_eq_true rfl, Nat.le_of_ble_eq_true rfl⟩ (fun a75 H locs Z => ?_)
  refine W.widen (k := 42) (n := 592) (Nat.le_of_ble_eq_true rfl) (Nat.le_of_ble_eq_true rfl) ?_
  have Z : nZ D xA ([(h, .inr (10, [.ref q5, .ref q16, .ref q27, .ref q38, .ref q49, .ref q60, .null, .null, .null, .null, .null, .null, .int 0]))] ++ nWo cs q5 a9 ++ nWo cs q16 a20 ++ nPa cs q27 a31 ++ nTr cs q38 a42 ++ nSa cs q49 a53 ++ nRi cs q60 a64 ++ nCa cs q71 a75) xs.heap _ _ := Z
  refine n_putF S hK Z (j := 6) (v := .ref q71) rfl rfl (by decide) iX11_init_X11 tyX11_ok nmX11 qX11_init_50 rfl hin2 rfl rfl rfl (Nat.le_of_ble_eq_true rfl) dX11_init_78 (fun H locs Z => ?_)
  have Z : nZ D xA ([(h, .inr (10, [.ref q5, .ref q16, .ref q27, .ref q38, .ref q49, .ref q60, .ref q71, .null, .null, .null, .null, .null, .int 0]))] ++ nWo cs q5 a9 ++ nWo cs q16 a20 ++ nPa cs q27 a31 ++ nTr cs q38 a42 ++ nSa cs q49 a53 ++ nRi cs q60 a64 ++ nCa cs q71 a75) xs.heap _ _ := Z
  refine lv_aload_n S.1 S.2.1 dX11_init_81 rfl (lv_at hl 0 rfl) ?_
  refine n_new S hK hA Z (ci := 2) (fs := [.null, .null, .int 0, .int 0, .int 0, .int 0]) rfl iX11_init_X2 tyX2_ok nwX11_init_29 nwX11_init_30 nwX11_init_31 dfX2 (Nat.le_of_ble_eq_true rfl) (Nat.le_of_ble_eq_true rfl) dX11_init_82 (fun q82 H Z => ?_)
  refine W.widen (k := 43) (n := 598) (Nat.le_of_ble_eq_true rfl) (Nat.le_of_ble_eq_true rfl) ?_
  have Z : nZ D xA ([(h, .inr (10, [.ref q5, .ref q16, .ref q27, .ref q38, .ref q49, .ref q60, .ref q71, .null, .null, .null, .null, .null, .int 0]))] ++ nWo cs q5 a9 ++ nWo cs q16 a20 ++ nPa cs q27 a31 ++ nTr cs q38 a42 ++ nSa cs q49 a53 ++ nRi cs q60 a64 ++ nCa cs q71 a75 ++ [(q82, .inr (2, [.null, .null, .int 0, .int 0, .int 0, .int 0]))]) xs.heap _ _ := Z
  refine lv_dup S.1 S.2.1 dX11_init_85 rfl ?_
  refine n_callI (X := ([(h, .inr (10, [.ref q5, .ref q16, .ref q27, .ref q38, .ref q49, .ref q60, .ref q71, .null, .null, .null, .null, .null, .int 0]))] ++ nWo cs q5 a9 ++ nWo cs q16 a20 ++ nPa cs q27 a31 ++ nTr cs q38 a42 ++ nSa cs q49 a53 ++ nRi cs q60 a64 ++ nCa cs q71 a75)) (rest := [.ref q82, .ref h]) S hK hA Z (c_X2_init l D cs q82) (cwI 0 S.2.2.2.2 gX11_init_X2_init rfl rfl rfl (S.2.2.2.2 _ nwX11_init_31) (S.2.2.2.2 _ nwX11_init_106) (S.2.2.2.2 _ nwX11_init_107) rfl (by decide +kernel) ⟨Nat.le_of_ble_eq_true rfl, Nat.le_of_ble_eq_true rfl⟩) hl.1 (Nat.le_of_ble_eq_true rfl) dX11_init_86 ⟨Nat.le_of_ble_eq_true rfl, Nat.le_of_ble_eq_true rfl⟩ (fun a86 H locs Z => ?_)
  refine W.widen (k := 45) (n := 628) (Nat.le_of_ble_eq_true rfl) (Nat.le_of_ble_eq_true rfl) ?_
  have Z : nZ D xA ([(h, .inr (10, [.ref q5, .ref q16, .ref q27, .ref q38, .ref q49, .ref q60, .ref q71, .null, .null, .null, .null, .null, .int 0]))] ++ nWo cs q5 a9 ++ nWo cs q16 a20 ++ nPa cs q27 a31 ++ nTr cs q38 a42 ++ nSa cs q49 a53 ++ nRi cs q60 a64 ++ nCa cs q71 a75 ++ nHa cs q82 a86) xs.heap _ _ := Z
  refine n_putF S hK Z (j := 7) (v := .ref q82) rfl rfl (by decide) iX11_init_X11 tyX11_ok nmX11 qX11_init_57 rfl hin2 rfl rfl rfl (Nat.le_of_ble_eq_true rfl) dX11_init_89 (fun H locs Z => ?_)
  have Z : nZ D xA ([(h, .inr (10, [.ref q5, .ref q16, .ref q27, .ref q38, .ref q49, .ref q60, .ref q71, .ref q82, .null, .null, .null, .null, .int 0]))] ++ nWo cs q5 a9 ++ nWo cs q16 a20 ++ nPa cs q27 a31 ++ nTr cs q38 a42 ++ nSa cs q49 a53 ++ nRi cs q60 a64 ++ nCa cs q71 a75 ++ nHa cs q82 a86) xs.heap _ _ := Z
  refine lv_aload_n S.1 S.2.1 dX11_init_92 rfl (lv_at hl 0 rfl) ?_
  refine n_new S hK hA Z (ci := 6) (fs := [.null, .null, .int 0]) rfl iX11_init_X7 tyX7_ok nwX11_init_33 nwX11_init_34 nwX11_init_35 dfX7 (Nat.le_of_ble_eq_true rfl) (Nat.le_of_ble_eq_true rfl) dX11_init_93 (fun q93 H Z => ?_)
  refine W.widen (k := 46) (n := 631) (Nat.le_of_ble_eq_true rfl) (Nat.le_of_ble_eq_true rfl) ?_
  have Z : nZ D xA ([(h, .inr (10, [.ref q5, .ref q16, .ref q27, .ref q38, .ref q49, .ref q60, .ref q71, .ref q82, .null, .null, .null, .null, .int 0]))] ++ nWo cs q5 a9 ++ nWo cs q16 a20 ++ nPa cs q27 a31 ++ nTr cs q38 a42 ++ nSa cs q49 a53 ++ nRi cs q60 a64 ++ nCa cs q71 a75 ++ nHa cs q82 a86 ++ [(q93, .inr (6, [.null, .null, .int 0]))]) xs.heap _ _ := Z
  refine lv_dup S.1 S.2.1 dX11_init_96 rfl ?_
  refine n_callI (X := ([(h, .inr (10, [.ref q5, .ref q16, .ref q27, .ref q38, .ref q49, .ref q60, .ref q71, .ref q82, .null, .null, .null, .null, .int 0]))] ++ nWo cs q5 a9 ++ nWo cs q16 a20 ++ nPa cs q27 a31 ++ nTr cs q38 a42 ++ nSa cs q49 a53 ++ nRi cs q60 a64 ++ nCa cs q71 a75 ++ nHa cs q82 a86)) (rest := [.ref q93, .ref h]) S hK hA Z (c_X7_init l D cs q93) (cwI 0 S.2.2.2.2 gX11_init_X7_init rfl rfl rfl (S.2.2.2.2 _ nwX11_init_35) (S.2.2.2.2 _ nwX11_init_112) (S.2.2.2.2 _ nwX11_init_113) rfl (by decide +kernel) ⟨Nat.le_of_ble_eq_true rfl, Nat.le_of_ble_eq_true rfl⟩) hl.1 (Nat.le_of_ble_eq_true rfl) dX11_init_97 ⟨Nat.le_of_ble_eq_true rfl, Nat.le_of_ble_eq_true rfl⟩ (fun a97 H locs Z => ?_)
  refine W.widen (k := 48) (n := 879) (Nat.le_of_ble_eq_true rfl) (Nat.le_of_ble_eq_true rfl) ?_
  have Z : nZ D xA ([(h, .inr (10, [.ref q5, .ref q16, .ref q27, .ref q38, .ref q49, .ref q60, .ref q71, .ref q82, .null, .null, .null, .null, .int 0]))] ++ nWo cs q5 a9 ++ nWo cs q16 a20 ++ nPa cs q27 a31 ++ nTr cs q38 a42 ++ nSa cs q49 a53 ++ nRi cs q60 a64 ++ nCa cs q71 a75 ++ nHa cs q82 a86 ++ nSh cs q93 a97) xs.heap _ _ := Z
  refine n_putF S hK Z (j := 8) (v := .ref q93) rfl rfl (by decide) iX11_init_X11 tyX11_ok nmX11 qX11_init_64 rfl hin2 rfl rfl rfl (Nat.le_of_ble_eq_true rfl) dX11_init_100 (fun H locs Z => ?_)
  have Z : nZ D xA ([(h, .inr (10, [.ref q5, .ref q16, .ref q27, .ref q38, .ref q49, .ref q60, .ref q71, .ref q82, .ref q93, .null, .null, .null, .int 0]))] ++ nWo cs q5 a9 ++ nWo cs q16 a20 ++ nPa cs q27 a31 ++ nTr cs q38 a42 ++ nSa cs q49 a53 ++ nRi cs q60 a64 ++ nCa cs q71 a75 ++ nHa cs q82 a86 ++ nSh cs q93 a97) xs.heap _ _ := Z
  refine lv_aload_n S.1 S.2.1 dX11_init_103 rfl (lv_at hl 0 rfl) ?_
  refine n_new S hK hA Z (ci := 1) (fs := [.null, .long 0]) rfl iX11_init_X1 tyX1_ok nwX11_init_37 nwX11_init_38 nwX11_init_39 dfX1 (Nat.le_of_ble_eq_true rfl) (Nat.le_of_ble_eq_true rfl) dX11_init_104 (fun q104 H Z => ?_)
  refine W.widen (k := 49) (n := 881) (Nat.le_of_ble_eq_true rfl) (Nat.le_of_ble_eq_true rfl) ?_
  have Z : nZ D xA ([(h, .inr (10, [.ref q5, .ref q16, .ref q27, .ref q38, .ref q49, .ref q60, .ref q71, .ref q82, .ref q93, .null, .null, .null, .int 0]))] ++ nWo cs q5 a9 ++ nWo cs q16 a20 ++ nPa cs q27 a31 ++ nTr cs q38 a42 ++ nSa cs q49 a53 ++ nRi cs q60 a64 ++ nCa cs q71 a75 ++ nHa cs q82 a86 ++ nSh cs q93 a97 ++ [(q104, .inr (1, [.null, .long 0]))]) xs.heap _ _ := Z
  refine lv_dup S.1 S.2.1 dX11_init_107 rfl ?_
  refine n_callI (X := ([(h, .inr (10, [.ref q5, .ref q16, .ref q27, .ref q38, .ref q49, .ref q60, .ref q71, .ref q82, .ref q93, .null, .null, .null, .int 0]))] ++ nWo cs q5 a9 ++ nWo cs q16 a20 ++ nPa cs q27 a31 ++ nTr cs q38 a42 ++ nSa cs q49 a53 ++ nRi cs q60 a64 ++ nCa cs q71 a75 ++ nHa cs q82 a86 ++ nSh cs q93 a97)) (rest := [.ref q104, .ref h]) S hK hA Z (c_X1_init l D cs q104) (cwI 0 S.2.2.2.2 gX11_init_X1_init rfl rfl rfl (S.2.2.2.2 _ nwX11_init_39) (S.2.2.2.2 _ nwX11_init_119) (S.2.2.2.2 _ nwX11_init_120) rfl (by decide +kernel) ⟨Nat.le_of_ble_eq_true rfl, Nat.le_of_ble_eq_true rfl⟩) hl.1 (Nat.le_of_ble_eq_true rfl) dX11_init_108 ⟨Nat.le_of_ble_eq_true rfl, Nat.le_of_ble_eq_true rfl⟩ (fun a108 H locs Z => ?_)
  refine W.widen (k := 50) (n := 894) (Nat.le_of_ble_eq_true rfl) (Nat.le_of_ble_eq_true rfl) ?_
  have Z : nZ D xA ([(h, .inr (10, [.ref q5, .ref q16, .ref q27, .ref q38, .ref q49, .ref q60, .ref q71, .ref q82, .ref q93, .null, .null, .null, .int 0]))] ++ nWo cs q5 a9 ++ nWo cs q16 a20 ++ nPa cs q27 a31 ++ nTr cs q38 a42 ++ nSa cs q49 a53 ++ nRi cs q60 a64 ++ nCa cs q71 a75 ++ nHa cs q82 a86 ++ nSh cs q93 a97 ++ nCh cs q104 a108) xs.heap _ _ := Z
  refine n_putF S hK Z (j := 9) (v := .ref q104) rfl rfl (by decide) iX11_init_X11 tyX11_ok nmX11 qX11_init_71 rfl hin2 rfl rfl rfl (Nat.le_of_ble_eq_true rfl) dX11_init_111 (fun H locs Z => ?_)
  have Z : nZ D xA ([(h, .inr (10, [.ref q5, .ref q16, .ref q27, .ref q38, .ref q49, .ref q60, .ref q71, .ref q82, .ref q93, .ref q104, .null, .null, .int 0]))] ++ nWo cs q5 a9 ++ nWo cs q16 a20 ++ nPa cs q27 a31 ++ nTr cs q38 a42 ++ nSa cs q49 a53 ++ nRi cs q60 a64 ++ nCa cs q71 a75 ++ nHa cs q82 a86 ++ nSh cs q93 a97 ++ nCh cs q104 a108) xs.heap _ _ := Z
  refine lv_aload_n S.1 S.2.1 dX11_init_114 rfl (lv_at hl 0 rfl) ?_
  refine n_new S hK hA Z (ci := 9) (fs := [.null, .null, .null, .null, .null, .null, .null, .int 0, .int 0]) rfl iX11_init_X10 tyX10_ok nwX11_init_4 nwX11_init_5 nwX11_init_6 dfX10 (Nat.le_of_ble_eq_true rfl) (Nat.le_of_ble_eq_true rfl) dX11_init_115 (fun q115 H Z => ?_)
  refine W.widen (k := 51) (n := 903) (Nat.le_of_ble_eq_true rfl) (Nat.le_of_ble_eq_true rfl) ?_
  have Z : nZ D xA ([(h, .inr (10, [.ref q5, .ref q16, .ref q27, .ref q38, .ref q49, .ref q60, .ref q71, .ref q82, .ref q93, .ref q104, .null, .null, .int 0]))] ++ nWo cs q5 a9 ++ nWo cs q16 a20 ++ nPa cs q27 a31 ++ nTr cs q38 a42 ++ nSa cs q49 a53 ++ nRi cs q60 a64 ++ nCa cs q71 a75 ++ nHa cs q82 a86 ++ nSh cs q93 a97 ++ nCh cs q104 a108 ++ [(q115, .inr (9, [.null, .null, .null, .null, .null, .null, .null, .int 0, .int 0]))]) xs.heap _ _ := Z
  refine lv_dup S.1 S.2.1 dX11_init_118 rfl ?_
  refine n_callI (X := ([(h, .inr (10, [.ref q5, .ref q16, .ref q27, .ref q38, .ref q49, .ref q60, .ref q71, .ref q82, .ref q93, .ref q104, .null, .null, .int 0]))] ++ nWo cs q5 a9 ++ nWo cs q16 a20 ++ nPa cs q27 a31 ++ nTr cs q38 a42 ++ nSa cs q49 a53 ++ nRi cs q60 a64 ++ nCa cs q71 a75 ++ nHa cs q82 a86 ++ nSh cs q93 a97 ++ nCh cs q104 a108)) (rest := [.ref q115, .ref h]) S hK hA Z (c_X10_init l D cs q115) (cwI 0 S.2.2.2.2 gX11_init_X10_init rfl rfl rfl (S.2.2.2.2 _ nwX11_init_6) (S.2.2.2.2 _ nwX11_init_44) (S.2.2.2.2 _ nwX11_init_45) rfl (by decide +kernel) ⟨Nat.le_of_ble_eq_true rfl, Nat.le_of_ble_eq_true rfl⟩) hl.1 (Nat.le_of_ble_eq_true rfl) dX11_init_119 ⟨Nat.le_of_ble_eq_true rfl, Nat.le_of_ble_eq_true rfl⟩ (fun a119 H locs Z => ?_)
  refine W.widen (k := 60) (n := 986) (Nat.le_of_ble_eq_true rfl) (Nat.le_of_ble_eq_true rfl) ?_
  have Z : nZ D xA ([(h, .inr (10, [.ref q5, .ref q16, .ref q27, .ref q38, .ref q49, .ref q60, .ref q71, .ref q82, .ref q93, .ref q104, .null, .null, .int 0]))] ++ nWo cs q5 a9 ++ nWo cs q16 a20 ++ nPa cs q27 a31 ++ nTr cs q38 a42 ++ nSa cs q49 a53 ++ nRi cs q60 a64 ++ nCa cs q71 a75 ++ nHa cs q82 a86 ++ nSh cs q93 a97 ++ nCh cs q104 a108 ++ nWo cs q115 a119) xs.heap _ _ := Z
  refine n_putF S hK Z (j := 10) (v := .ref q115) rfl rfl (by decide) iX11_init_X11 tyX11_ok nmX11 qX11_init_75 rfl hin2 rfl rfl rfl (Nat.le_of_ble_eq_true rfl) dX11_init_122 (fun H locs Z => ?_)
  have Z : nZ D xA ([(h, .inr (10, [.ref q5, .ref q16, .ref q27, .ref q38, .ref q49, .ref q60, .ref q71, .ref q82, .ref q93, .ref q104, .ref q115, .null, .int 0]))] ++ nWo cs q5 a9 ++ nWo cs q16 a20 ++ nPa cs q27 a31 ++ nTr cs q38 a42 ++ nSa cs q49 a53 ++ nRi cs q60 a64 ++ nCa cs q71 a75 ++ nHa cs q82 a86 ++ nSh cs q93 a97 ++ nCh cs q104 a108 ++ nWo cs q115 a119) xs.heap _ _ := Z
  refine lv_aload_n S.1 S.2.1 dX11_init_125 rfl (lv_at hl 0 rfl) ?_
  refine n_new S hK hA Z (ci := 9) (fs := [.null, .null, .null, .null, .null, .null, .null, .int 0, .int 0]) rfl iX11_init_X10 tyX10_ok nwX11_init_4 nwX11_init_5 nwX11_init_6 dfX10 (Nat.le_of_ble_eq_true rfl) (Nat.le_of_ble_eq_true rfl) dX11_init_126 (fun q126 H Z => ?_)
  refine W.widen (k := 61) (n := 995) (Nat.le_of_ble_eq_true rfl) (Nat.le_of_ble_eq_true rfl) ?_
  have Z : nZ D xA ([(h, .inr (10, [.ref q5, .ref q16, .ref q27, .ref q38, .ref q49, .ref q60, .ref q71, .ref q82, .ref q93, .ref q104, .ref q115, .null, .int 0]))] ++ nWo cs q5 a9 ++ nWo cs q16 a20 ++ nPa cs q27 a31 ++ nTr cs q38 a42 ++ nSa cs q49 a53 ++ nRi cs q60 a64 ++ nCa cs q71 a75 ++ nHa cs q82 a86 ++ nSh cs q93 a97 ++ nCh cs q104 a108 ++ nWo cs q115 a119 ++ [(q126, .inr (9, [.null, .null, .null, .null, .null, .null, .null, .int 0, .int 0]))]) xs.heap _ _ := Z
  refine lv_dup S.1 S.2.1 dX11_init_129 rfl ?_
  refine n_callI (X := ([(h, .inr (10, [.ref q5, .ref q16, .ref q27, .ref q38, .ref q49, .ref q60, .ref q71, .ref q82, .ref q93, .ref q104, .ref q115, .null, .int 0]))] ++ nWo cs q5 a9 ++ nWo cs q16 a20 ++ nPa cs q27 a31 ++ nTr cs q38 a42 ++ nSa cs q49 a53 ++ nRi cs q60 a64 ++ nCa cs q71 a75 ++ nHa cs q82 a86 ++ nSh cs q93 a97 ++ nCh cs q104 a108 ++ nWo cs q115 a119)) (rest := [.ref q126, .ref h]) S hK hA Z (c_X10_init l D cs q126) (cwI 0 S.2.2.2.2 gX11_init_X10_init rfl rfl rfl (S.2.2.2.2 _ nwX11_init_6) (S.2.2.2.2 _ nwX11_init_44) (S.2.2.2.2 _ nwX11_init_45) rfl (by decide +kernel) ⟨Nat.le_of_ble_eq_true rfl, Nat.le_of_ble_eq_true rfl⟩) hl.1 (Nat.le_of_ble_eq_true rfl) dX11_init_130 ⟨Nat.le_of_ble_eq_true rfl, Nat.le_of_ble_eq_true rfl⟩ (fun a130 H locs Z => ?_)
  refine W.widen (k := 70) (n := 1078) (Nat.le_of_ble_eq_true rfl) (Nat.le_of_ble_eq_true rfl) ?_
  have Z : nZ D xA ([(h, .inr (10, [.ref q5, .ref q16, .ref q27, .ref q38, .ref q49, .ref q60, .ref q71, .ref q82, .ref q93, .ref q104, .ref q115, .null, .int 0]))] ++ nWo cs q5 a9 ++ nWo cs q16 a20 ++ nPa cs q27 a31 ++ nTr cs q38 a42 ++ nSa cs q49 a53 ++ nRi cs q60 a64 ++ nCa cs q71 a75 ++ nHa cs q82 a86 ++ nSh cs q93 a97 ++ nCh cs q104 a108 ++ nWo cs q115 a119 ++ nWo cs q126 a130) xs.heap _ _ := Z
  refine n_putF S hK Z (j := 11) (v := .ref q126) rfl rfl (by decide) iX11_init_X11 tyX11_ok nmX11 qX11_init_78 rfl hin2 rfl rfl rfl (Nat.le_of_ble_eq_true rfl) dX11_init_133 (fun H locs Z => ?_)
  have Z : nZ D xA ([(h, .inr (10, [.ref q5, .ref q16, .ref q27, .ref q38, .ref q49, .ref q60, .ref q71, .ref q82, .ref q93, .ref q104, .ref q115, .ref q126, .int 0]))] ++ nWo cs q5 a9 ++ nWo cs q16 a20 ++ nPa cs q27 a31 ++ nTr cs q38 a42 ++ nSa cs q49 a53 ++ nRi cs q60 a64 ++ nCa cs q71 a75 ++ nHa cs q82 a86 ++ nSh cs q93 a97 ++ nCh cs q104 a108 ++ nWo cs q115 a119 ++ nWo cs q126 a130) xs.heap _ _ := Z
  refine lv_aload_n S.1 S.2.1 dX11_init_136 rfl (lv_at hl 0 rfl) ?_
  refine lv_iconst (v := 0) S.1 S.2.1 dX11_init_137 (by decide) ?_
  refine n_put S hK Z (j := 12) (v := .int 0) rfl rfl (by decide) iX11_init_X11 tyX11_ok nmX11 qX11_init_81 rfl rfl rfl (Nat.le_of_ble_eq_true rfl) dX11_init_138 (fun H locs Z => ?_)
  have Z : nZ D xA ([(h, .inr (10, [.ref q5, .ref q16, .ref q27, .ref q38, .ref q49, .ref q60, .ref q71, .ref q82, .ref q93, .ref q104, .ref q115, .ref q126, .int 0]))] ++ nWo cs q5 a9 ++ nWo cs q16 a20 ++ nPa cs q27 a31 ++ nTr cs q38 a42 ++ nSa cs q49 a53 ++ nRi cs q60 a64 ++ nCa cs q71 a75 ++ nHa cs q82 a86 ++ nSh cs q93 a97 ++ nCh cs q104 a108 ++ nWo cs q115 a119 ++ nWo cs q126 a130) xs.heap _ _ := Z
  exact n_ret (w1 := fun a => nCl cs h a) (fun k => ([h, q5, a9 1, a9 2, a9 3, a9 4, a9 5, a9 6, a9 7, a9 8, a9 9, q16, a20 1, a20 2, a20 3, a20 4, a20 5, a20 6, a20 7, a20 8, a20 9, q27, a31 1, q38, a42 1, a42 2, a42 3, a42 4, a42 5, a42 6, a42 7, a42 8, a42 9, a42 10, q49, a53 1, a53 2, q60, a64 1, a64 2, a64 3, q71, a75 1, q82, a86 1, a86 2, q93, a97 1, a97 2, q104, a108 1, q115, a119 1, a119 2, a119 3, a119 4, a119 5, a119 6, a119 7, a119 8, a119 9, q126, a130 1, a130 2, a130 3, a130 4, a130 5, a130 6, a130 7, a130 8, a130 9] : List Nat).getD k 0) S hK Z hre hlk rfl (Nat.le_of_ble_eq_true rfl) (Nat.le_of_ble_eq_true rfl) dX11_init_141
