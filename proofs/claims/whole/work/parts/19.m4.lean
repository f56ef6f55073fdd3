theorem cFa_no {s : Nat → Nat} {i : Nat} (h : cFa s i = none) (h4 : ¬ cRun s (i + 1) = 4) : cFa s (i + 1) = none := by
  simp [cFa, h, h4]
theorem fD_le (d : Nat) : fD d ≤ 3 := by
  unfold fD
  repeat' split
  all_goals omega
theorem fD_ne {d : Nat} (h : ¬ d = 0) : ¬ fD d = 0 := by
  unfold fD
  rw [if_neg h]
  repeat' split
  all_goals omega
theorem pSt_0 (s A W T Q : Nat → Nat) : pSt s 0 0 0 A W T Q := ⟨Nat.le_refl _, fun j hj => absurd hj (Nat.not_lt_zero _), by omega, fun _ => rfl, fun q => by omega, fun q => by omega, fun q => by omega, fun q => by omega, fun q => by omega, fun q => by omega⟩
/-- what is kept of a world -/
def hdIs (h : Nat → Nat) (w : Nat → Nat → Nat) : Prop := (∀ j, j < 12 → h j = w 1 j ∧ h (12 + j) = w 2 j) ∧ (∀ j, j < 8 → h (24 + j) = w 5 j) ∧ h 32 = w 0 7 ∧ h 33 = w 0 8
def sameR (w1 w : Nat → Nat → Nat) : Prop := ∀ j i, j ≠ 0 → j ≠ 1 → j ≠ 2 → j ≠ 5 → w1 j i = w j i
theorem wcp_0 (w1 w : Nat → Nat → Nat) (j : Nat) : wcp w1 w j 0 = w1 := funext fun a => funext fun c => if_neg (fun z => absurd z.2 (Nat.not_lt_zero _))
theorem wcp_s (X w : Nat → Nat → Nat) (j k : Nat) : wu (wcp X w j k) j k (w j k) = wcp X w j (k + 1) := funext fun a => funext fun c => by
  unfold wu wcp
  by_cases h : a = j ∧ c = k
  · rw [if_pos h, if_pos ⟨h.1, by omega⟩, h.1, h.2]
  · rw [if_neg h]
    by_cases h2 : a = j ∧ c < k
    · rw [if_pos h2, if_pos ⟨h2.1, by omega⟩]
    · rw [if_neg h2, if_neg (fun z => h2 ⟨z.1, by omega⟩)]
theorem wcp_wu {X w : Nat → Nat → Nat} {j n a c v : Nat} (h : a ≠ j) : wu (wcp X w j n) a c v = wcp (wu X a c v) w j n := funext fun x => funext fun y => by
  unfold wu wcp
  dsimp only
  by_cases h1 : x = a ∧ y = c
  · rw [if_pos h1, if_neg (fun z => h (h1.1.symm.trans z.1)), if_pos h1]
  · rw [if_neg h1, if_neg h1]
theorem bk_1 (w1 w : Nat → Nat → Nat) (t : Nat) : wu (wu (wcp (wcp w1 w 1 t) w 2 t) 1 t (w 1 t)) 2 t (w 2 t) = wcp (wcp w1 w 1 (t + 1)) w 2 (t + 1) := by
  rw [wcp_wu (by decide), wcp_s, wcp_s]
theorem bk_end {w1 w : Nat → Nat → Nat} (hs : sameR w1 w) (h1 : zOut w1) (h2 : zOut w) : wu (wu (wcp (wcp (wcp w1 w 1 12) w 2 12) w 5 8) 0 7 (w 0 7)) 0 8 (w 0 8) = w := funext fun a => funext fun c => by
  by_cases q : wIn a c
  · unfold wIn at q
    unfold wu wcp
    by_cases e1 : a = 0 ∧ c = 8
    · rw [if_pos e1, e1.1, e1.2]
    rw [if_neg e1]
    by_cases e2 : a = 0 ∧ c = 7
    · rw [if_pos e2, e2.1, e2.2]
    rw [if_neg e2]
    by_cases e3 : a = 5 ∧ c < 8
    · rw [if_pos e3]
    rw [if_neg e3]
    by_cases e4 : a = 2 ∧ c < 12
    · rw [if_pos e4]
    rw [if_neg e4]
    by_cases e5 : a = 1 ∧ c < 12
    · rw [if_pos e5]
    rw [if_neg e5]
    exact hs a c (by omega) (by omega) (by omega) (by omega)
  · rw [h2 a c q]
    have h3 := h1 a c q
    unfold wIn at q
    unfold wu wcp
    rw [if_neg (by omega), if_neg (by omega), if_neg (by omega), if_neg (by omega), if_neg (by omega), h3]
theorem sameR_rf (w : Nat → Nat → Nat) : sameR w w := fun _ _ _ _ _ _ => rfl
theorem sameR_ac {w w0 : Nat → Nat → Nat} {kd k t q : Nat} (h : sameR w w0) : sameR (ac w kd k t q).2 w0 := fun j i h0 h1 h2 h5 => by
  rw [← h j i h0 h1 h2 h5]
  unfold ac acTake acSell acGive acNight acDoor wHand wOwn
  repeat' split
  all_goals first
    | rfl
    | simp [wu, h0, h1, h2, h5]
theorem tStep_rel {x : tS} {kd k t q k' t' q' : Nat} (hkd : kd ≤ 4) (hk : kd < 4 → k = k') (ht : kd < 3 → t = t') (hq : kd = 1 ∨ kd = 2 → q = q') : tStep x kd k t q = tStep x kd k' t' q' := by
  rcases (show kd = 0 ∨ kd = 1 ∨ kd = 2 ∨ kd = 3 ∨ kd = 4 by omega) with rfl | rfl | rfl | rfl | rfl
  · rw [hk (by decide), ht (by decide)]; rfl
  · rw [hk (by decide), ht (by decide), hq (by decide)]
  · rw [hk (by decide), ht (by decide), hq (by decide)]
  · rw [hk (by decide)]; rfl
  · rfl
theorem qX12_fault_124 : Cond.fieldLink RX12 124 (TX12 17).1 (TX12 17).2.1 (TX12 17).2.2.1 ∈ wsX12_fault := List.mem_of_getElem? (i := 1) rfl
theorem iX12_fault_X12 : ∀ w ∈ wsX120, w ∈ wsX12_fault := fun _ h => List.mem_cons_of_mem _ (List.mem_append_right _ h)
theorem qX12_fault_121 : Cond.fieldLink RX12 121 (TX12 12).1 (TX12 12).2.1 (TX12 12).2.2.1 ∈ wsX12_fault := List.mem_of_getElem? (i := 2) rfl
theorem qX12_fault_34 : Cond.fieldLink RX12 34 (TX12 11).1 (TX12 11).2.1 (TX12 11).2.2.1 ∈ wsX12_fault := List.mem_of_getElem? (i := 3) rfl
theorem qX12_keepNow_49 : Cond.fieldLink RX12 49 (TX12 20).1 (TX12 20).2.1 (TX12 20).2.2.1 ∈ wsX12_keepNow := List.mem_of_getElem? (i := 1) rfl
theorem iX12_keepNow_X12 : ∀ w ∈ wsX120, w ∈ wsX12_keepNow := fun _ h => List.mem_cons_of_mem _ (List.mem_append_right _ h)
theorem qX12_keepNow_84 : Cond.fieldLink RX12 84 (TX12 6).1 (TX12 6).2.1 (TX12 6).2.2.1 ∈ wsX12_keepNow := List.mem_of_getElem? (i := 5) rfl
theorem qX12_keepNow_180 : Cond.fieldLink RX12 180 (TX12 7).1 (TX12 7).2.1 (TX12 7).2.2.1 ∈ wsX12_keepNow := List.mem_of_getElem? (i := 6) rfl
theorem qX12_keepNow_22 : Cond.fieldLink RX12 22 (TX12 4).1 (TX12 4).2.1 (TX12 4).2.2.1 ∈ wsX12_keepNow := List.mem_of_getElem? (i := 4) rfl
theorem qX12_keepNow_7 : Cond.fieldLink RX12 7 (TX12 0).1 (TX12 0).2.1 (TX12 0).2.2.1 ∈ wsX12_keepNow := List.mem_of_getElem? (i := 2) rfl
theorem qX12_keepNow_13 : Cond.fieldLink RX12 13 (TX12 1).1 (TX12 1).2.1 (TX12 1).2.2.1 ∈ wsX12_keepNow := List.mem_of_getElem? (i := 3) rfl
theorem qX12_back_49 : Cond.fieldLink RX12 49 (TX12 20).1 (TX12 20).2.1 (TX12 20).2.2.1 ∈ wsX12_back := List.mem_of_getElem? (i := 2) rfl
theorem iX12_back_X12 : ∀ w ∈ wsX120, w ∈ wsX12_back := fun _ h => List.mem_cons_of_mem _ (List.mem_append_right _ h)
theorem qX12_back_84 : Cond.fieldLink RX12 84 (TX12 6).1 (TX12 6).2.1 (TX12 6).2.2.1 ∈ wsX12_back := List.mem_of_getElem? (i := 5) rfl
theorem qX12_back_180 : Cond.fieldLink RX12 180 (TX12 7).1 (TX12 7).2.1 (TX12 7).2.2.1 ∈ wsX12_back := List.mem_of_getElem? (i := 6) rfl
theorem qX12_back_22 : Cond.fieldLink RX12 22 (TX12 4).1 (TX12 4).2.1 (TX12 4).2.2.1 ∈ wsX12_back := List.mem_of_getElem? (i := 4) rfl
theorem qX12_back_7 : Cond.fieldLink RX12 7 (TX12 0).1 (TX12 0).2.1 (TX12 0).2.2.1 ∈ wsX12_back := List.mem_of_getElem? (i := 1) rfl
theorem qX12_back_13 : Cond.fieldLink RX12 13 (TX12 1).1 (TX12 1).2.1 (TX12 1).2.2.1 ∈ wsX12_back := List.mem_of_getElem? (i := 3) rfl
set_option maxHeartbeats 4000000 in
set_option maxRecDepth 100000 in
theorem c_X12_fault (l : Launch) (G : uG) (s : Nat → Nat) (n : Nat) (M : uM) (f A V T Q : Nat → Nat) (hs80 : ∀ i, M.1 80 i = nI (s i)) (hf12 : f 12 = n) (ho : pdOk s n) : CTi l G yX12_fault wsX12_fault 5 109 [.ref (G.2.2 71)] (uAr (uAr (uAr (uAr (uAr M 71 f) 81 A) 82 V) 83 T) 84 Q) (fun r M2 => r = cFault s n ∧ ∃ f2 A2 W2 T2 Q2, M2 = pM M f2 A2 W2 T2 Q2 ∧ (∀ x, x ≠ 17 → f2 x = f x) ∧ (cFault s n = -6 → pSt s n 0 (f2 17) A2 W2 T2 Q2)) := by
  have hn60 := ho.1
  refine ustart_i (cc := cX12_fault) (maxL := 3) (ret := (some .int)) (own := RX12) rfl (by decide) rfl (Nat.le_of_ble_eq_true rfl) ?_
  intro xp xe xs xm xa xb xt xc xA ls S hK hA Z hre hlk hl
  have hl : lv_has ls 3 [(0, .ref (G.2.2 71))] := hl
  refine lv_aload_n S.1 S.2.1 dX12_fault_0 rfl (lv_at hl 0 rfl) ?_
  refine lv_iconst (v := 0) S.1 S.2.1 dX12_fault_1 (by decide) ?_
  refine up_i S hK Z (j := 17) (by decide) rfl rfl rfl (by decide) iX12_fault_X12 tyX12_ok nmX12 qX12_fault_124 rfl rfl rfl dX12_fault_2 (fun H locs Z => ?_)
  have Z := uZ_eq ((uAr_c (uAr (uAr (uAr (uAr M 71 f) 81 A) 82 V) 83 T) 84 Q (a := 71) 17 (nI 0) (by decide)).trans (congrArg (fun X => uAr X 84 Q) ((uAr_c (uAr (uAr (uAr M 71 f) 81 A) 82 V) 83 T (a := 71) 17 (nI 0) (by decide)).trans (congrArg (fun X => uAr X 83 T) ((uAr_c (uAr (uAr M 71 f) 81 A) 82 V (a := 71) 17 (nI 0) (by decide)).trans (congrArg (fun X => uAr X 82 V) ((uAr_c (uAr M 71 f) 81 A (a := 71) 17 (nI 0) (by decide)).trans (congrArg (fun X => uAr X 81 A) (uAr_s M 71 f 17 0))))))))) Z
  refine lv_iconst (v := 0) S.1 S.2.1 dX12_fault_5 (by decide) ?_
  refine lv_istore_n (lv' := [(1, .int 0), (0, .ref (G.2.2 71))]) S.1 S.2.1 dX12_fault_6 rfl hl (by decide) rfl (fun ls hl => ?_)
  refine lv_iconst (v := 0) S.1 S.2.1 dX12_fault_7 (by decide) ?_
  refine lv_istore_n (lv' := [(2, .int 0), (1, .int 0), (0, .ref (G.2.2 71))]) S.1 S.2.1 dX12_fault_8 rfl hl (by decide) rfl (fun ls hl => ?_)
  have LP9 : ∀ (fU : Nat) (d : Nat) (i : Nat) (f1 : Nat → Nat) (A1 : Nat → Nat) (W1 : Nat → Nat) (T1 : Nat → Nat) (Q1 : Nat → Nat), (n < i + fU) → (i ≤ n) → (pSt s i d (f1 17) A1 W1 T1 Q1) → (∀ x, x ≠ 17 → f1 x = f x) → (cRun s i = fD d) → (cFa s i = none) → ∀ (H : Heap) (locs : List Loc) (ls : Array Slot), uZ G xA (uAr (uAr (uAr (uAr (uAr M 71 f1) 81 A1) 82 W1) 83 T1) 84 Q1) xs.heap H locs → lv_has ls 3 [(2, .int (nI i)), (1, .int (nI d)), (0, .ref (G.2.2 71))] → W xp l xe (uRm 5 109) xs xm xa xb xt xc H locs 0 0 (MQ xb (va_Qi (fun r M2 => r = cFault s n ∧ ∃ f2 A2 W2 T2 Q2, M2 = pM M f2 A2 W2 T2 Q2 ∧ (∀ x, x ≠ 17 → f2 x = f x) ∧ (cFault s n = -6 → pSt s n 0 (f2 17) A2 W2 T2 Q2)) (fun M' t => uB G M' t) xA) xa xs 0 0 xA) (F0 xm 9 ls []) := by
    intro fU
    induction fU with
    | zero =>
      intro d i f1 A1 W1 T1 Q1 hfl i1 i2 i3 i4 i5 H locs ls Z hl
      exfalso
      omega
    | succ fU ih9 =>
      intro d i f1 A1 W1 T1 Q1 hfl i1 i2 i3 i4 i5 H locs ls Z hl
      have hd6 := i2.2.2.1
      refine lv_iload_n S.1 S.2.1 dX12_fault_9 rfl (lv_at hl 0 rfl) ?_
      refine lv_aload_n S.1 S.2.1 dX12_fault_10 rfl (lv_at hl 2 rfl) ?_
      refine ug_i S hK Z (j := 12) (by decide) rfl rfl rfl (by decide) iX12_fault_X12 qX12_fault_121 dX12_fault_11 ?_
      refine utop (y := (nI (f1 12))) ((uAr_o (uAr (uAr (uAr (uAr M 71 f1) 81 A1) 82 W1) 83 T1) 84 Q1 12 (a := 71) (by decide)).trans ((uAr_o (uAr (uAr (uAr M 71 f1) 81 A1) 82 W1) 83 T1 12 (a := 71) (by decide)).trans ((uAr_o (uAr (uAr M 71 f1) 81 A1) 82 W1 12 (a := 71) (by decide)).trans ((uAr_o (uAr M 71 f1) 81 A1 12 (a := 71) (by decide)).trans (uAr_g M 71 f1 12))))) ?_
      refine utop (congrArg nI ((i3 12 (by decide)).trans hf12)) ?_
      refine lv_icmp_ge (tgt := 41) S.1 S.2.1 dX12_fault_14 (by decide) (fun c_1 => ?_) (fun c_1 => ?_)
      · skip
        have c_1 : n ≤ i := (nI_leI (a := n) (b := i) (by omega) (by omega)).mp c_1
        refine lv_iload_n S.1 S.2.1 dX12_fault_41 rfl (lv_at hl 1 rfl) ?_
        refine lv_if_ne (tgt := 50) S.1 S.2.1 dX12_fault_42 (by decide) (fun c_2 => ?_) (fun c_2 => ?_)
        · skip
          have c_2 : ¬ d = 0 := fun z9 => c_2 ((nI_eq (a := d) (b := 0) (by omega) (by omega)).mpr z9)
          refine lv_aload_n S.1 S.2.1 dX12_fault_50 rfl (lv_at hl 2 rfl) ?_
          refine ug_i S hK Z (j := 12) (by decide) rfl rfl rfl (by decide) iX12_fault_X12 qX12_fault_121 dX12_fault_51 ?_
          refine utop (y := (nI (f1 12))) ((uAr_o (uAr (uAr (uAr (uAr M 71 f1) 81 A1) 82 W1) 83 T1) 84 Q1 12 (a := 71) (by decide)).trans ((uAr_o (uAr (uAr (uAr M 71 f1) 81 A1) 82 W1) 83 T1 12 (a := 71) (by decide)).trans ((uAr_o (uAr (uAr M 71 f1) 81 A1) 82 W1 12 (a := 71) (by decide)).trans ((uAr_o (uAr M 71 f1) 81 A1 12 (a := 71) (by decide)).trans (uAr_g M 71 f1 12))))) ?_
          refine utop (congrArg nI ((i3 12 (by decide)).trans hf12)) ?_
          refine uret_i S hK Z hre hlk dX12_fault_54 ?_
          have hin : i = n := by omega
          rw [hin] at i2 i4 i5
          have e2 : cFault s n = nI n := by
            unfold cFault
            rw [i5]
            exact if_neg (by rw [i4]; exact fD_ne (by assumption))
          rw [e2]
          exact ⟨rfl, f1, A1, W1, T1, Q1, rfl, i3, fun z => absurd z (nI_nm6 (by omega))⟩
        · skip
          have c_2 : d = 0 := (nI_eq (a := d) (b := 0) (by omega) (by omega)).mp c_2
          refine lv_bipush (v := (-6)) S.1 S.2.1 dX12_fault_45 (by decide) ?_
          refine lv_goto (tgt := 54) S.1 S.2.1 dX12_fault_47 (by decide) ?_
          refine uret_i S hK Z hre hlk dX12_fault_54 ?_
          have hin : i = n := by omega
          rw [hin] at i2 i4 i5
          have hd0 : d = 0 := by omega
          have e2 : cFault s n = -6 := by
            unfold cFault
            rw [i5]
            exact if_pos (by rw [i4, hd0]; rfl)
          rw [e2]
          exact ⟨rfl, f1, A1, W1, T1, Q1, rfl, i3, fun _ => hd0 ▸ i2⟩
      · skip
        have c_1 : ¬ n ≤ i := fun z9 => c_1 ((nI_leI (a := n) (b := i) (by omega) (by omega)).mpr z9)
        refine lv_aload_n S.1 S.2.1 dX12_fault_17 rfl (lv_at hl 2 rfl) ?_
        refine lv_iload_n S.1 S.2.1 dX12_fault_18 rfl (lv_at hl 1 rfl) ?_
        refine lv_aload_n S.1 S.2.1 dX12_fault_19 rfl (lv_at hl 2 rfl) ?_
        refine ug_r S hK Z (j := 11) 80 (by decide) rfl rfl rfl (by decide) iX12_fault_X12 qX12_fault_34 dX12_fault_20 ?_
        refine lv_iload_n S.1 S.2.1 dX12_fault_23 rfl (lv_at hl 0 rfl) ?_
        refine ua_ild S hK Z i (by decide) rfl rfl (by omega) dX12_fault_24 ?_
        refine utop (y := (nI (s i))) ((uAr_o (uAr (uAr (uAr (uAr M 71 f1) 81 A1) 82 W1) 83 T1) 84 Q1 i (a := 80) (by decide)).trans ((uAr_o (uAr (uAr (uAr M 71 f1) 81 A1) 82 W1) 83 T1 i (a := 80) (by decide)).trans ((uAr_o (uAr (uAr M 71 f1) 81 A1) 82 W1 i (a := 80) (by decide)).trans ((uAr_o (uAr M 71 f1) 81 A1 i (a := 80) (by decide)).trans ((uAr_o M 71 f1 i (a := 80) (by decide)).trans (hs80 i)))))) ?_
        refine uc_Vi (As := [.int (nI d), .int (nI (s i))]) (rest := []) S hK hA Z (c_X12_readOn l G s i d (ho.2.2 i) M f1 A1 W1 T1 Q1 (by have := i2.1; omega) i2) (cwV 2 S.2.2.2.2 gX12_fault_X12_readOn rfl rfl rfl (by decide +kernel) ⟨Nat.le_of_ble_eq_true rfl, Nat.le_of_ble_eq_true rfl⟩) (by decide) rfl rfl rfl hl.1 rfl (Nat.le_of_ble_eq_true rfl) dX12_fault_25 ⟨Nat.zero_le _, Nat.zero_le _⟩ (fun r_3 M_3 H locs hp Z => ?_)
        obtain ⟨h4, rfl, A2, W2, T2, Q2, hM⟩ | ⟨d2, e2, A2, W2, T2, Q2, rfl, hM, hst2, hd2⟩ := hp
        · skip
          have Z := uZ_eq (show M_3 = (uAr (uAr (uAr (uAr (uAr M 71 f1) 81 A2) 82 W2) 83 T2) 84 Q2) from hM) Z
          refine lv_istore_n (lv' := [(1, .int (-6)), (2, .int (nI i)), (0, .ref (G.2.2 71))]) S.1 S.2.1 dX12_fault_28 rfl hl (by decide) rfl (fun ls hl => ?_)
          refine lv_iload_n S.1 S.2.1 dX12_fault_29 rfl (lv_at hl 0 rfl) ?_
          refine lv_if_ge (tgt := 35) S.1 S.2.1 dX12_fault_30 (by decide) (fun c => absurd c (by decide)) (fun _ => ?_)
          refine lv_iload_n S.1 S.2.1 dX12_fault_33 rfl (lv_at hl 1 rfl) ?_
          refine uret_i S hK Z hre hlk dX12_fault_34 ?_
          have e1 : cFa s n = some i := cFa_up (cFa_at i5 (by rw [cRun, i4]; exact h4)) n (by omega)
          have e2 : cFault s n = nI i := by
            unfold cFault
            rw [e1]
          rw [e2]
          exact ⟨rfl, f1, A2, W2, T2, Q2, rfl, i3, fun z => absurd z (nI_nm6 (by omega))⟩
        · skip
          have Z := uZ_eq (show M_3 = (uAr (uAr (uAr (uAr (uAr M 71 (fu f1 17 e2)) 81 A2) 82 W2) 83 T2) 84 Q2) from hM) Z
          have hd5 := hst2.2.2.1
          refine lv_istore_n (lv' := [(1, .int (nI d2)), (2, .int (nI i)), (0, .ref (G.2.2 71))]) S.1 S.2.1 dX12_fault_28 rfl hl (by decide) rfl (fun ls hl => ?_)
          refine lv_iload_n S.1 S.2.1 dX12_fault_29 rfl (lv_at hl 0 rfl) ?_
          refine lv_if_ge (tgt := 35) S.1 S.2.1 dX12_fault_30 (by decide) (fun c_5 => ?_) (fun c_5 => ?_)
          · skip
            have c_5 : 0 ≤ d2 := (nI_leI (a := 0) (b := d2) (by omega) (by omega)).mp c_5
            refine lv_iinc (v := (nI (i + 1))) (lv' := [(2, .int (nI (i + 1))), (1, .int (nI d2)), (0, .ref (G.2.2 71))]) S.1 S.2.1 dX12_fault_35 hl (k := 1) rfl (u_inc1 i) (by decide) rfl (fun ls hl => ?_)
            refine lv_goto (tgt := 9) S.1 S.2.1 dX12_fault_38 (by decide) ?_
            exact ih9 d2 (i + 1) (fu f1 17 e2) A2 W2 T2 Q2 (by omega) (by omega) (by rw [fu_eq]; exact hst2) (by intro x hx; rw [fu_ne hx]; exact i3 x hx) (by rw [cRun, i4]; exact hd2) (by refine cFa_no i5 ?_; rw [cRun, i4, hd2]; have := fD_le d2; omega) _ _ _ Z (lv_sub hl [0, 1, 2] rfl)
          · skip
            have c_5 : ¬ 0 ≤ d2 := fun z9 => c_5 ((nI_leI (a := 0) (b := d2) (by omega) (by omega)).mpr z9)
            omega
  exact LP9 (n + 1) 0 0 (fu f 17 0) A V T Q (by omega) (by omega) (by rw [fu_eq]; exact pSt_0 _ _ _ _ _) (by intro x hx; exact fu_ne hx) (by rfl) (by rfl) _ _ _ Z (lv_sub hl [0, 1, 2] rfl)
set_option maxHeartbeats 4000000 in
set_option maxRecDepth 100000 in
theorem c_X12_keepNow (l : Launch) (G : uG) (M : uM) (w : Nat → Nat → Nat) (hr : uMd M w) (h0 : Nat → Nat) : CTv l G yX12_keepNow wsX12_keepNow 0 0 [.ref (G.2.2 71)] (uAr M 85 h0) (fun M2 => ∃ h, M2 = uAr M 85 h ∧ hdIs h w) := by
  refine ustart_v (cc := cX12_keepNow) (maxL := 2) (ret := none) (own := RX12) rfl (by decide) rfl (Nat.le_of_ble_eq_true rfl) ?_
  intro xp xe xs xm xa xb xt xc xA ls S hK hA Z hre hlk hl
  have hl : lv_has ls 2 [(0, .ref (G.2.2 71))] := hl
  refine lv_iconst (v := 0) S.1 S.2.1 dX12_keepNow_0 (by decide) ?_
  refine lv_istore_n (lv' := [(1, .int 0), (0, .ref (G.2.2 71))]) S.1 S.2.1 dX12_keepNow_1 rfl hl (by decide) rfl (fun ls hl => ?_)
  have LP2 : ∀ (fU : Nat) (t : Nat) (h1 : Nat → Nat), (12 < t + fU) → (t ≤ 12) → (∀ j, j < t → h1 j = w 1 j ∧ h1 (12 + j) = w 2 j) → ∀ (H : Heap) (locs : List Loc) (ls : Array Slot), uZ G xA (uAr M 85 h1) xs.heap H locs → lv_has ls 2 [(1, .int (nI t)), (0, .ref (G.2.2 71))] → W xp l xe (uRm 0 0) xs xm xa xb xt xc H locs 0 0 (MQ xb (va_Qv (fun M2 => ∃ h, M2 = uAr M 85 h ∧ hdIs h w) (fun M' t => uB G M' t) xA) xa xs 0 0 xA) (F0 xm 2 ls []) := by
    intro fU
    induction fU with
    | zero =>
      intro t h1 hfl i1 i2 H locs ls Z hl
      exfalso
      omega
    | succ fU ih2 =>
      intro t h1 hfl i1 i2 H locs ls Z hl
      refine lv_iload_n S.1 S.2.1 dX12_keepNow_2 rfl (lv_at hl 0 rfl) ?_
      refine lv_bipush (v := 12) S.1 S.2.1 dX12_keepNow_3 (by decide) ?_
      refine lv_icmp_ge (tgt := 41) S.1 S.2.1 dX12_keepNow_5 (by decide) (fun c_1 => ?_) (fun c_1 => ?_)
      · skip
        have c_1 : 12 ≤ t := (nI_leI (a := 12) (b := t) (by omega) (by omega)).mp c_1
        refine lv_iconst (v := 0) S.1 S.2.1 dX12_keepNow_41 (by decide) ?_
        refine lv_istore_n (lv' := [(1, .int 0), (0, .ref (G.2.2 71))]) S.1 S.2.1 dX12_keepNow_42 rfl hl (by decide) rfl (fun ls hl => ?_)
        have LP43 : ∀ (fU : Nat) (k : Nat) (h2 : Nat → Nat), (8 < k + fU) → (k ≤ 8) → (∀ j, j < 12 → h2 j = w 1 j ∧ h2 (12 + j) = w 2 j) → (∀ j, j < k → h2 (24 + j) = w 5 j) → ∀ (H : Heap) (locs : List Loc) (ls : Array Slot), uZ G xA (uAr M 85 h2) xs.heap H locs → lv_has ls 2 [(1, .int (nI k)), (0, .ref (G.2.2 71))] → W xp l xe (uRm 0 0) xs xm xa xb xt xc H locs 0 0 (MQ xb (va_Qv (fun M2 => ∃ h, M2 = uAr M 85 h ∧ hdIs h w) (fun M' t => uB G M' t) xA) xa xs 0 0 xA) (F0 xm 43 ls []) := by
          intro fU
          induction fU with
          | zero =>
            intro k h2 hfl i3 i4 i5 H locs ls Z hl
            exfalso
            omega
          | succ fU ih43 =>
            intro k h2 hfl i3 i4 i5 H locs ls Z hl
            refine lv_iload_n S.1 S.2.1 dX12_keepNow_43 rfl (lv_at hl 0 rfl) ?_
            refine lv_bipush (v := 8) S.1 S.2.1 dX12_keepNow_44 (by decide) ?_
            refine lv_icmp_ge (tgt := 70) S.1 S.2.1 dX12_keepNow_46 (by decide) (fun c_2 => ?_) (fun c_2 => ?_)
            · skip
              have c_2 : 8 ≤ k := (nI_leI (a := 8) (b := k) (by omega) (by omega)).mp c_2
              refine lv_aload_n S.1 S.2.1 dX12_keepNow_70 rfl (lv_at hl 1 rfl) ?_
              refine ug_r S hK Z (j := 20) 85 (by decide) rfl rfl rfl (by decide) iX12_keepNow_X12 qX12_keepNow_49 dX12_keepNow_71 ?_
              refine lv_bipush (v := 32) S.1 S.2.1 dX12_keepNow_74 (by decide) ?_
              refine lv_aload_n S.1 S.2.1 dX12_keepNow_76 rfl (lv_at hl 1 rfl) ?_
              refine ug_i S hK Z (j := 6) (by decide) rfl rfl rfl (by decide) iX12_keepNow_X12 qX12_keepNow_84 dX12_keepNow_77 ?_
              refine utop (y := (nI (w 0 7))) ((uAr_o M 85 h2 6 (a := 71) (by decide)).trans (uMd_6 hr)) ?_
              refine ua_ist S hK Z 32 (by decide) rfl rfl (by omega) dX12_keepNow_80 (fun H locs Z => ?_)
              have Z := uZ_eq (uAr_s M 85 h2 32 (w 0 7)) Z
              refine lv_aload_n S.1 S.2.1 dX12_keepNow_81 rfl (lv_at hl 1 rfl) ?_
              refine ug_r S hK Z (j := 20) 85 (by decide) rfl rfl rfl (by decide) iX12_keepNow_X12 qX12_keepNow_49 dX12_keepNow_82 ?_
              refine lv_bipush (v := 33) S.1 S.2.1 dX12_keepNow_85 (by decide) ?_
              refine lv_aload_n S.1 S.2.1 dX12_keepNow_87 rfl (lv_at hl 1 rfl) ?_
              refine ug_i S hK Z (j := 7) (by decide) rfl rfl rfl (by decide) iX12_keepNow_X12 qX12_keepNow_180 dX12_keepNow_88 ?_
              refine utop (y := (nI (w 0 8))) ((uAr_o M 85 (fu h2 32 (w 0 7)) 7 (a := 71) (by decide)).trans (uMd_7 hr)) ?_
              refine ua_ist S hK Z 33 (by decide) rfl rfl (by omega) dX12_keepNow_91 (fun H locs Z => ?_)
              have Z := uZ_eq (uAr_s M 85 (fu h2 32 (w 0 7)) 33 (w 0 8)) Z
              refine uret_v S hK Z hre hlk dX12_keepNow_92 ?_
              refine ⟨_, rfl, fun j hj => ⟨?_, ?_⟩, fun j hj => ?_, ?_, ?_⟩
              · rw [fu_ne (by omega), fu_ne (by omega)]; exact (i4 j hj).1
              · rw [fu_ne (by omega), fu_ne (by omega)]; exact (i4 j hj).2
              · rw [fu_ne (by omega), fu_ne (by omega)]; exact i5 j (by omega)
              · rw [fu_ne (by decide), fu_eq]
              · rw [fu_eq]
            · skip
              have c_2 : ¬ 8 ≤ k := fun z9 => c_2 ((nI_leI (a := 8) (b := k) (by omega) (by omega)).mpr z9)
              refine lv_aload_n S.1 S.2.1 dX12_keepNow_49 rfl (lv_at hl 1 rfl) ?_
              refine ug_r S hK Z (j := 20) 85 (by decide) rfl rfl rfl (by decide) iX12_keepNow_X12 qX12_keepNow_49 dX12_keepNow_50 ?_
              refine lv_bipush (v := 24) S.1 S.2.1 dX12_keepNow_53 (by decide) ?_
              refine lv_iload_n S.1 S.2.1 dX12_keepNow_55 rfl (lv_at hl 0 rfl) ?_
              refine lv_iadd S.1 S.2.1 dX12_keepNow_56 ?_
              refine utop (nI_add 24 k) ?_
              refine lv_aload_n S.1 S.2.1 dX12_keepNow_57 rfl (lv_at hl 1 rfl) ?_
              refine ug_r S hK Z (j := 4) 76 (by decide) rfl rfl rfl (by decide) iX12_keepNow_X12 qX12_keepNow_22 dX12_keepNow_58 ?_
              refine lv_iload_n S.1 S.2.1 dX12_keepNow_61 rfl (lv_at hl 0 rfl) ?_
              refine ua_ild S hK Z k (by decide) rfl rfl (by omega) dX12_keepNow_62 ?_
              refine utop (y := (nI (w 5 k))) ((uAr_o M 85 h2 k (a := 76) (by decide)).trans (uMd_r hr k (j := 5) (by decide))) ?_
              refine ua_ist S hK Z (24 + k) (by decide) rfl rfl (by omega) dX12_keepNow_63 (fun H locs Z => ?_)
              have Z := uZ_eq (uAr_s M 85 h2 (24 + k) (w 5 k)) Z
              refine lv_iinc (v := (nI (k + 1))) (lv' := [(1, .int (nI (k + 1))), (0, .ref (G.2.2 71))]) S.1 S.2.1 dX12_keepNow_64 hl (k := 0) rfl (u_inc1 k) (by decide) rfl (fun ls hl => ?_)
              refine lv_goto (tgt := 43) S.1 S.2.1 dX12_keepNow_67 (by decide) ?_
              exact ih43 (k + 1) (fu h2 (24 + k) (w 5 k)) (by omega) (by omega) (by
                  intro j hj
                  exact ⟨by rw [fu_ne (by omega)]; exact (i4 j hj).1, by rw [fu_ne (by omega)]; exact (i4 j hj).2⟩) (by
                  intro j hj
                  by_cases z : j = k
                  · subst z
                    rw [fu_eq]
                  · rw [fu_ne (by omega)]
                    exact i5 j (by omega)) _ _ _ Z (lv_sub hl [0, 1] rfl)
        exact LP43 9 0 h1 (by omega) (by omega) (by
            intro j hj
            exact i2 j (by omega)) (by
            intro j hj
            omega) _ _ _ Z (lv_sub hl [0, 1] rfl)
      · skip
        have c_1 : ¬ 12 ≤ t := fun z9 => c_1 ((nI_leI (a := 12) (b := t) (by omega) (by omega)).mpr z9)
        refine lv_aload_n S.1 S.2.1 dX12_keepNow_8 rfl (lv_at hl 1 rfl) ?_
        refine ug_r S hK Z (j := 20) 85 (by decide) rfl rfl rfl (by decide) iX12_keepNow_X12 qX12_keepNow_49 dX12_keepNow_9 ?_
        refine lv_iload_n S.1 S.2.1 dX12_keepNow_12 rfl (lv_at hl 0 rfl) ?_
        refine lv_aload_n S.1 S.2.1 dX12_keepNow_13 rfl (lv_at hl 1 rfl) ?_
        refine ug_r S hK Z (j := 0) 72 (by decide) rfl rfl rfl (by decide) iX12_keepNow_X12 qX12_keepNow_7 dX12_keepNow_14 ?_
        refine lv_iload_n S.1 S.2.1 dX12_keepNow_17 rfl (lv_at hl 0 rfl) ?_
        refine ua_ild S hK Z t (by decide) rfl rfl (by omega) dX12_keepNow_18 ?_
        refine utop (y := (nI (w 1 t))) ((uAr_o M 85 h1 t (a := 72) (by decide)).trans (uMd_r hr t (j := 1) (by decide))) ?_
        refine ua_ist S hK Z t (by decide) rfl rfl (by omega) dX12_keepNow_19 (fun H locs Z => ?_)
        have Z := uZ_eq (uAr_s M 85 h1 t (w 1 t)) Z
        refine lv_aload_n S.1 S.2.1 dX12_keepNow_20 rfl (lv_at hl 1 rfl) ?_
        refine ug_r S hK Z (j := 20) 85 (by decide) rfl rfl rfl (by decide) iX12_keepNow_X12 qX12_keepNow_49 dX12_keepNow_21 ?_
        refine lv_bipush (v := 12) S.1 S.2.1 dX12_keepNow_24 (by decide) ?_
        refine lv_iload_n S.1 S.2.1 dX12_keepNow_26 rfl (lv_at hl 0 rfl) ?_
        refine lv_iadd S.1 S.2.1 dX12_keepNow_27 ?_
        refine utop (nI_add 12 t) ?_
        refine lv_aload_n S.1 S.2.1 dX12_keepNow_28 rfl (lv_at hl 1 rfl) ?_
        refine ug_r S hK Z (j := 1) 73 (by decide) rfl rfl rfl (by decide) iX12_keepNow_X12 qX12_keepNow_13 dX12_keepNow_29 ?_
        refine lv_iload_n S.1 S.2.1 dX12_keepNow_32 rfl (lv_at hl 0 rfl) ?_
        refine ua_ild S hK Z t (by decide) rfl rfl (by omega) dX12_keepNow_33 ?_
        refine utop (y := (nI (w 2 t))) ((uAr_o M 85 (fu h1 t (w 1 t)) t (a := 73) (by decide)).trans (uMd_r hr t (j := 2) (by decide))) ?_
        refine ua_ist S hK Z (12 + t) (by decide) rfl rfl (by omega) dX12_keepNow_34 (fun H locs Z => ?_)
        have Z := uZ_eq (uAr_s M 85 (fu h1 t (w 1 t)) (12 + t) (w 2 t)) Z
        refine lv_iinc (v := (nI (t + 1))) (lv' := [(1, .int (nI (t + 1))), (0, .ref (G.2.2 71))]) S.1 S.2.1 dX12_keepNow_35 hl (k := 0) rfl (u_inc1 t) (by decide) rfl (fun ls hl => ?_)
        refine lv_goto (tgt := 2) S.1 S.2.1 dX12_keepNow_38 (by decide) ?_
        exact ih2 (t + 1) (fu (fu h1 t (w 1 t)) (12 + t) (w 2 t)) (by omega) (by omega) (by
            intro j hj
            by_cases z : j = t
            · subst z
              exact ⟨by rw [fu_ne (by omega), fu_eq], by rw [fu_eq]⟩
            · exact ⟨by rw [fu_ne (by omega), fu_ne z]; exact (i2 j (by omega)).1, by rw [fu_ne (by omega), fu_ne (by omega)]; exact (i2 j (by omega)).2⟩) _ _ _ Z (lv_sub hl [0, 1] rfl)
  exact LP2 13 0 h0 (by omega) (by omega) (by
      intro j hj
      omega) _ _ _ Z (lv_sub hl [0, 1] rfl)
set_option maxHeartbeats 4000000 in
set_option maxRecDepth 100000 in
theorem c_X12_back (l : Launch) (G : uG) (v : Int32) (M : uM) (w1 w : Nat → Nat → Nat) (h : Nat → Nat) (hh : ∀ i, M.1 85 i = nI (h i)) (hd : hdIs h w) (hs : sameR w1 w) (hz1 : zOut w1) (hz : zOut w) : CTi l G yX12_back wsX12_back 0 0 [.ref (G.2.2 71), .int v] (uPM M w1) (fun r M2 => r = v ∧ M2 = uPM M w) := by
  refine ustart_i (cc := cX12_back) (maxL := 3) (ret := (some .int)) (own := RX12) rfl (by decide) rfl (Nat.le_of_ble_eq_true rfl) ?_
  intro xp xe xs xm xa xb xt xc xA ls S hK hA Z hre hlk hl
  have hl : lv_has ls 3 [(0, .ref (G.2.2 71)), (1, .int v)] := hl
  refine lv_iconst (v := 0) S.1 S.2.1 dX12_back_0 (by decide) ?_
  refine lv_istore_n (lv' := [(2, .int 0), (0, .ref (G.2.2 71)), (1, .int v)]) S.1 S.2.1 dX12_back_1 rfl hl (by decide) rfl (fun ls hl => ?_)
  have LP2 : ∀ (fU : Nat) (t : Nat) (w2 : Nat → Nat → Nat), (12 < t + fU) → (t ≤ 12) → (w2 = wcp (wcp w1 w 1 t) w 2 t) → ∀ (H : Heap) (locs : List Loc) (ls : Array Slot), uZ G xA (uPM M w2) xs.heap H locs → lv_has ls 3 [(2, .int (nI t)), (0, .ref (G.2.2 71)), (1, .int v)] → W xp l xe (uRm 0 0) xs xm xa xb xt xc H locs 0 0 (MQ xb (va_Qi (fun r M2 => r = v ∧ M2 = uPM M w) (fun M' t => uB G M' t) xA) xa xs 0 0 xA) (F0 xm 2 ls []) := by
    intro fU
    induction fU with
    | zero =>
      intro t w2 hfl i1 i2 H locs ls Z hl
      exfalso
      omega
    | succ fU ih2 =>
      intro t w2 hfl i1 i2 H locs ls Z hl
      refine lv_iload_n S.1 S.2.1 dX12_back_2 rfl (lv_at hl 0 rfl) ?_
      refine lv_bipush (v := 12) S.1 S.2.1 dX12_back_3 (by decide) ?_
      refine lv_icmp_ge (tgt := 41) S.1 S.2.1 dX12_back_5 (by decide) (fun c_1 => ?_) (fun c_1 => ?_)
      · skip
        have c_1 : 12 ≤ t := (nI_leI (a := 12) (b := t) (by omega) (by omega)).mp c_1
        refine lv_iconst (v := 0) S.1 S.2.1 dX12_back_41 (by decide) ?_
        refine lv_istore_n (lv' := [(2, .int 0), (0, .ref (G.2.2 71)), (1, .int v)]) S.1 S.2.1 dX12_back_42 rfl hl (by decide) rfl (fun ls hl => ?_)
        have LP43 : ∀ (fU : Nat) (k : Nat) (w3 : Nat → Nat → Nat), (8 < k + fU) → (k ≤ 8) → (w3 = wcp (wcp (wcp w1 w 1 12) w 2 12) w 5 k) → ∀ (H : Heap) (locs : List Loc) (ls : Array Slot), uZ G xA (uPM M w3) xs.heap H locs → lv_has ls 3 [(2, .int (nI k)), (0, .ref (G.2.2 71)), (1, .int v)] → W xp l xe (uRm 0 0) xs xm xa xb xt xc H locs 0 0 (MQ xb (va_Qi (fun r M2 => r = v ∧ M2 = uPM M w) (fun M' t => uB G M' t) xA) xa xs 0 0 xA) (F0 xm 43 ls []) := by
          intro fU
          induction fU with
          | zero =>
            intro k w3 hfl i3 i4 H locs ls Z hl
            exfalso
            omega
          | succ fU ih43 =>
            intro k w3 hfl i3 i4 H locs ls Z hl
            refine lv_iload_n S.1 S.2.1 dX12_back_43 rfl (lv_at hl 0 rfl) ?_
            refine lv_bipush (v := 8) S.1 S.2.1 dX12_back_44 (by decide) ?_
            refine lv_icmp_ge (tgt := 70) S.1 S.2.1 dX12_back_46 (by decide) (fun c_2 => ?_) (fun c_2 => ?_)
            · skip
              have c_2 : 8 ≤ k := (nI_leI (a := 8) (b := k) (by omega) (by omega)).mp c_2
              refine lv_aload_n S.1 S.2.1 dX12_back_70 rfl (lv_at hl 1 rfl) ?_
              refine lv_aload_n S.1 S.2.1 dX12_back_71 rfl (lv_at hl 1 rfl) ?_
              refine ug_r S hK Z (j := 20) 85 (by decide) rfl rfl rfl (by decide) iX12_back_X12 qX12_back_49 dX12_back_72 ?_
              refine lv_bipush (v := 32) S.1 S.2.1 dX12_back_75 (by decide) ?_
              refine ua_ild S hK Z 32 (by decide) rfl rfl (by omega) dX12_back_77 ?_
              refine utop (y := (nI (h 32))) ((uPM_o M w3 (a := 85) (i := 32) (by unfold mO; omega)).trans (hh 32)) ?_
              refine up_i S hK Z (j := 6) (by decide) rfl rfl rfl (by decide) iX12_back_X12 tyX12_ok nmX12 qX12_back_84 rfl rfl rfl dX12_back_78 (fun H locs Z => ?_)
              have Z := uZ_eq (uPM_s0 M w3 (h 32) (Or.inl ⟨rfl, rfl, rfl⟩)) Z
              refine lv_aload_n S.1 S.2.1 dX12_back_81 rfl (lv_at hl 1 rfl) ?_
              refine lv_aload_n S.1 S.2.1 dX12_back_82 rfl (lv_at hl 1 rfl) ?_
              refine ug_r S hK Z (j := 20) 85 (by decide) rfl rfl rfl (by decide) iX12_back_X12 qX12_back_49 dX12_back_83 ?_
              refine lv_bipush (v := 33) S.1 S.2.1 dX12_back_86 (by decide) ?_
              refine ua_ild S hK Z 33 (by decide) rfl rfl (by omega) dX12_back_88 ?_
              refine utop (y := (nI (h 33))) ((uPM_o M (wu w3 0 7 (h 32)) (a := 85) (i := 33) (by unfold mO; omega)).trans (hh 33)) ?_
              refine up_i S hK Z (j := 7) (by decide) rfl rfl rfl (by decide) iX12_back_X12 tyX12_ok nmX12 qX12_back_180 rfl rfl rfl dX12_back_89 (fun H locs Z => ?_)
              have Z := uZ_eq (uPM_s0 M (wu w3 0 7 (h 32)) (h 33) (Or.inr (Or.inl ⟨rfl, rfl, rfl⟩))) Z
              refine lv_iload_n S.1 S.2.1 dX12_back_92 rfl (lv_at hl 2 rfl) ?_
              refine uret_i S hK Z hre hlk dX12_back_93 ?_
              rw [i4, hd.2.2.1, hd.2.2.2, show k = 8 from by omega, bk_end hs hz1 hz]
              exact ⟨rfl, rfl⟩
            · skip
              have c_2 : ¬ 8 ≤ k := fun z9 => c_2 ((nI_leI (a := 8) (b := k) (by omega) (by omega)).mpr z9)
              refine lv_aload_n S.1 S.2.1 dX12_back_49 rfl (lv_at hl 1 rfl) ?_
              refine ug_r S hK Z (j := 4) 76 (by decide) rfl rfl rfl (by decide) iX12_back_X12 qX12_back_22 dX12_back_50 ?_
              refine lv_iload_n S.1 S.2.1 dX12_back_53 rfl (lv_at hl 0 rfl) ?_
              refine lv_aload_n S.1 S.2.1 dX12_back_54 rfl (lv_at hl 1 rfl) ?_
              refine ug_r S hK Z (j := 20) 85 (by decide) rfl rfl rfl (by decide) iX12_back_X12 qX12_back_49 dX12_back_55 ?_
              refine lv_bipush (v := 24) S.1 S.2.1 dX12_back_58 (by decide) ?_
              refine lv_iload_n S.1 S.2.1 dX12_back_60 rfl (lv_at hl 0 rfl) ?_
              refine lv_iadd S.1 S.2.1 dX12_back_61 ?_
              refine utop (nI_add 24 k) ?_
              refine ua_ild S hK Z (24 + k) (by decide) rfl rfl (by omega) dX12_back_62 ?_
              refine utop (y := (nI (h (24 + k)))) ((uPM_o M w3 (a := 85) (i := (24 + k)) (by unfold mO; omega)).trans (hh (24 + k))) ?_
              refine ua_ist S hK Z k (by decide) rfl rfl (by omega) dX12_back_63 (fun H locs Z => ?_)
              have Z := uZ_eq (uPM_sr M w3 k (h (24 + k)) (j := 5) (by decide)) Z
              refine lv_iinc (v := (nI (k + 1))) (lv' := [(2, .int (nI (k + 1))), (0, .ref (G.2.2 71)), (1, .int v)]) S.1 S.2.1 dX12_back_64 hl (k := 0) rfl (u_inc1 k) (by decide) rfl (fun ls hl => ?_)
              refine lv_goto (tgt := 43) S.1 S.2.1 dX12_back_67 (by decide) ?_
              exact ih43 (k + 1) (wu w3 5 k (h (24 + k))) (by omega) (by omega) (by rw [i4, hd.2.1 k (by omega), wcp_s]) _ _ _ Z (lv_sub hl [0, 1, 2] rfl)
        exact LP43 9 0 w2 (by omega) (by omega) (by rw [wcp_0, i2, show t = 12 from by omega]) _ _ _ Z (lv_sub hl [0, 1, 2] rfl)
      · skip
        have c_1 : ¬ 12 ≤ t := fun z9 => c_1 ((nI_leI (a := 12) (b := t) (by omega) (by omega)).mpr z9)
        refine lv_aload_n S.1 S.2.1 dX12_back_8 rfl (lv_at hl 1 rfl) ?_
        refine ug_r S hK Z (j := 0) 72 (by decide) rfl rfl rfl (by decide) iX12_back_X12 qX12_back_7 dX12_back_9 ?_
        refine lv_iload_n S.1 S.2.1 dX12_back_12 rfl (lv_at hl 0 rfl) ?_
        refine lv_aload_n S.1 S.2.1 dX12_back_13 rfl (lv_at hl 1 rfl) ?_
        refine ug_r S hK Z (j := 20) 85 (by decide) rfl rfl rfl (by decide) iX12_back_X12 qX12_back_49 dX12_back_14 ?_
        refine lv_iload_n S.1 S.2.1 dX12_back_17 rfl (lv_at hl 0 rfl) ?_
        refine ua_ild S hK Z t (by decide) rfl rfl (by omega) dX12_back_18 ?_
        refine utop (y := (nI (h t))) ((uPM_o M w2 (a := 85) (i := t) (by unfold mO; omega)).trans (hh t)) ?_
        refine ua_ist S hK Z t (by decide) rfl rfl (by omega) dX12_back_19 (fun H locs Z => ?_)
        have Z := uZ_eq (uPM_sr M w2 t (h t) (j := 1) (by decide)) Z
        refine lv_aload_n S.1 S.2.1 dX12_back_20 rfl (lv_at hl 1 rfl) ?_
        refine ug_r S hK Z (j := 1) 73 (by decide) rfl rfl rfl (by decide) iX12_back_X12 qX12_back_13 dX12_back_21 ?_
        refine lv_iload_n S.1 S.2.1 dX12_back_24 rfl (lv_at hl 0 rfl) ?_
        refine lv_aload_n S.1 S.2.1 dX12_back_25 rfl (lv_at hl 1 rfl) ?_
        refine ug_r S hK Z (j := 20) 85 (by decide) rfl rfl rfl (by decide) iX12_back_X12 qX12_back_49 dX12_back_26 ?_
        refine lv_bipush (v := 12) S.1 S.2.1 dX12_back_29 (by decide) ?_
        refine lv_iload_n S.1 S.2.1 dX12_back_31 rfl (lv_at hl 0 rfl) ?_
        refine lv_iadd S.1 S.2.1 dX12_back_32 ?_
        refine utop (nI_add 12 t) ?_
        refine ua_ild S hK Z (12 + t) (by decide) rfl rfl (by omega) dX12_back_33 ?_
        refine utop (y := (nI (h (12 + t)))) ((uPM_o M (wu w2 1 t (h t)) (a := 85) (i := (12 + t)) (by unfold mO; omega)).trans (hh (12 + t))) ?_
        refine ua_ist S hK Z t (by decide) rfl rfl (by omega) dX12_back_34 (fun H locs Z => ?_)
        have Z := uZ_eq (uPM_sr M (wu w2 1 t (h t)) t (h (12 + t)) (j := 2) (by decide)) Z
        refine lv_iinc (v := (nI (t + 1))) (lv' := [(2, .int (nI (t + 1))), (0, .ref (G.2.2 71)), (1, .int v)]) S.1 S.2.1 dX12_back_35 hl (k := 0) rfl (u_inc1 t) (by decide) rfl (fun ls hl => ?_)
        refine lv_goto (tgt := 2) S.1 S.2.1 dX12_back_38 (by decide) ?_
        exact ih2 (t + 1) (wu (wu w2 1 t (h t)) 2 t (h (12 + t))) (by omega) (by omega) (by rw [i2, (hd.1 t (by omega)).1, (hd.1 t (by omega)).2, bk_1]) _ _ _ Z (lv_sub hl [0, 1, 2] rfl)
  exact LP2 13 0 w1 (by omega) (by omega) (by rw [wcp_0, wcp_0]) _ _ _ Z (lv_sub hl [0, 1, 2] rfl)
