theorem uPM_uPM (M : uM) (w w' : Nat → Nat → Nat) : uPM (uPM M w) w' = uPM M w' := uM_ext (fun a i => by
  by_cases q : mO a i
  · rw [uPM_o _ _ q, uPM_o _ _ q, uPM_o _ _ q]
  · unfold mO at q
    show (if a = 71 then (if i = 6 then nI (w' 0 7) else if i = 7 then nI (w' 0 8) else if i = 10 then nI (w' 7 2) else (uPM M w).1 a i) else if 72 ≤ a ∧ a < 78 then nI (w' (a - 71) i) else if 78 ≤ a ∧ a < 80 then nI (w' (a - 70) i) else (uPM M w).1 a i) = (if a = 71 then (if i = 6 then nI (w' 0 7) else if i = 7 then nI (w' 0 8) else if i = 10 then nI (w' 7 2) else M.1 a i) else if 72 ≤ a ∧ a < 78 then nI (w' (a - 71) i) else if 78 ≤ a ∧ a < 80 then nI (w' (a - 70) i) else M.1 a i)
    generalize (uPM M w).1 a i = z
    repeat' split
    all_goals first | rfl | (exfalso; omega)) rfl
theorem uPM_md (M : uM) (w : Nat → Nat → Nat) : uMd (uPM M w) w := uPM_uPM M w w
theorem wu_id (w : Nat → Nat → Nat) (j i : Nat) : wu w j i (w j i) = w := funext fun a => funext fun c => by
  unfold wu
  by_cases h : a = j ∧ c = i
  · rw [if_pos h, h.1, h.2]
  · rw [if_neg h]
theorem wPrice_l2 {w : Nat → Nat → Nat} (hw : wOk w) {t : Nat} (ht : t < 12) : wPrice w t ≤ 792 := by
  obtain ⟨b1, b2, b3, b4, b5⟩ := hw.1 t ht
  unfold wPrice
  split
  · omega
  · exact Nat.le_trans (Nat.mul_le_mul (show w 3 t ≤ 99 by omega) (show w 2 t - 1 ≤ 8 by omega)) (by decide)
theorem acTake_0 {w : Nat → Nat → Nat} {k t : Nat} (h : (acTake w k t).1 = 0) : (acTake w k t).2 = wu (if w 6 (w 1 t) / 2 ^ k % 2 = 1 then w else wu w 2 t (min 9 (w 2 t + 1))) 1 t k := by
  unfold acTake at h ⊢
  by_cases h1 : w 1 t = k
  · rw [if_pos h1] at h
    exact absurd h (fun z => Nat.noConfusion z)
  · rw [if_neg h1] at h ⊢
    by_cases h2 : w 0 7 / 2 ^ w 1 t % 2 = 1
    · rw [if_pos h2]
    · rw [if_neg h2] at h
      exact absurd h (fun z => Nat.noConfusion z)
theorem acGive_0 {w : Nat → Nat → Nat} {k t q : Nat} (h : (acGive w k t q).1 = 0) : (acGive w k t q).2 = wHand w t q := by
  unfold acGive at h ⊢
  by_cases h1 : acWhy w k t q = 0
  · rw [if_pos h1]
  · rw [if_neg h1] at h
    exact absurd h h1
theorem acSell_0 {w : Nat → Nat → Nat} {k t q : Nat} (h : (acSell w k t q).1 = 0) : ¬ k = q ∧ 2 ≤ w 2 t ∧ wPrice w t ≤ w 5 q ∧ (acSell w k t q).2 = wHand (wu (wu w 5 q (w 5 q - wPrice w t)) 5 k (min 9999 (w 5 k + wPrice w t))) t q := by
  unfold acSell at h ⊢
  by_cases h1 : acWhy w k t q = 0
  · rw [if_pos h1] at h ⊢
    by_cases h2 : w 2 t < 2
    · rw [if_pos h2] at h
      exact absurd h (fun z => Nat.noConfusion z)
    · rw [if_neg h2] at h ⊢
      by_cases h3 : w 5 q < wPrice w t
      · rw [if_pos h3] at h
        exact absurd h (fun z => Nat.noConfusion z)
      · rw [if_neg h3]
        refine ⟨fun hk => ?_, by omega, by omega, rfl⟩
        unfold acWhy at h1
        by_cases h4 : w 1 t = k
        · rw [if_pos h4, if_pos hk] at h1
          omega
        · rw [if_neg h4] at h1
          omega
  · rw [if_neg h1] at h
    exact absurd h h1
theorem acNight_0 {w : Nat → Nat → Nat} (h : (acNight w).1 = 0) : w 0 8 < 99 ∧ (acNight w).2 = wOwn (wu (wu w 0 8 (w 0 8 + 1)) 0 7 255) 12 := by
  unfold acNight at h ⊢
  by_cases h1 : w 0 8 < 99
  · rw [if_pos h1]
    exact ⟨h1, rfl⟩
  · rw [if_neg h1] at h
    exact absurd h (fun z => Nat.noConfusion z)
theorem ac_no {w : Nat → Nat → Nat} {kd k t q : Nat} (h : ¬ (ac w kd k t q).1 = 0) : (ac w kd k t q).2 = w := by
  unfold ac acTake acSell acGive acNight at *
  repeat' split
  all_goals first | rfl | (exfalso; apply h; simp_all)
theorem wOwn_st (w : Nat → Nat → Nat) (t : Nat) : wu (wOwn w t) 2 t (if wOwn w t 2 t = 1 then 0 else wOwn w t 2 t) = wOwn w (t + 1) := by
  have e : wOwn w t 2 t = w 2 t := if_neg (fun z => absurd z.2.1 (Nat.lt_irrefl _))
  rw [e]
  funext a c
  by_cases h : a = 2 ∧ c = t
  · obtain ⟨rfl, rfl⟩ := h
    rw [wu_eq]
    by_cases h2 : w 2 c = 1
    · rw [if_pos h2]
      exact (if_pos ⟨rfl, Nat.lt_succ_self _, h2⟩).symm
    · rw [if_neg h2]
      exact (if_neg (fun z => h2 z.2.2)).symm
  · rw [wu_ne h]
    unfold wOwn
    by_cases h2 : a = 2 ∧ c < t ∧ w 2 c = 1
    · rw [if_pos h2, if_pos ⟨h2.1, by omega, h2.2.2⟩]
    · rw [if_neg h2, if_neg (fun z => h2 ⟨z.1, by omega, z.2.2⟩)]
theorem wOwn_nt (w : Nat → Nat → Nat) : wu (wOwn (wu w 0 7 255) 12) 0 8 (wOwn (wu w 0 7 255) 12 0 8 + 1) = wOwn (wu (wu w 0 8 (w 0 8 + 1)) 0 7 255) 12 := by
  funext a c
  by_cases h : a = 0 ∧ c = 8
  · obtain ⟨rfl, rfl⟩ := h
    rw [wu_eq]
    simp [wOwn, wu]
  · rw [wu_ne h]
    by_cases h2 : a = 2
    · subst h2
      simp [wOwn, wu]
    · have e1 : ∀ X : Nat → Nat → Nat, wOwn X 12 a c = X a c := fun X => if_neg (fun z => h2 z.1)
      rw [e1, e1]
      unfold wu
      by_cases h3 : a = 0 ∧ c = 7
      · rw [if_pos h3, if_pos h3]
      · rw [if_neg h3, if_neg h3, if_neg h]
/-- the reference's count of sales and the rest -/
def uMn (M : uM) (sl cm : Nat) (ba wy fs ft : Int32) : uM := (fun a i => if a = 71 then (if i = 18 then nI sl else if i = 19 then nI cm else if i = 21 then ba else if i = 22 then wy else if i = 23 then fs else if i = 24 then ft else M.1 a i) else M.1 a i, M.2)
theorem uMn_o (M : uM) (sl cm : Nat) (ba wy fs ft : Int32) {a : Nat} (i : Nat) (h : a ≠ 71) : (uMn M sl cm ba wy fs ft).1 a i = M.1 a i := if_neg h
theorem uMn_p (M : uM) (sl cm : Nat) (ba wy fs ft : Int32) {i : Nat} (h : i < 18 ∨ i = 20 ∨ 25 ≤ i) : (uMn M sl cm ba wy fs ft).1 71 i = M.1 71 i := by
  show (if (71 : Nat) = 71 then (if i = 18 then nI sl else if i = 19 then nI cm else if i = 21 then ba else if i = 22 then wy else if i = 23 then fs else if i = 24 then ft else M.1 71 i) else M.1 71 i) = _
  rw [if_pos rfl, if_neg (by omega), if_neg (by omega), if_neg (by omega), if_neg (by omega), if_neg (by omega), if_neg (by omega)]
theorem uMn_s18 (M : uM) (sl cm : Nat) (ba wy fs ft : Int32) (v : Nat) : u1 (uMn M sl cm ba wy fs ft) 71 18 (nI v) = uMn M v cm ba wy fs ft := uM_ext (fun a i => by
  rw [u1_1]
  unfold uMn
  dsimp only
  by_cases h : a = 71 <;> by_cases h2 : i = 18 <;> simp [h, h2]) rfl
theorem uMn_s19 (M : uM) (sl cm : Nat) (ba wy fs ft : Int32) (v : Nat) : u1 (uMn M sl cm ba wy fs ft) 71 19 (nI v) = uMn M sl v ba wy fs ft := uM_ext (fun a i => by
  rw [u1_1]
  unfold uMn
  dsimp only
  by_cases h : a = 71 <;> by_cases h2 : i = 19 <;> simp [h, h2]) rfl
theorem uMn_s21 (M : uM) (sl cm : Nat) (ba wy fs ft : Int32) (v : Int32) : u1 (uMn M sl cm ba wy fs ft) 71 21 v = uMn M sl cm v wy fs ft := uM_ext (fun a i => by
  rw [u1_1]
  unfold uMn
  dsimp only
  by_cases h : a = 71 <;> by_cases h2 : i = 21 <;> simp [h, h2]) rfl
theorem uMn_s22 (M : uM) (sl cm : Nat) (ba wy fs ft : Int32) (v : Int32) : u1 (uMn M sl cm ba wy fs ft) 71 22 v = uMn M sl cm ba v fs ft := uM_ext (fun a i => by
  rw [u1_1]
  unfold uMn
  dsimp only
  by_cases h : a = 71 <;> by_cases h2 : i = 22 <;> simp [h, h2]) rfl
theorem uMn_s23 (M : uM) (sl cm : Nat) (ba wy fs ft : Int32) (v : Int32) : u1 (uMn M sl cm ba wy fs ft) 71 23 v = uMn M sl cm ba wy v ft := uM_ext (fun a i => by
  rw [u1_1]
  unfold uMn
  dsimp only
  by_cases h : a = 71 <;> by_cases h2 : i = 23 <;> simp [h, h2]) rfl
theorem uMn_s24 (M : uM) (sl cm : Nat) (ba wy fs ft : Int32) (v : Int32) : u1 (uMn M sl cm ba wy fs ft) 71 24 v = uMn M sl cm ba wy fs v := uM_ext (fun a i => by
  rw [u1_1]
  unfold uMn
  dsimp only
  by_cases h : a = 71 <;> by_cases h2 : i = 24 <;> simp [h, h2]) rfl
theorem uMn_ex (M : uM) : ∃ (sl cm : Nat) (ba wy fs ft : Int32), uMn M sl cm ba wy fs ft = M := by
  obtain ⟨a, ha⟩ := nI_ex (M.1 71 18)
  obtain ⟨b, hb⟩ := nI_ex (M.1 71 19)
  refine ⟨a, b, M.1 71 21, M.1 71 22, M.1 71 23, M.1 71 24, uM_ext (fun x i => ?_) rfl⟩
  by_cases hx : x = 71
  · subst hx
    show (if (71 : Nat) = 71 then (if i = 18 then nI a else if i = 19 then nI b else if i = 21 then M.1 71 21 else if i = 22 then M.1 71 22 else if i = 23 then M.1 71 23 else if i = 24 then M.1 71 24 else M.1 71 i) else M.1 71 i) = _
    rw [if_pos rfl]
    by_cases h1 : i = 18
    · subst h1; rw [if_pos rfl, ha]
    rw [if_neg h1]
    by_cases h2 : i = 19
    · subst h2; rw [if_pos rfl, hb]
    rw [if_neg h2]
    by_cases h3 : i = 21
    · subst h3; rw [if_pos rfl]
    rw [if_neg h3]
    by_cases h4 : i = 22
    · subst h4; rw [if_pos rfl]
    rw [if_neg h4]
    by_cases h5 : i = 23
    · subst h5; rw [if_pos rfl]
    rw [if_neg h5]
    by_cases h6 : i = 24
    · subst h6; rw [if_pos rfl]
    rw [if_neg h6]
  · exact uMn_o _ _ _ _ _ _ _ _ hx
theorem qX12_price_13 : Cond.fieldLink RX12 13 (TX12 1).1 (TX12 1).2.1 (TX12 1).2.2.1 ∈ wsX12_price := List.mem_of_getElem? (i := 1) rfl
theorem iX12_price_X12 : ∀ w ∈ wsX120, w ∈ wsX12_price := fun _ h => List.mem_cons_of_mem _ (List.mem_append_right _ h)
theorem qX12_price_16 : Cond.fieldLink RX12 16 (TX12 2).1 (TX12 2).2.1 (TX12 2).2.2.1 ∈ wsX12_price := List.mem_of_getElem? (i := 2) rfl
theorem qX12_whyNoTake_7 : Cond.fieldLink RX12 7 (TX12 0).1 (TX12 0).2.1 (TX12 0).2.2.1 ∈ wsX12_whyNoTake := List.mem_of_getElem? (i := 1) rfl
theorem iX12_whyNoTake_X12 : ∀ w ∈ wsX120, w ∈ wsX12_whyNoTake := fun _ h => List.mem_cons_of_mem _ (List.mem_append_right _ h)
theorem qX12_whyNoTake_84 : Cond.fieldLink RX12 84 (TX12 6).1 (TX12 6).2.1 (TX12 6).2.2.1 ∈ wsX12_whyNoTake := List.mem_of_getElem? (i := 2) rfl
theorem qX12_whyNoGift_7 : Cond.fieldLink RX12 7 (TX12 0).1 (TX12 0).2.1 (TX12 0).2.2.1 ∈ wsX12_whyNoGift := List.mem_of_getElem? (i := 1) rfl
theorem iX12_whyNoGift_X12 : ∀ w ∈ wsX120, w ∈ wsX12_whyNoGift := fun _ h => List.mem_cons_of_mem _ (List.mem_append_right _ h)
theorem qX12_whyNoSale_13 : Cond.fieldLink RX12 13 (TX12 1).1 (TX12 1).2.1 (TX12 1).2.2.1 ∈ wsX12_whyNoSale := List.mem_of_getElem? (i := 1) rfl
theorem iX12_whyNoSale_X12 : ∀ w ∈ wsX120, w ∈ wsX12_whyNoSale := fun _ h => List.mem_cons_of_mem _ (List.mem_append_right _ h)
theorem qX12_whyNoSale_22 : Cond.fieldLink RX12 22 (TX12 4).1 (TX12 4).2.1 (TX12 4).2.2.1 ∈ wsX12_whyNoSale := List.mem_of_getElem? (i := 2) rfl
theorem qX12_whyNot_180 : Cond.fieldLink RX12 180 (TX12 7).1 (TX12 7).2.1 (TX12 7).2.2.1 ∈ wsX12_whyNot := List.mem_of_getElem? (i := 1) rfl
theorem iX12_whyNot_X12 : ∀ w ∈ wsX120, w ∈ wsX12_whyNot := fun _ h => List.mem_cons_of_mem _ (List.mem_append_right _ h)
theorem qX12_take_25 : Cond.fieldLink RX12 25 (TX12 5).1 (TX12 5).2.1 (TX12 5).2.2.1 ∈ wsX12_take := List.mem_of_getElem? (i := 1) rfl
theorem iX12_take_X12 : ∀ w ∈ wsX120, w ∈ wsX12_take := fun _ h => List.mem_cons_of_mem _ (List.mem_append_right _ h)
theorem qX12_take_7 : Cond.fieldLink RX12 7 (TX12 0).1 (TX12 0).2.1 (TX12 0).2.2.1 ∈ wsX12_take := List.mem_of_getElem? (i := 2) rfl
theorem qX12_take_13 : Cond.fieldLink RX12 13 (TX12 1).1 (TX12 1).2.1 (TX12 1).2.2.1 ∈ wsX12_take := List.mem_of_getElem? (i := 3) rfl
theorem qX12_give_7 : Cond.fieldLink RX12 7 (TX12 0).1 (TX12 0).2.1 (TX12 0).2.2.1 ∈ wsX12_give := List.mem_of_getElem? (i := 1) rfl
theorem iX12_give_X12 : ∀ w ∈ wsX120, w ∈ wsX12_give := fun _ h => List.mem_cons_of_mem _ (List.mem_append_right _ h)
theorem qX12_give_13 : Cond.fieldLink RX12 13 (TX12 1).1 (TX12 1).2.1 (TX12 1).2.2.1 ∈ wsX12_give := List.mem_of_getElem? (i := 2) rfl
theorem qX12_sell_22 : Cond.fieldLink RX12 22 (TX12 4).1 (TX12 4).2.1 (TX12 4).2.2.1 ∈ wsX12_sell := List.mem_of_getElem? (i := 1) rfl
theorem iX12_sell_X12 : ∀ w ∈ wsX120, w ∈ wsX12_sell := fun _ h => List.mem_cons_of_mem _ (List.mem_append_right _ h)
theorem qX12_sell_183 : Cond.fieldLink RX12 183 (TX12 18).1 (TX12 18).2.1 (TX12 18).2.2.1 ∈ wsX12_sell := List.mem_of_getElem? (i := 2) rfl
theorem qX12_sell_186 : Cond.fieldLink RX12 186 (TX12 19).1 (TX12 19).2.1 (TX12 19).2.2.1 ∈ wsX12_sell := List.mem_of_getElem? (i := 3) rfl
theorem qX12_passNight_84 : Cond.fieldLink RX12 84 (TX12 6).1 (TX12 6).2.1 (TX12 6).2.2.1 ∈ wsX12_passNight := List.mem_of_getElem? (i := 1) rfl
theorem iX12_passNight_X12 : ∀ w ∈ wsX120, w ∈ wsX12_passNight := fun _ h => List.mem_cons_of_mem _ (List.mem_append_right _ h)
theorem qX12_passNight_180 : Cond.fieldLink RX12 180 (TX12 7).1 (TX12 7).2.1 (TX12 7).2.2.1 ∈ wsX12_passNight := List.mem_of_getElem? (i := 3) rfl
theorem qX12_passNight_13 : Cond.fieldLink RX12 13 (TX12 1).1 (TX12 1).2.1 (TX12 1).2.2.1 ∈ wsX12_passNight := List.mem_of_getElem? (i := 2) rfl
theorem qX12_happen_84 : Cond.fieldLink RX12 84 (TX12 6).1 (TX12 6).2.1 (TX12 6).2.2.1 ∈ wsX12_happen := List.mem_of_getElem? (i := 1) rfl
theorem iX12_happen_X12 : ∀ w ∈ wsX120, w ∈ wsX12_happen := fun _ h => List.mem_cons_of_mem _ (List.mem_append_right _ h)
theorem qX12_manyOf_7 : Cond.fieldLink RX12 7 (TX12 0).1 (TX12 0).2.1 (TX12 0).2.2.1 ∈ wsX12_manyOf := List.mem_of_getElem? (i := 1) rfl
theorem iX12_manyOf_X12 : ∀ w ∈ wsX120, w ∈ wsX12_manyOf := fun _ h => List.mem_cons_of_mem _ (List.mem_append_right _ h)
theorem qX12_fitForSale_13 : Cond.fieldLink RX12 13 (TX12 1).1 (TX12 1).2.1 (TX12 1).2.2.1 ∈ wsX12_fitForSale := List.mem_of_getElem? (i := 1) rfl
theorem iX12_fitForSale_X12 : ∀ w ∈ wsX120, w ∈ wsX12_fitForSale := fun _ h => List.mem_cons_of_mem _ (List.mem_append_right _ h)
set_option maxHeartbeats 4000000 in
set_option maxRecDepth 100000 in
theorem c_X12_price (l : Launch) (G : uG) (t : Nat) (ht : t < 12) (M : uM) (w : Nat → Nat → Nat) (hr : uMd M w) (hw : wOk w) : CTi l G yX12_price wsX12_price 0 0 [.ref (G.2.2 71), .int (nI t)] M (fun r M2 => r = nI (wPrice w t) ∧ M2 = M) := by
  obtain ⟨b1, b2, b3, b4, b5⟩ := hw.1 t ht
  refine ustart_i (cc := cX12_price) (maxL := 2) (ret := (some .int)) (own := RX12) rfl (by decide) rfl (Nat.le_of_ble_eq_true rfl) ?_
  intro xp xe xs xm xa xb xt xc xA ls S hK hA Z hre hlk hl
  have hl : lv_has ls 2 [(0, .ref (G.2.2 71)), (1, .int (nI t))] := hl
  refine lv_aload_n S.1 S.2.1 dX12_price_0 rfl (lv_at hl 0 rfl) ?_
  refine ug_r S hK Z (j := 1) 73 (by decide) rfl rfl rfl (by decide) iX12_price_X12 qX12_price_13 dX12_price_1 ?_
  refine lv_iload_n S.1 S.2.1 dX12_price_4 rfl (lv_at hl 1 rfl) ?_
  refine ua_ild S hK Z t (by decide) rfl rfl (by omega) dX12_price_5 ?_
  refine utop (y := (nI (w 2 t))) (uMd_r hr t (j := 2) (by decide)) ?_
  refine lv_iconst (v := 2) S.1 S.2.1 dX12_price_6 (by decide) ?_
  refine lv_icmp_lt (tgt := 21) S.1 S.2.1 dX12_price_7 (by decide) (fun c_1 => ?_) (fun c_1 => ?_)
  · skip
    have c_1 : (w 2 t) < 2 := (nI_ltI (a := (w 2 t)) (b := 2) (by omega) (by omega)).mp c_1
    refine lv_iconst (v := 0) S.1 S.2.1 dX12_price_21 (by decide) ?_
    refine lv_goto (tgt := 40) S.1 S.2.1 dX12_price_22 (by decide) ?_
    refine uret_i S hK Z hre hlk dX12_price_40 ?_
    refine ⟨?_, rfl⟩
    unfold wPrice
    rw [if_pos (by omega)] <;> rfl
  · skip
    have c_1 : ¬ (w 2 t) < 2 := fun z9 => c_1 ((nI_ltI (a := (w 2 t)) (b := 2) (by omega) (by omega)).mpr z9)
    refine lv_aload_n S.1 S.2.1 dX12_price_10 rfl (lv_at hl 0 rfl) ?_
    refine ug_r S hK Z (j := 1) 73 (by decide) rfl rfl rfl (by decide) iX12_price_X12 qX12_price_13 dX12_price_11 ?_
    refine lv_iload_n S.1 S.2.1 dX12_price_14 rfl (lv_at hl 1 rfl) ?_
    refine ua_ild S hK Z t (by decide) rfl rfl (by omega) dX12_price_15 ?_
    refine utop (y := (nI (w 2 t))) (uMd_r hr t (j := 2) (by decide)) ?_
    refine lv_bipush (v := 9) S.1 S.2.1 dX12_price_16 (by decide) ?_
    refine lv_icmp_ne (tgt := 25) S.1 S.2.1 dX12_price_18 (by decide) (fun c_2 => ?_) (fun c_2 => ?_)
    · skip
      have c_2 : ¬ (w 2 t) = 9 := fun z9 => c_2 ((nI_eq (a := (w 2 t)) (b := 9) (by omega) (by omega)).mpr z9)
      refine lv_aload_n S.1 S.2.1 dX12_price_25 rfl (lv_at hl 0 rfl) ?_
      refine ug_r S hK Z (j := 2) 74 (by decide) rfl rfl rfl (by decide) iX12_price_X12 qX12_price_16 dX12_price_26 ?_
      refine lv_iload_n S.1 S.2.1 dX12_price_29 rfl (lv_at hl 1 rfl) ?_
      refine ua_ild S hK Z t (by decide) rfl rfl (by omega) dX12_price_30 ?_
      refine utop (y := (nI (w 3 t))) (uMd_r hr t (j := 3) (by decide)) ?_
      refine lv_aload_n S.1 S.2.1 dX12_price_31 rfl (lv_at hl 0 rfl) ?_
      refine ug_r S hK Z (j := 1) 73 (by decide) rfl rfl rfl (by decide) iX12_price_X12 qX12_price_13 dX12_price_32 ?_
      refine lv_iload_n S.1 S.2.1 dX12_price_35 rfl (lv_at hl 1 rfl) ?_
      refine ua_ild S hK Z t (by decide) rfl rfl (by omega) dX12_price_36 ?_
      refine utop (y := (nI (w 2 t))) (uMd_r hr t (j := 2) (by decide)) ?_
      refine lv_iconst (v := 1) S.1 S.2.1 dX12_price_37 (by decide) ?_
      refine lv_isub S.1 S.2.1 dX12_price_38 ?_
      refine utop (pk_sub (a := (w 2 t)) (b := 1) (by omega)) ?_
      refine lv_imul S.1 S.2.1 dX12_price_39 ?_
      refine utop (pk_mul (w 3 t) ((w 2 t) - 1)) ?_
      refine uret_i S hK Z hre hlk dX12_price_40 ?_
      refine ⟨?_, rfl⟩
      unfold wPrice
      rw [if_neg (by omega)]
    · skip
      have c_2 : (w 2 t) = 9 := (nI_eq (a := (w 2 t)) (b := 9) (by omega) (by omega)).mp c_2
      refine lv_iconst (v := 0) S.1 S.2.1 dX12_price_21 (by decide) ?_
      refine lv_goto (tgt := 40) S.1 S.2.1 dX12_price_22 (by decide) ?_
      refine uret_i S hK Z hre hlk dX12_price_40 ?_
      refine ⟨?_, rfl⟩
      unfold wPrice
      rw [if_pos (by omega)] <;> rfl
set_option maxHeartbeats 4000000 in
set_option maxRecDepth 100000 in
theorem c_X12_whyNoTake (l : Launch) (G : uG) (k t : Nat) (hk : k < 8) (ht : t < 12) (M : uM) (w : Nat → Nat → Nat) (hr : uMd M w) (hw : wOk w) : CTi l G yX12_whyNoTake wsX12_whyNoTake 1 21 [.ref (G.2.2 71), .int (nI k), .int (nI t)] M (fun r M2 => r = nI (acTake w k t).1 ∧ M2 = M) := by
  obtain ⟨b1, b2, b3, b4, b5⟩ := hw.1 t ht
  have b6 := hw.2.2.1
  refine ustart_i (cc := cX12_whyNoTake) (maxL := 3) (ret := (some .int)) (own := RX12) rfl (by decide) rfl (Nat.le_of_ble_eq_true rfl) ?_
  intro xp xe xs xm xa xb xt xc xA ls S hK hA Z hre hlk hl
  have hl : lv_has ls 3 [(0, .ref (G.2.2 71)), (1, .int (nI k)), (2, .int (nI t))] := hl
  refine lv_aload_n S.1 S.2.1 dX12_whyNoTake_0 rfl (lv_at hl 0 rfl) ?_
  refine ug_r S hK Z (j := 0) 72 (by decide) rfl rfl rfl (by decide) iX12_whyNoTake_X12 qX12_whyNoTake_7 dX12_whyNoTake_1 ?_
  refine lv_iload_n S.1 S.2.1 dX12_whyNoTake_4 rfl (lv_at hl 2 rfl) ?_
  refine ua_ild S hK Z t (by decide) rfl rfl (by omega) dX12_whyNoTake_5 ?_
  refine utop (y := (nI (w 1 t))) (uMd_r hr t (j := 1) (by decide)) ?_
  refine lv_iload_n S.1 S.2.1 dX12_whyNoTake_6 rfl (lv_at hl 1 rfl) ?_
  refine lv_icmp_ne (tgt := 14) S.1 S.2.1 dX12_whyNoTake_7 (by decide) (fun c_1 => ?_) (fun c_1 => ?_)
  · skip
    have c_1 : ¬ (w 1 t) = k := fun z9 => c_1 ((nI_eq (a := (w 1 t)) (b := k) (by omega) (by omega)).mpr z9)
    refine lv_aload_n S.1 S.2.1 dX12_whyNoTake_14 rfl (lv_at hl 0 rfl) ?_
    refine ug_i S hK Z (j := 6) (by decide) rfl rfl rfl (by decide) iX12_whyNoTake_X12 qX12_whyNoTake_84 dX12_whyNoTake_15 ?_
    refine utop (y := (nI (w 0 7))) (uMd_6 hr) ?_
    refine lv_aload_n S.1 S.2.1 dX12_whyNoTake_18 rfl (lv_at hl 0 rfl) ?_
    refine ug_r S hK Z (j := 0) 72 (by decide) rfl rfl rfl (by decide) iX12_whyNoTake_X12 qX12_whyNoTake_7 dX12_whyNoTake_19 ?_
    refine lv_iload_n S.1 S.2.1 dX12_whyNoTake_22 rfl (lv_at hl 2 rfl) ?_
    refine ua_ild S hK Z t (by decide) rfl rfl (by omega) dX12_whyNoTake_23 ?_
    refine utop (y := (nI (w 1 t))) (uMd_r hr t (j := 1) (by decide)) ?_
    refine uc_Si (As := [.int (nI (w 0 7)), .int (nI (w 1 t))]) (rest := []) S hK hA Z (c_X12_has l G (w 0 7) (w 1 t) (by omega) (by omega) M) (va_cwS 2 S.2.2.2.2 gX12_whyNoTake_X12_has rfl rfl rfl (by decide +kernel) ⟨Nat.le_of_ble_eq_true rfl, Nat.le_of_ble_eq_true rfl⟩) rfl hl.1 rfl (Nat.le_of_ble_eq_true rfl) dX12_whyNoTake_24 ⟨Nat.zero_le _, Nat.zero_le _⟩ (fun r_2 M_2 H locs hp Z => ?_)
    obtain ⟨⟨rfl, w_2⟩ | ⟨rfl, w_2⟩, hM_2⟩ := hp
    · skip
      rw [hM_2] at Z
      refine lv_if_eq (tgt := 34) S.1 S.2.1 dX12_whyNoTake_27 (by decide) (fun c => absurd c (by decide)) (fun _ => ?_)
      refine lv_iconst (v := 0) S.1 S.2.1 dX12_whyNoTake_30 (by decide) ?_
      refine lv_goto (tgt := 35) S.1 S.2.1 dX12_whyNoTake_31 (by decide) ?_
      refine uret_i S hK Z hre hlk dX12_whyNoTake_35 ?_
      refine ⟨?_, rfl⟩
      unfold acTake
      rw [if_neg (by omega), if_pos (by assumption)] <;> rfl
    · skip
      rw [hM_2] at Z
      refine lv_if_eq (tgt := 34) S.1 S.2.1 dX12_whyNoTake_27 (by decide) (fun _ => ?_) (fun c => absurd c (by decide))
      refine lv_iconst (v := 2) S.1 S.2.1 dX12_whyNoTake_34 (by decide) ?_
      refine uret_i S hK Z hre hlk dX12_whyNoTake_35 ?_
      refine ⟨?_, rfl⟩
      unfold acTake
      rw [if_neg (by omega), if_neg (by assumption)] <;> rfl
  · skip
    have c_1 : (w 1 t) = k := (nI_eq (a := (w 1 t)) (b := k) (by omega) (by omega)).mp c_1
    refine lv_iconst (v := 1) S.1 S.2.1 dX12_whyNoTake_10 (by decide) ?_
    refine lv_goto (tgt := 35) S.1 S.2.1 dX12_whyNoTake_11 (by decide) ?_
    refine uret_i S hK Z hre hlk dX12_whyNoTake_35 ?_
    refine ⟨?_, rfl⟩
    unfold acTake
    rw [if_pos (by omega)] <;> rfl
set_option maxHeartbeats 4000000 in
set_option maxRecDepth 100000 in
theorem c_X12_whyNoGift (l : Launch) (G : uG) (k t q : Nat) (hk : k < 8) (ht : t < 12) (hq : q < 8) (M : uM) (w : Nat → Nat → Nat) (hr : uMd M w) (hw : wOk w) : CTi l G yX12_whyNoGift wsX12_whyNoGift 0 0 [.ref (G.2.2 71), .int (nI k), .int (nI t), .int (nI q)] M (fun r M2 => r = nI (acWhy w k t q) ∧ M2 = M) := by
  obtain ⟨b1, b2, b3, b4, b5⟩ := hw.1 t ht
  refine ustart_i (cc := cX12_whyNoGift) (maxL := 4) (ret := (some .int)) (own := RX12) rfl (by decide) rfl (Nat.le_of_ble_eq_true rfl) ?_
  intro xp xe xs xm xa xb xt xc xA ls S hK hA Z hre hlk hl
  have hl : lv_has ls 4 [(0, .ref (G.2.2 71)), (1, .int (nI k)), (2, .int (nI t)), (3, .int (nI q))] := hl
  refine lv_aload_n S.1 S.2.1 dX12_whyNoGift_0 rfl (lv_at hl 0 rfl) ?_
  refine ug_r S hK Z (j := 0) 72 (by decide) rfl rfl rfl (by decide) iX12_whyNoGift_X12 qX12_whyNoGift_7 dX12_whyNoGift_1 ?_
  refine lv_iload_n S.1 S.2.1 dX12_whyNoGift_4 rfl (lv_at hl 2 rfl) ?_
  refine ua_ild S hK Z t (by decide) rfl rfl (by omega) dX12_whyNoGift_5 ?_
  refine utop (y := (nI (w 1 t))) (uMd_r hr t (j := 1) (by decide)) ?_
  refine lv_iload_n S.1 S.2.1 dX12_whyNoGift_6 rfl (lv_at hl 1 rfl) ?_
  refine lv_icmp_eq (tgt := 14) S.1 S.2.1 dX12_whyNoGift_7 (by decide) (fun c_1 => ?_) (fun c_1 => ?_)
  · skip
    have c_1 : (w 1 t) = k := (nI_eq (a := (w 1 t)) (b := k) (by omega) (by omega)).mp c_1
    refine lv_iload_n S.1 S.2.1 dX12_whyNoGift_14 rfl (lv_at hl 1 rfl) ?_
    refine lv_iload_n S.1 S.2.1 dX12_whyNoGift_15 rfl (lv_at hl 3 rfl) ?_
    refine lv_icmp_ne (tgt := 23) S.1 S.2.1 dX12_whyNoGift_16 (by decide) (fun c_2 => ?_) (fun c_2 => ?_)
    · skip
      have c_2 : ¬ k = q := fun z9 => c_2 ((nI_eq (a := k) (b := q) (by omega) (by omega)).mpr z9)
      refine lv_iconst (v := 0) S.1 S.2.1 dX12_whyNoGift_23 (by decide) ?_
      refine uret_i S hK Z hre hlk dX12_whyNoGift_24 ?_
      refine ⟨?_, rfl⟩
      unfold acWhy
      rw [if_pos (by omega), if_neg (by omega)] <;> rfl
    · skip
      have c_2 : k = q := (nI_eq (a := k) (b := q) (by omega) (by omega)).mp c_2
      refine lv_iconst (v := 3) S.1 S.2.1 dX12_whyNoGift_19 (by decide) ?_
      refine lv_goto (tgt := 24) S.1 S.2.1 dX12_whyNoGift_20 (by decide) ?_
      refine uret_i S hK Z hre hlk dX12_whyNoGift_24 ?_
      refine ⟨?_, rfl⟩
      unfold acWhy
      rw [if_pos (by omega), if_pos (by omega)] <;> rfl
  · skip
    have c_1 : ¬ (w 1 t) = k := fun z9 => c_1 ((nI_eq (a := (w 1 t)) (b := k) (by omega) (by omega)).mpr z9)
    refine lv_iconst (v := 1) S.1 S.2.1 dX12_whyNoGift_10 (by decide) ?_
    refine lv_goto (tgt := 24) S.1 S.2.1 dX12_whyNoGift_11 (by decide) ?_
    refine uret_i S hK Z hre hlk dX12_whyNoGift_24 ?_
    refine ⟨?_, rfl⟩
    unfold acWhy
    rw [if_neg (by omega)] <;> rfl
set_option maxHeartbeats 4000000 in
set_option maxRecDepth 100000 in
theorem c_X12_whyNoSale (l : Launch) (G : uG) (k t q : Nat) (hk : k < 8) (ht : t < 12) (hq : q < 8) (M : uM) (w : Nat → Nat → Nat) (hr : uMd M w) (hw : wOk w) : CTi l G yX12_whyNoSale wsX12_whyNoSale 1 23 [.ref (G.2.2 71), .int (nI k), .int (nI t), .int (nI q)] M (fun r M2 => r = nI (acSell w k t q).1 ∧ M2 = M) := by
  obtain ⟨b1, b2, b3, b4, b5⟩ := hw.1 t ht
  obtain ⟨d1, -⟩ := hw.2.1 q hq
  refine ustart_i (cc := cX12_whyNoSale) (maxL := 5) (ret := (some .int)) (own := RX12) rfl (by decide) rfl (Nat.le_of_ble_eq_true rfl) ?_
  intro xp xe xs xm xa xb xt xc xA ls S hK hA Z hre hlk hl
  have hl : lv_has ls 5 [(0, .ref (G.2.2 71)), (1, .int (nI k)), (2, .int (nI t)), (3, .int (nI q))] := hl
  refine lv_aload_n S.1 S.2.1 dX12_whyNoSale_0 rfl (lv_at hl 0 rfl) ?_
  refine lv_iload_n S.1 S.2.1 dX12_whyNoSale_1 rfl (lv_at hl 1 rfl) ?_
  refine lv_iload_n S.1 S.2.1 dX12_whyNoSale_2 rfl (lv_at hl 2 rfl) ?_
  refine lv_iload_n S.1 S.2.1 dX12_whyNoSale_3 rfl (lv_at hl 3 rfl) ?_
  refine ud_Vi (As := [.int (nI k), .int (nI t), .int (nI q)]) (rest := []) S hK hA Z (c_X12_whyNoGift l G k t q (by omega) (by omega) (by omega) M w hr hw) (cwV 3 S.2.2.2.2 gX12_whyNoSale_X12_whyNoGift rfl rfl rfl (by decide +kernel) ⟨Nat.le_of_ble_eq_true rfl, Nat.le_of_ble_eq_true rfl⟩) (by decide) rfl rfl rfl hl.1 rfl (Nat.le_of_ble_eq_true rfl) dX12_whyNoSale_4 ⟨Nat.zero_le _, Nat.zero_le _⟩ (fun H locs Z => ?_)
  have b7 := acWhy_le w k t q
  refine lv_istore (lv' := [(4, .int (nI (acWhy w k t q))), (0, .ref (G.2.2 71)), (1, .int (nI k)), (2, .int (nI t)), (3, .int (nI q))]) S.1 S.2.1 dX12_whyNoSale_7 hl (by decide) rfl (fun ls hl => ?_)
  refine lv_iload S.1 S.2.1 dX12_whyNoSale_9 (lv_at hl 0 rfl) ?_
  refine lv_if_le (tgt := 19) S.1 S.2.1 dX12_whyNoSale_11 (by decide) (fun c_2 => ?_) (fun c_2 => ?_)
  · skip
    have c_2 : (acWhy w k t q) ≤ 0 := (nI_leI (a := (acWhy w k t q)) (b := 0) (by omega) (by omega)).mp c_2
    refine lv_aload_n S.1 S.2.1 dX12_whyNoSale_19 rfl (lv_at hl 1 rfl) ?_
    refine ug_r S hK Z (j := 1) 73 (by decide) rfl rfl rfl (by decide) iX12_whyNoSale_X12 qX12_whyNoSale_13 dX12_whyNoSale_20 ?_
    refine lv_iload_n S.1 S.2.1 dX12_whyNoSale_23 rfl (lv_at hl 3 rfl) ?_
    refine ua_ild S hK Z t (by decide) rfl rfl (by omega) dX12_whyNoSale_24 ?_
    refine utop (y := (nI (w 2 t))) (uMd_r hr t (j := 2) (by decide)) ?_
    refine lv_iconst (v := 2) S.1 S.2.1 dX12_whyNoSale_25 (by decide) ?_
    refine lv_icmp_ge (tgt := 33) S.1 S.2.1 dX12_whyNoSale_26 (by decide) (fun c_3 => ?_) (fun c_3 => ?_)
    · skip
      have c_3 : 2 ≤ (w 2 t) := (nI_leI (a := 2) (b := (w 2 t)) (by omega) (by omega)).mp c_3
      refine lv_aload_n S.1 S.2.1 dX12_whyNoSale_33 rfl (lv_at hl 1 rfl) ?_
      refine ug_r S hK Z (j := 4) 76 (by decide) rfl rfl rfl (by decide) iX12_whyNoSale_X12 qX12_whyNoSale_22 dX12_whyNoSale_34 ?_
      refine lv_iload_n S.1 S.2.1 dX12_whyNoSale_37 rfl (lv_at hl 4 rfl) ?_
      refine ua_ild S hK Z q (by decide) rfl rfl (by omega) dX12_whyNoSale_38 ?_
      refine utop (y := (nI (w 5 q))) (uMd_r hr q (j := 5) (by decide)) ?_
      refine lv_aload_n S.1 S.2.1 dX12_whyNoSale_39 rfl (lv_at hl 1 rfl) ?_
      refine lv_iload_n S.1 S.2.1 dX12_whyNoSale_40 rfl (lv_at hl 3 rfl) ?_
      refine ud_Vi (As := [.int (nI t)]) (rest := [.int (nI (w 5 q))]) S hK hA Z (c_X12_price l G t (by omega) M w hr hw) (cwV 1 S.2.2.2.2 gX12_whyNoSale_X12_price rfl rfl rfl (by decide +kernel) ⟨Nat.le_of_ble_eq_true rfl, Nat.le_of_ble_eq_true rfl⟩) (by decide) rfl rfl rfl hl.1 rfl (Nat.le_of_ble_eq_true rfl) dX12_whyNoSale_41 ⟨Nat.zero_le _, Nat.zero_le _⟩ (fun H locs Z => ?_)
      have b8 := wPrice_l2 hw (show t < 12 by omega)
      refine lv_icmp_ge (tgt := 51) S.1 S.2.1 dX12_whyNoSale_44 (by decide) (fun c_5 => ?_) (fun c_5 => ?_)
      · skip
        have c_5 : (wPrice w t) ≤ (w 5 q) := (nI_leI (a := (wPrice w t)) (b := (w 5 q)) (by omega) (by omega)).mp c_5
        refine lv_iconst (v := 0) S.1 S.2.1 dX12_whyNoSale_51 (by decide) ?_
        refine uret_i S hK Z hre hlk dX12_whyNoSale_52 ?_
        refine ⟨?_, rfl⟩
        unfold acSell
        rw [if_pos (by omega), if_neg (by omega), if_neg (by omega)] <;> rfl
      · skip
        have c_5 : ¬ (wPrice w t) ≤ (w 5 q) := fun z9 => c_5 ((nI_leI (a := (wPrice w t)) (b := (w 5 q)) (by omega) (by omega)).mpr z9)
        refine lv_iconst (v := 5) S.1 S.2.1 dX12_whyNoSale_47 (by decide) ?_
        refine lv_goto (tgt := 52) S.1 S.2.1 dX12_whyNoSale_48 (by decide) ?_
        refine uret_i S hK Z hre hlk dX12_whyNoSale_52 ?_
        refine ⟨?_, rfl⟩
        unfold acSell
        rw [if_pos (by omega), if_neg (by omega), if_pos (by omega)] <;> rfl
    · skip
      have c_3 : ¬ 2 ≤ (w 2 t) := fun z9 => c_3 ((nI_leI (a := 2) (b := (w 2 t)) (by omega) (by omega)).mpr z9)
      refine lv_iconst (v := 4) S.1 S.2.1 dX12_whyNoSale_29 (by decide) ?_
      refine lv_goto (tgt := 52) S.1 S.2.1 dX12_whyNoSale_30 (by decide) ?_
      refine uret_i S hK Z hre hlk dX12_whyNoSale_52 ?_
      refine ⟨?_, rfl⟩
      unfold acSell
      rw [if_pos (by omega), if_pos (by omega)] <;> rfl
  · skip
    have c_2 : ¬ (acWhy w k t q) ≤ 0 := fun z9 => c_2 ((nI_leI (a := (acWhy w k t q)) (b := 0) (by omega) (by omega)).mpr z9)
    refine lv_iload S.1 S.2.1 dX12_whyNoSale_14 (lv_at hl 0 rfl) ?_
    refine lv_goto (tgt := 52) S.1 S.2.1 dX12_whyNoSale_16 (by decide) ?_
    refine uret_i S hK Z hre hlk dX12_whyNoSale_52 ?_
    refine ⟨?_, rfl⟩
    unfold acSell
    rw [if_neg (by omega)] <;> rfl
set_option maxHeartbeats 4000000 in
set_option maxRecDepth 100000 in
theorem c_X12_whyNot (l : Launch) (G : uG) (kd k t q : Nat) (hkd : kd ≤ 4) (hi : acIn kd k t q) (M : uM) (w : Nat → Nat → Nat) (hr : uMd M w) (hw : wOk w) : CTi l G yX12_whyNot wsX12_whyNot 2 47 [.ref (G.2.2 71), .int (nI kd), .int (nI k), .int (nI t), .int (nI q)] M (fun r M2 => r = nI (ac w kd k t q).1 ∧ M2 = M) := by
  refine ustart_i (cc := cX12_whyNot) (maxL := 5) (ret := (some .int)) (own := RX12) rfl (by decide) rfl (Nat.le_of_ble_eq_true rfl) ?_
  intro xp xe xs xm xa xb xt xc xA ls S hK hA Z hre hlk hl
  have hl : lv_has ls 5 [(0, .ref (G.2.2 71)), (1, .int (nI kd)), (2, .int (nI k)), (3, .int (nI t)), (4, .int (nI q))] := hl
  refine lv_iload_n S.1 S.2.1 dX12_whyNot_0 rfl (lv_at hl 1 rfl) ?_
  by_cases k_1 : (nI kd) = 0
  · skip
    refine utop k_1 ?_
    have k_1 : kd = 0 := (nI_eq (a := kd) (b := 0) (by omega) (by omega)).mp k_1
    refine lv_tableIn (tgt := 36) S.1 S.2.1 dX12_whyNot_1 (by decide) (by decide) rfl (by decide) ?_
    obtain rfl : kd = 0 := by omega
    obtain ⟨e1, e2⟩ := hi.1 rfl
    refine lv_aload_n S.1 S.2.1 dX12_whyNot_36 rfl (lv_at hl 0 rfl) ?_
    refine lv_iload_n S.1 S.2.1 dX12_whyNot_37 rfl (lv_at hl 2 rfl) ?_
    refine lv_iload_n S.1 S.2.1 dX12_whyNot_38 rfl (lv_at hl 3 rfl) ?_
    refine ud_Vi (As := [.int (nI k), .int (nI t)]) (rest := []) S hK hA Z (c_X12_whyNoTake l G k t (by omega) (by omega) M w hr hw) (cwV 2 S.2.2.2.2 gX12_whyNot_X12_whyNoTake rfl rfl rfl (by decide +kernel) ⟨Nat.le_of_ble_eq_true rfl, Nat.le_of_ble_eq_true rfl⟩) (by decide) rfl rfl rfl hl.1 rfl (Nat.le_of_ble_eq_true rfl) dX12_whyNot_39 ⟨Nat.zero_le _, Nat.zero_le _⟩ (fun H locs Z => ?_)
    refine uret_i S hK Z hre hlk dX12_whyNot_42 ?_
    exact ⟨rfl, rfl⟩
  · skip
    have jk_1 : ¬ kd = 0 := fun z9 => k_1 ((nI_eq (a := kd) (b := 0) (by omega) (by omega)).mpr z9)
    by_cases k_3 : (nI kd) = 1
    · skip
      refine utop k_3 ?_
      have k_3 : kd = 1 := (nI_eq (a := kd) (b := 1) (by omega) (by omega)).mp k_3
      refine lv_tableIn (tgt := 43) S.1 S.2.1 dX12_whyNot_1 (by decide) (by decide) rfl (by decide) ?_
      obtain rfl : kd = 1 := by omega
      obtain ⟨e1, e2, e3⟩ := hi.2.1 (Or.inl rfl)
      refine lv_aload_n S.1 S.2.1 dX12_whyNot_43 rfl (lv_at hl 0 rfl) ?_
      refine lv_iload_n S.1 S.2.1 dX12_whyNot_44 rfl (lv_at hl 2 rfl) ?_
      refine lv_iload_n S.1 S.2.1 dX12_whyNot_45 rfl (lv_at hl 3 rfl) ?_
      refine lv_iload S.1 S.2.1 dX12_whyNot_46 (lv_at hl 4 rfl) ?_
      refine ud_Vi (As := [.int (nI k), .int (nI t), .int (nI q)]) (rest := []) S hK hA Z (c_X12_whyNoSale l G k t q (by omega) (by omega) (by omega) M w hr hw) (cwV 3 S.2.2.2.2 gX12_whyNot_X12_whyNoSale rfl rfl rfl (by decide +kernel) ⟨Nat.le_of_ble_eq_true rfl, Nat.le_of_ble_eq_true rfl⟩) (by decide) rfl rfl rfl hl.1 rfl (Nat.le_of_ble_eq_true rfl) dX12_whyNot_48 ⟨Nat.zero_le _, Nat.zero_le _⟩ (fun H locs Z => ?_)
      refine uret_i S hK Z hre hlk dX12_whyNot_51 ?_
      exact ⟨rfl, rfl⟩
    · skip
      have jk_3 : ¬ kd = 1 := fun z9 => k_3 ((nI_eq (a := kd) (b := 1) (by omega) (by omega)).mpr z9)
      by_cases k_5 : (nI kd) = 2
      · skip
        refine utop k_5 ?_
        have k_5 : kd = 2 := (nI_eq (a := kd) (b := 2) (by omega) (by omega)).mp k_5
        refine lv_tableIn (tgt := 52) S.1 S.2.1 dX12_whyNot_1 (by decide) (by decide) rfl (by decide) ?_
        obtain rfl : kd = 2 := by omega
        obtain ⟨e1, e2, e3⟩ := hi.2.1 (Or.inr rfl)
        refine lv_aload_n S.1 S.2.1 dX12_whyNot_52 rfl (lv_at hl 0 rfl) ?_
        refine lv_iload_n S.1 S.2.1 dX12_whyNot_53 rfl (lv_at hl 2 rfl) ?_
        refine lv_iload_n S.1 S.2.1 dX12_whyNot_54 rfl (lv_at hl 3 rfl) ?_
        refine lv_iload S.1 S.2.1 dX12_whyNot_55 (lv_at hl 4 rfl) ?_
        refine ud_Vi (As := [.int (nI k), .int (nI t), .int (nI q)]) (rest := []) S hK hA Z (c_X12_whyNoGift l G k t q (by omega) (by omega) (by omega) M w hr hw) (cwV 3 S.2.2.2.2 gX12_whyNot_X12_whyNoGift rfl rfl rfl (by decide +kernel) ⟨Nat.le_of_ble_eq_true rfl, Nat.le_of_ble_eq_true rfl⟩) (by decide) rfl rfl rfl hl.1 rfl (Nat.le_of_ble_eq_true rfl) dX12_whyNot_57 ⟨Nat.zero_le _, Nat.zero_le _⟩ (fun H locs Z => ?_)
        have b7 := acWhy_le w k t q
        refine uret_i S hK Z hre hlk dX12_whyNot_60 ?_
        refine ⟨?_, rfl⟩
        show _ = nI (acGive w k t q).1
        unfold acGive
        by_cases z : acWhy w k t q = 0
        · rw [if_pos z, z]
        · rw [if_neg z]
      · skip
        have jk_5 : ¬ kd = 2 := fun z9 => k_5 ((nI_eq (a := kd) (b := 2) (by omega) (by omega)).mpr z9)
        by_cases k_7 : (nI kd) = 3
        · skip
          refine utop k_7 ?_
          have k_7 : kd = 3 := (nI_eq (a := kd) (b := 3) (by omega) (by omega)).mp k_7
          refine lv_tableIn (tgt := 77) S.1 S.2.1 dX12_whyNot_1 (by decide) (by decide) rfl (by decide) ?_
          obtain rfl : kd = 3 := by omega
          refine lv_iconst (v := 0) S.1 S.2.1 dX12_whyNot_77 (by decide) ?_
          refine uret_i S hK Z hre hlk dX12_whyNot_78 ?_
          exact ⟨rfl, rfl⟩
        · skip
          have jk_7 : ¬ kd = 3 := fun z9 => k_7 ((nI_eq (a := kd) (b := 3) (by omega) (by omega)).mpr z9)
          by_cases k_8 : (nI kd) = 4
          · skip
            refine utop k_8 ?_
            have k_8 : kd = 4 := (nI_eq (a := kd) (b := 4) (by omega) (by omega)).mp k_8
            refine lv_tableIn (tgt := 61) S.1 S.2.1 dX12_whyNot_1 (by decide) (by decide) rfl (by decide) ?_
            obtain rfl : kd = 4 := by omega
            have b9 := hw.2.2.2.1
            refine lv_aload_n S.1 S.2.1 dX12_whyNot_61 rfl (lv_at hl 0 rfl) ?_
            refine ug_i S hK Z (j := 7) (by decide) rfl rfl rfl (by decide) iX12_whyNot_X12 qX12_whyNot_180 dX12_whyNot_62 ?_
            refine utop (y := (nI (w 0 8))) (uMd_7 hr) ?_
            refine lv_bipush (v := 99) S.1 S.2.1 dX12_whyNot_65 (by decide) ?_
            refine lv_icmp_ne (tgt := 75) S.1 S.2.1 dX12_whyNot_67 (by decide) (fun c_9 => ?_) (fun c_9 => ?_)
            · skip
              have c_9 : ¬ (w 0 8) = 99 := fun z9 => c_9 ((nI_eq (a := (w 0 8)) (b := 99) (by omega) (by omega)).mpr z9)
              refine lv_iconst (v := 0) S.1 S.2.1 dX12_whyNot_75 (by decide) ?_
              refine uret_i S hK Z hre hlk dX12_whyNot_76 ?_
              refine ⟨?_, rfl⟩
              show _ = nI (acNight w).1
              unfold acNight
              first | (rw [if_neg (by omega)]; rfl) | (rw [if_pos (by omega)]; rfl)
            · skip
              have c_9 : (w 0 8) = 99 := (nI_eq (a := (w 0 8)) (b := 99) (by omega) (by omega)).mp c_9
              refine lv_bipush (v := 6) S.1 S.2.1 dX12_whyNot_70 (by decide) ?_
              refine lv_goto (tgt := 76) S.1 S.2.1 dX12_whyNot_72 (by decide) ?_
              refine uret_i S hK Z hre hlk dX12_whyNot_76 ?_
              refine ⟨?_, rfl⟩
              show _ = nI (acNight w).1
              unfold acNight
              first | (rw [if_neg (by omega)]; rfl) | (rw [if_pos (by omega)]; rfl)
          · skip
            have jk_8 : ¬ kd = 4 := fun z9 => k_8 ((nI_eq (a := kd) (b := 4) (by omega) (by omega)).mpr z9)
            omega
set_option maxHeartbeats 4000000 in
set_option maxRecDepth 100000 in
theorem c_X12_take (l : Launch) (G : uG) (k t : Nat) (hk : k < 8) (ht : t < 12) (M : uM) (w : Nat → Nat → Nat) (hw : wOk w) : CTv l G yX12_take wsX12_take 1 21 [.ref (G.2.2 71), .int (nI k), .int (nI t)] (uPM M w) (fun M2 => M2 = uPM M (wu (if w 6 (w 1 t) / 2 ^ k % 2 = 1 then w else wu w 2 t (min 9 (w 2 t + 1))) 1 t k)) := by
  obtain ⟨b1, b2, b3, b4, b5⟩ := hw.1 t ht
  have hsy := hw.2.2.2.2.2.1 k (w 1 t) hk b1
  have b6 := (hw.2.1 k hk).2.1
  refine ustart_v (cc := cX12_take) (maxL := 4) (ret := none) (own := RX12) rfl (by decide) rfl (Nat.le_of_ble_eq_true rfl) ?_
  intro xp xe xs xm xa xb xt xc xA ls S hK hA Z hre hlk hl
  have hl : lv_has ls 4 [(0, .ref (G.2.2 71)), (1, .int (nI k)), (2, .int (nI t))] := hl
  refine lv_aload_n S.1 S.2.1 dX12_take_0 rfl (lv_at hl 0 rfl) ?_
  refine ug_r S hK Z (j := 5) 77 (by decide) rfl rfl rfl (by decide) iX12_take_X12 qX12_take_25 dX12_take_1 ?_
  refine lv_iload_n S.1 S.2.1 dX12_take_4 rfl (lv_at hl 1 rfl) ?_
  refine ua_ild S hK Z k (by decide) rfl rfl (by omega) dX12_take_5 ?_
  refine utop (y := (nI (w 6 k))) (uPM_r M w k (j := 6) (by decide)) ?_
  refine lv_aload_n S.1 S.2.1 dX12_take_6 rfl (lv_at hl 0 rfl) ?_
  refine ug_r S hK Z (j := 0) 72 (by decide) rfl rfl rfl (by decide) iX12_take_X12 qX12_take_7 dX12_take_7 ?_
  refine lv_iload_n S.1 S.2.1 dX12_take_10 rfl (lv_at hl 2 rfl) ?_
  refine ua_ild S hK Z t (by decide) rfl rfl (by omega) dX12_take_11 ?_
  refine utop (y := (nI (w 1 t))) (uPM_r M w t (j := 1) (by decide)) ?_
  refine uc_Si (As := [.int (nI (w 6 k)), .int (nI (w 1 t))]) (rest := []) S hK hA Z (c_X12_has l G (w 6 k) (w 1 t) (by omega) (by omega) (uPM M w)) (va_cwS 2 S.2.2.2.2 gX12_take_X12_has rfl rfl rfl (by decide +kernel) ⟨Nat.le_of_ble_eq_true rfl, Nat.le_of_ble_eq_true rfl⟩) rfl hl.1 rfl (Nat.le_of_ble_eq_true rfl) dX12_take_12 ⟨Nat.zero_le _, Nat.zero_le _⟩ (fun r_1 M_1 H locs hp Z => ?_)
  obtain ⟨⟨rfl, w_1⟩ | ⟨rfl, w_1⟩, hM_1⟩ := hp
  · skip
    rw [hM_1] at Z
    refine lv_if_ne (tgt := 33) S.1 S.2.1 dX12_take_15 (by decide) (fun _ => ?_) (fun c => absurd c (by decide))
    refine lv_iconst (v := 0) S.1 S.2.1 dX12_take_33 (by decide) ?_
    refine lv_istore_n (lv' := [(3, .int 0), (0, .ref (G.2.2 71)), (1, .int (nI k)), (2, .int (nI t))]) S.1 S.2.1 dX12_take_34 rfl hl (by decide) rfl (fun ls hl => ?_)
    refine lv_aload_n S.1 S.2.1 dX12_take_35 rfl (lv_at hl 1 rfl) ?_
    refine ug_r S hK Z (j := 1) 73 (by decide) rfl rfl rfl (by decide) iX12_take_X12 qX12_take_13 dX12_take_36 ?_
    refine lv_iload_n S.1 S.2.1 dX12_take_39 rfl (lv_at hl 3 rfl) ?_
    refine lv_dup2_11 S.1 S.2.1 dX12_take_40 rfl rfl ?_
    refine ua_ild S hK Z t (by decide) rfl rfl (by omega) dX12_take_41 ?_
    refine utop (y := (nI (w 2 t))) (uPM_r M w t (j := 2) (by decide)) ?_
    refine lv_iload_n S.1 S.2.1 dX12_take_42 rfl (lv_at hl 0 rfl) ?_
    refine lv_if_eq (tgt := 50) S.1 S.2.1 dX12_take_43 (by decide) (fun _ => ?_) (fun c => absurd c (by decide))
    refine lv_iconst (v := 0) S.1 S.2.1 dX12_take_50 (by decide) ?_
    refine lv_iadd S.1 S.2.1 dX12_take_51 ?_
    refine utop (nI_add (w 2 t) 0) ?_
    refine ua_ist S hK Z t (by decide) rfl rfl (by omega) dX12_take_52 (fun H locs Z => ?_)
    have Z := uZ_eq (uPM_sr M w t ((w 2 t) + 0) (j := 2) (by decide)) Z
    refine lv_aload_n S.1 S.2.1 dX12_take_53 rfl (lv_at hl 1 rfl) ?_
    refine ug_r S hK Z (j := 0) 72 (by decide) rfl rfl rfl (by decide) iX12_take_X12 qX12_take_7 dX12_take_54 ?_
    refine lv_iload_n S.1 S.2.1 dX12_take_57 rfl (lv_at hl 3 rfl) ?_
    refine lv_iload_n S.1 S.2.1 dX12_take_58 rfl (lv_at hl 2 rfl) ?_
    refine ua_ist S hK Z t (by decide) rfl rfl (by omega) dX12_take_59 (fun H locs Z => ?_)
    have Z := uZ_eq (uPM_sr M (wu w 2 t ((w 2 t) + 0)) t k (j := 1) (by decide)) Z
    refine uret_v S hK Z hre hlk dX12_take_60 ?_
    first
      | rw [if_pos (hsy.symm.trans (by assumption)), Nat.add_zero, wu_id]
      | rw [if_neg (fun z => absurd (hsy.trans z) (by assumption)), show min 9 (w 2 t + 1) = w 2 t + 1 from by omega]
      | rw [if_neg (fun z => absurd (hsy.trans z) (by assumption)), show min 9 (w 2 t + 1) = w 2 t from by omega, Nat.add_zero]
  · skip
    rw [hM_1] at Z
    refine lv_if_ne (tgt := 33) S.1 S.2.1 dX12_take_15 (by decide) (fun c => absurd c (by decide)) (fun _ => ?_)
    refine lv_aload_n S.1 S.2.1 dX12_take_18 rfl (lv_at hl 0 rfl) ?_
    refine ug_r S hK Z (j := 1) 73 (by decide) rfl rfl rfl (by decide) iX12_take_X12 qX12_take_13 dX12_take_19 ?_
    refine lv_iload_n S.1 S.2.1 dX12_take_22 rfl (lv_at hl 2 rfl) ?_
    refine ua_ild S hK Z t (by decide) rfl rfl (by omega) dX12_take_23 ?_
    refine utop (y := (nI (w 2 t))) (uPM_r M w t (j := 2) (by decide)) ?_
    refine lv_bipush (v := 9) S.1 S.2.1 dX12_take_24 (by decide) ?_
    refine lv_icmp_ge (tgt := 33) S.1 S.2.1 dX12_take_26 (by decide) (fun c_5 => ?_) (fun c_5 => ?_)
    · skip
      have c_5 : 9 ≤ (w 2 t) := (nI_leI (a := 9) (b := (w 2 t)) (by omega) (by omega)).mp c_5
      refine lv_iconst (v := 0) S.1 S.2.1 dX12_take_33 (by decide) ?_
      refine lv_istore_n (lv' := [(3, .int 0), (0, .ref (G.2.2 71)), (1, .int (nI k)), (2, .int (nI t))]) S.1 S.2.1 dX12_take_34 rfl hl (by decide) rfl (fun ls hl => ?_)
      refine lv_aload_n S.1 S.2.1 dX12_take_35 rfl (lv_at hl 1 rfl) ?_
      refine ug_r S hK Z (j := 1) 73 (by decide) rfl rfl rfl (by decide) iX12_take_X12 qX12_take_13 dX12_take_36 ?_
      refine lv_iload_n S.1 S.2.1 dX12_take_39 rfl (lv_at hl 3 rfl) ?_
      refine lv_dup2_11 S.1 S.2.1 dX12_take_40 rfl rfl ?_
      refine ua_ild S hK Z t (by decide) rfl rfl (by omega) dX12_take_41 ?_
      refine utop (y := (nI (w 2 t))) (uPM_r M w t (j := 2) (by decide)) ?_
      refine lv_iload_n S.1 S.2.1 dX12_take_42 rfl (lv_at hl 0 rfl) ?_
      refine lv_if_eq (tgt := 50) S.1 S.2.1 dX12_take_43 (by decide) (fun _ => ?_) (fun c => absurd c (by decide))
      refine lv_iconst (v := 0) S.1 S.2.1 dX12_take_50 (by decide) ?_
      refine lv_iadd S.1 S.2.1 dX12_take_51 ?_
      refine utop (nI_add (w 2 t) 0) ?_
      refine ua_ist S hK Z t (by decide) rfl rfl (by omega) dX12_take_52 (fun H locs Z => ?_)
      have Z := uZ_eq (uPM_sr M w t ((w 2 t) + 0) (j := 2) (by decide)) Z
      refine lv_aload_n S.1 S.2.1 dX12_take_53 rfl (lv_at hl 1 rfl) ?_
      refine ug_r S hK Z (j := 0) 72 (by decide) rfl rfl rfl (by decide) iX12_take_X12 qX12_take_7 dX12_take_54 ?_
      refine lv_iload_n S.1 S.2.1 dX12_take_57 rfl (lv_at hl 3 rfl) ?_
      refine lv_iload_n S.1 S.2.1 dX12_take_58 rfl (lv_at hl 2 rfl) ?_
      refine ua_ist S hK Z t (by decide) rfl rfl (by omega) dX12_take_59 (fun H locs Z => ?_)
      have Z := uZ_eq (uPM_sr M (wu w 2 t ((w 2 t) + 0)) t k (j := 1) (by decide)) Z
      refine uret_v S hK Z hre hlk dX12_take_60 ?_
      first
        | rw [if_pos (hsy.symm.trans (by assumption)), Nat.add_zero, wu_id]
        | rw [if_neg (fun z => absurd (hsy.trans z) (by assumption)), show min 9 (w 2 t + 1) = w 2 t + 1 from by omega]
        | rw [if_neg (fun z => absurd (hsy.trans z) (by assumption)), show min 9 (w 2 t + 1) = w 2 t from by omega, Nat.add_zero]
    · skip
      have c_5 : ¬ 9 ≤ (w 2 t) := fun z9 => c_5 ((nI_leI (a := 9) (b := (w 2 t)) (by omega) (by omega)).mpr z9)
      refine lv_iconst (v := 1) S.1 S.2.1 dX12_take_29 (by decide) ?_
      refine lv_goto (tgt := 34) S.1 S.2.1 dX12_take_30 (by decide) ?_
      refine lv_istore_n (lv' := [(3, .int 1), (0, .ref (G.2.2 71)), (1, .int (nI k)), (2, .int (nI t))]) S.1 S.2.1 dX12_take_34 rfl hl (by decide) rfl (fun ls hl => ?_)
      refine lv_aload_n S.1 S.2.1 dX12_take_35 rfl (lv_at hl 1 rfl) ?_
      refine ug_r S hK Z (j := 1) 73 (by decide) rfl rfl rfl (by decide) iX12_take_X12 qX12_take_13 dX12_take_36 ?_
      refine lv_iload_n S.1 S.2.1 dX12_take_39 rfl (lv_at hl 3 rfl) ?_
      refine lv_dup2_11 S.1 S.2.1 dX12_take_40 rfl rfl ?_
      refine ua_ild S hK Z t (by decide) rfl rfl (by omega) dX12_take_41 ?_
      refine utop (y := (nI (w 2 t))) (uPM_r M w t (j := 2) (by decide)) ?_
      refine lv_iload_n S.1 S.2.1 dX12_take_42 rfl (lv_at hl 0 rfl) ?_
      refine lv_if_eq (tgt := 50) S.1 S.2.1 dX12_take_43 (by decide) (fun c => absurd c (by decide)) (fun _ => ?_)
      refine lv_iconst (v := 1) S.1 S.2.1 dX12_take_46 (by decide) ?_
      refine lv_goto (tgt := 51) S.1 S.2.1 dX12_take_47 (by decide) ?_
      refine lv_iadd S.1 S.2.1 dX12_take_51 ?_
      refine utop (nI_add (w 2 t) 1) ?_
      refine ua_ist S hK Z t (by decide) rfl rfl (by omega) dX12_take_52 (fun H locs Z => ?_)
      have Z := uZ_eq (uPM_sr M w t ((w 2 t) + 1) (j := 2) (by decide)) Z
      refine lv_aload_n S.1 S.2.1 dX12_take_53 rfl (lv_at hl 1 rfl) ?_
      refine ug_r S hK Z (j := 0) 72 (by decide) rfl rfl rfl (by decide) iX12_take_X12 qX12_take_7 dX12_take_54 ?_
      refine lv_iload_n S.1 S.2.1 dX12_take_57 rfl (lv_at hl 3 rfl) ?_
      refine lv_iload_n S.1 S.2.1 dX12_take_58 rfl (lv_at hl 2 rfl) ?_
      refine ua_ist S hK Z t (by decide) rfl rfl (by omega) dX12_take_59 (fun H locs Z => ?_)
      have Z := uZ_eq (uPM_sr M (wu w 2 t ((w 2 t) + 1)) t k (j := 1) (by decide)) Z
      refine uret_v S hK Z hre hlk dX12_take_60 ?_
      first
        | rw [if_pos (hsy.symm.trans (by assumption)), Nat.add_zero, wu_id]
        | rw [if_neg (fun z => absurd (hsy.trans z) (by assumption)), show min 9 (w 2 t + 1) = w 2 t + 1 from by omega]
        | rw [if_neg (fun z => absurd (hsy.trans z) (by assumption)), show min 9 (w 2 t + 1) = w 2 t from by omega, Nat.add_zero]
set_option maxHeartbeats 4000000 in
set_option maxRecDepth 100000 in
theorem c_X12_give (l : Launch) (G : uG) (t q : Nat) (ht : t < 12) (hq : q < 8) (M : uM) (w : Nat → Nat → Nat) : CTv l G yX12_give wsX12_give 0 0 [.ref (G.2.2 71), .int (nI t), .int (nI q)] (uPM M w) (fun M2 => M2 = uPM M (wHand w t q)) := by
  refine ustart_v (cc := cX12_give) (maxL := 3) (ret := none) (own := RX12) rfl (by decide) rfl (Nat.le_of_ble_eq_true rfl) ?_
  intro xp xe xs xm xa xb xt xc xA ls S hK hA Z hre hlk hl
  have hl : lv_has ls 3 [(0, .ref (G.2.2 71)), (1, .int (nI t)), (2, .int (nI q))] := hl
  refine lv_aload_n S.1 S.2.1 dX12_give_0 rfl (lv_at hl 0 rfl) ?_
  refine ug_r S hK Z (j := 0) 72 (by decide) rfl rfl rfl (by decide) iX12_give_X12 qX12_give_7 dX12_give_1 ?_
  refine lv_iload_n S.1 S.2.1 dX12_give_4 rfl (lv_at hl 1 rfl) ?_
  refine lv_iload_n S.1 S.2.1 dX12_give_5 rfl (lv_at hl 2 rfl) ?_
  refine ua_ist S hK Z t (by decide) rfl rfl (by omega) dX12_give_6 (fun H locs Z => ?_)
  have Z := uZ_eq (uPM_sr M w t q (j := 1) (by decide)) Z
  refine lv_aload_n S.1 S.2.1 dX12_give_7 rfl (lv_at hl 0 rfl) ?_
  refine ug_r S hK Z (j := 1) 73 (by decide) rfl rfl rfl (by decide) iX12_give_X12 qX12_give_13 dX12_give_8 ?_
  refine lv_iload_n S.1 S.2.1 dX12_give_11 rfl (lv_at hl 1 rfl) ?_
  refine lv_iconst (v := 0) S.1 S.2.1 dX12_give_12 (by decide) ?_
  refine ua_ist S hK Z t (by decide) rfl rfl (by omega) dX12_give_13 (fun H locs Z => ?_)
  have Z := uZ_eq (uPM_sr M (wu w 1 t q) t 0 (j := 2) (by decide)) Z
  refine uret_v S hK Z hre hlk dX12_give_14 ?_
  exact rfl
set_option maxHeartbeats 4000000 in
set_option maxRecDepth 100000 in
theorem c_X12_sell (l : Launch) (G : uG) (k t q : Nat) (hk : k < 8) (ht : t < 12) (hq : q < 8) (hkq : ¬ k = q) (M : uM) (w : Nat → Nat → Nat) (hw : wOk w) (sl cm : Nat) (ba wy fs ft : Int32) (h1 : wPrice w t ≤ w 5 q) : CTv l G yX12_sell wsX12_sell 1 22 [.ref (G.2.2 71), .int (nI k), .int (nI t), .int (nI q)] (uPM (uMn M sl cm ba wy fs ft) w) (fun M2 => M2 = uPM (uMn M (sl + 1) (cm + wPrice w t) ba wy fs ft) (wHand (wu (wu w 5 q (w 5 q - wPrice w t)) 5 k (min 9999 (w 5 k + wPrice w t))) t q)) := by
  obtain ⟨d1, -⟩ := hw.2.1 q hq
  obtain ⟨d2, -⟩ := hw.2.1 k hk
  refine ustart_v (cc := cX12_sell) (maxL := 5) (ret := none) (own := RX12) rfl (by decide) rfl (Nat.le_of_ble_eq_true rfl) ?_
  intro xp xe xs xm xa xb xt xc xA ls S hK hA Z hre hlk hl
  have hl : lv_has ls 5 [(0, .ref (G.2.2 71)), (1, .int (nI k)), (2, .int (nI t)), (3, .int (nI q))] := hl
  refine lv_aload_n S.1 S.2.1 dX12_sell_0 rfl (lv_at hl 0 rfl) ?_
  refine lv_iload_n S.1 S.2.1 dX12_sell_1 rfl (lv_at hl 2 rfl) ?_
  refine ud_Vi (As := [.int (nI t)]) (rest := []) S hK hA Z (c_X12_price l G t (by omega) (uPM (uMn M sl cm ba wy fs ft) w) w (uPM_md _ _) hw) (cwV 1 S.2.2.2.2 gX12_sell_X12_price rfl rfl rfl (by decide +kernel) ⟨Nat.le_of_ble_eq_true rfl, Nat.le_of_ble_eq_true rfl⟩) (by decide) rfl rfl rfl hl.1 rfl (Nat.le_of_ble_eq_true rfl) dX12_sell_2 ⟨Nat.zero_le _, Nat.zero_le _⟩ (fun H locs Z => ?_)
  have b8 := wPrice_l2 hw (show t < 12 by omega)
  refine lv_istore (lv' := [(4, .int (nI (wPrice w t))), (0, .ref (G.2.2 71)), (1, .int (nI k)), (2, .int (nI t)), (3, .int (nI q))]) S.1 S.2.1 dX12_sell_5 hl (by decide) rfl (fun ls hl => ?_)
  refine lv_aload_n S.1 S.2.1 dX12_sell_7 rfl (lv_at hl 1 rfl) ?_
  refine ug_r S hK Z (j := 4) 76 (by decide) rfl rfl rfl (by decide) iX12_sell_X12 qX12_sell_22 dX12_sell_8 ?_
  refine lv_iload_n S.1 S.2.1 dX12_sell_11 rfl (lv_at hl 4 rfl) ?_
  refine lv_dup2_11 S.1 S.2.1 dX12_sell_12 rfl rfl ?_
  refine ua_ild S hK Z q (by decide) rfl rfl (by omega) dX12_sell_13 ?_
  refine utop (y := (nI (w 5 q))) (uPM_r (uMn M sl cm ba wy fs ft) w q (j := 5) (by decide)) ?_
  refine lv_iload S.1 S.2.1 dX12_sell_14 (lv_at hl 0 rfl) ?_
  refine lv_isub S.1 S.2.1 dX12_sell_16 ?_
  refine utop (pk_sub (a := (w 5 q)) (b := (wPrice w t)) (by omega)) ?_
  refine ua_ist S hK Z q (by decide) rfl rfl (by omega) dX12_sell_17 (fun H locs Z => ?_)
  have Z := uZ_eq (uPM_sr (uMn M sl cm ba wy fs ft) w q ((w 5 q) - (wPrice w t)) (j := 5) (by decide)) Z
  refine lv_aload_n S.1 S.2.1 dX12_sell_18 rfl (lv_at hl 1 rfl) ?_
  refine ug_r S hK Z (j := 4) 76 (by decide) rfl rfl rfl (by decide) iX12_sell_X12 qX12_sell_22 dX12_sell_19 ?_
  refine lv_iload_n S.1 S.2.1 dX12_sell_22 rfl (lv_at hl 2 rfl) ?_
  refine lv_aload_n S.1 S.2.1 dX12_sell_23 rfl (lv_at hl 1 rfl) ?_
  refine ug_r S hK Z (j := 4) 76 (by decide) rfl rfl rfl (by decide) iX12_sell_X12 qX12_sell_22 dX12_sell_24 ?_
  refine lv_iload_n S.1 S.2.1 dX12_sell_27 rfl (lv_at hl 2 rfl) ?_
  refine ua_ild S hK Z k (by decide) rfl rfl (by omega) dX12_sell_28 ?_
  refine utop (y := (nI ((wu w 5 q ((w 5 q) - (wPrice w t))) 5 k))) (uPM_r (uMn M sl cm ba wy fs ft) (wu w 5 q ((w 5 q) - (wPrice w t))) k (j := 5) (by decide)) ?_
  refine utop (congrArg nI (wu_ne (fun z => hkq z.2))) ?_
  refine lv_iload S.1 S.2.1 dX12_sell_29 (lv_at hl 0 rfl) ?_
  refine lv_iadd S.1 S.2.1 dX12_sell_31 ?_
  refine utop (nI_add (w 5 k) (wPrice w t)) ?_
  refine lv_sipush (v := 9999) S.1 S.2.1 dX12_sell_32 (by decide) ?_
  refine lv_icmp_le (tgt := 44) S.1 S.2.1 dX12_sell_35 (by decide) (fun c_2 => ?_) (fun c_2 => ?_)
  · skip
    have c_2 : ((w 5 k) + (wPrice w t)) ≤ 9999 := (nI_leI (a := ((w 5 k) + (wPrice w t))) (b := 9999) (by omega) (by omega)).mp c_2
    refine lv_aload_n S.1 S.2.1 dX12_sell_44 rfl (lv_at hl 1 rfl) ?_
    refine ug_r S hK Z (j := 4) 76 (by decide) rfl rfl rfl (by decide) iX12_sell_X12 qX12_sell_22 dX12_sell_45 ?_
    refine lv_iload_n S.1 S.2.1 dX12_sell_48 rfl (lv_at hl 2 rfl) ?_
    refine ua_ild S hK Z k (by decide) rfl rfl (by omega) dX12_sell_49 ?_
    refine utop (y := (nI ((wu w 5 q ((w 5 q) - (wPrice w t))) 5 k))) (uPM_r (uMn M sl cm ba wy fs ft) (wu w 5 q ((w 5 q) - (wPrice w t))) k (j := 5) (by decide)) ?_
    refine utop (congrArg nI (wu_ne (fun z => hkq z.2))) ?_
    refine lv_iload S.1 S.2.1 dX12_sell_50 (lv_at hl 0 rfl) ?_
    refine lv_iadd S.1 S.2.1 dX12_sell_52 ?_
    refine utop (nI_add (w 5 k) (wPrice w t)) ?_
    refine ua_ist S hK Z k (by decide) rfl rfl (by omega) dX12_sell_53 (fun H locs Z => ?_)
    have Z := uZ_eq (uPM_sr (uMn M sl cm ba wy fs ft) (wu w 5 q ((w 5 q) - (wPrice w t))) k ((w 5 k) + (wPrice w t)) (j := 5) (by decide)) Z
    refine lv_aload_n S.1 S.2.1 dX12_sell_54 rfl (lv_at hl 1 rfl) ?_
    refine lv_dup S.1 S.2.1 dX12_sell_55 rfl ?_
    refine ug_i S hK Z (j := 18) (by decide) rfl rfl rfl (by decide) iX12_sell_X12 qX12_sell_183 dX12_sell_56 ?_
    refine utop (y := (nI sl)) ((uPM_o (uMn M sl cm ba wy fs ft) (wu (wu w 5 q ((w 5 q) - (wPrice w t))) 5 k ((w 5 k) + (wPrice w t))) (a := 71) (i := 18) (by unfold mO; omega)).trans rfl) ?_
    refine lv_iconst (v := 1) S.1 S.2.1 dX12_sell_59 (by decide) ?_
    refine lv_iadd S.1 S.2.1 dX12_sell_60 ?_
    refine utop (nI_add sl 1) ?_
    refine up_i S hK Z (j := 18) (by decide) rfl rfl rfl (by decide) iX12_sell_X12 tyX12_ok nmX12 qX12_sell_183 rfl rfl rfl dX12_sell_61 (fun H locs Z => ?_)
    have Z := uZ_eq ((uPM_c (uMn M sl cm ba wy fs ft) (wu (wu w 5 q ((w 5 q) - (wPrice w t))) 5 k ((w 5 k) + (wPrice w t))) (a := 71) (i := 18) (nI (sl + 1)) (by unfold mO; omega)).trans (congrArg (fun X => uPM X (wu (wu w 5 q ((w 5 q) - (wPrice w t))) 5 k ((w 5 k) + (wPrice w t)))) (uMn_s18 M sl cm ba wy fs ft (sl + 1)))) Z
    refine lv_aload_n S.1 S.2.1 dX12_sell_64 rfl (lv_at hl 1 rfl) ?_
    refine lv_dup S.1 S.2.1 dX12_sell_65 rfl ?_
    refine ug_i S hK Z (j := 19) (by decide) rfl rfl rfl (by decide) iX12_sell_X12 qX12_sell_186 dX12_sell_66 ?_
    refine utop (y := (nI cm)) ((uPM_o (uMn M (sl + 1) cm ba wy fs ft) (wu (wu w 5 q ((w 5 q) - (wPrice w t))) 5 k ((w 5 k) + (wPrice w t))) (a := 71) (i := 19) (by unfold mO; omega)).trans rfl) ?_
    refine lv_iload S.1 S.2.1 dX12_sell_69 (lv_at hl 0 rfl) ?_
    refine lv_iadd S.1 S.2.1 dX12_sell_71 ?_
    refine utop (nI_add cm (wPrice w t)) ?_
    refine up_i S hK Z (j := 19) (by decide) rfl rfl rfl (by decide) iX12_sell_X12 tyX12_ok nmX12 qX12_sell_186 rfl rfl rfl dX12_sell_72 (fun H locs Z => ?_)
    have Z := uZ_eq ((uPM_c (uMn M (sl + 1) cm ba wy fs ft) (wu (wu w 5 q ((w 5 q) - (wPrice w t))) 5 k ((w 5 k) + (wPrice w t))) (a := 71) (i := 19) (nI (cm + (wPrice w t))) (by unfold mO; omega)).trans (congrArg (fun X => uPM X (wu (wu w 5 q ((w 5 q) - (wPrice w t))) 5 k ((w 5 k) + (wPrice w t)))) (uMn_s19 M (sl + 1) cm ba wy fs ft (cm + (wPrice w t))))) Z
    refine lv_aload_n S.1 S.2.1 dX12_sell_75 rfl (lv_at hl 1 rfl) ?_
    refine lv_iload_n S.1 S.2.1 dX12_sell_76 rfl (lv_at hl 3 rfl) ?_
    refine lv_iload_n S.1 S.2.1 dX12_sell_77 rfl (lv_at hl 4 rfl) ?_
    refine ud_Vv (As := [.int (nI t), .int (nI q)]) (rest := []) S hK hA Z (c_X12_give l G t q (by omega) (by omega) (uMn M (sl + 1) (cm + (wPrice w t)) ba wy fs ft) (wu (wu w 5 q ((w 5 q) - (wPrice w t))) 5 k ((w 5 k) + (wPrice w t)))) (cwV 2 S.2.2.2.2 gX12_sell_X12_give rfl rfl rfl (by decide +kernel) ⟨Nat.le_of_ble_eq_true rfl, Nat.le_of_ble_eq_true rfl⟩) (by decide) rfl rfl rfl hl.1 rfl (Nat.le_of_ble_eq_true rfl) dX12_sell_78 ⟨Nat.zero_le _, Nat.zero_le _⟩ (fun H locs Z => ?_)
    refine uret_v S hK Z hre hlk dX12_sell_81 ?_
    first
      | rw [show min 9999 (w 5 k + wPrice w t) = 9999 from by omega]
      | rw [show min 9999 (w 5 k + wPrice w t) = w 5 k + wPrice w t from by omega]
  · skip
    have c_2 : ¬ ((w 5 k) + (wPrice w t)) ≤ 9999 := fun z9 => c_2 ((nI_leI (a := ((w 5 k) + (wPrice w t))) (b := 9999) (by omega) (by omega)).mpr z9)
    refine lv_sipush (v := 9999) S.1 S.2.1 dX12_sell_38 (by decide) ?_
    refine lv_goto (tgt := 53) S.1 S.2.1 dX12_sell_41 (by decide) ?_
    refine ua_ist S hK Z k (by decide) rfl rfl (by omega) dX12_sell_53 (fun H locs Z => ?_)
    have Z := uZ_eq (uPM_sr (uMn M sl cm ba wy fs ft) (wu w 5 q ((w 5 q) - (wPrice w t))) k 9999 (j := 5) (by decide)) Z
    refine lv_aload_n S.1 S.2.1 dX12_sell_54 rfl (lv_at hl 1 rfl) ?_
    refine lv_dup S.1 S.2.1 dX12_sell_55 rfl ?_
    refine ug_i S hK Z (j := 18) (by decide) rfl rfl rfl (by decide) iX12_sell_X12 qX12_sell_183 dX12_sell_56 ?_
    refine utop (y := (nI sl)) ((uPM_o (uMn M sl cm ba wy fs ft) (wu (wu w 5 q ((w 5 q) - (wPrice w t))) 5 k 9999) (a := 71) (i := 18) (by unfold mO; omega)).trans rfl) ?_
    refine lv_iconst (v := 1) S.1 S.2.1 dX12_sell_59 (by decide) ?_
    refine lv_iadd S.1 S.2.1 dX12_sell_60 ?_
    refine utop (nI_add sl 1) ?_
    refine up_i S hK Z (j := 18) (by decide) rfl rfl rfl (by decide) iX12_sell_X12 tyX12_ok nmX12 qX12_sell_183 rfl rfl rfl dX12_sell_61 (fun H locs Z => ?_)
    have Z := uZ_eq ((uPM_c (uMn M sl cm ba wy fs ft) (wu (wu w 5 q ((w 5 q) - (wPrice w t))) 5 k 9999) (a := 71) (i := 18) (nI (sl + 1)) (by unfold mO; omega)).trans (congrArg (fun X => uPM X (wu (wu w 5 q ((w 5 q) - (wPrice w t))) 5 k 9999)) (uMn_s18 M sl cm ba wy fs ft (sl + 1)))) Z
    refine lv_aload_n S.1 S.2.1 dX12_sell_64 rfl (lv_at hl 1 rfl) ?_
    refine lv_dup S.1 S.2.1 dX12_sell_65 rfl ?_
    refine ug_i S hK Z (j := 19) (by decide) rfl rfl rfl (by decide) iX12_sell_X12 qX12_sell_186 dX12_sell_66 ?_
    refine utop (y := (nI cm)) ((uPM_o (uMn M (sl + 1) cm ba wy fs ft) (wu (wu w 5 q ((w 5 q) - (wPrice w t))) 5 k 9999) (a := 71) (i := 19) (by unfold mO; omega)).trans rfl) ?_
    refine lv_iload S.1 S.2.1 dX12_sell_69 (lv_at hl 0 rfl) ?_
    refine lv_iadd S.1 S.2.1 dX12_sell_71 ?_
    refine utop (nI_add cm (wPrice w t)) ?_
    refine up_i S hK Z (j := 19) (by decide) rfl rfl rfl (by decide) iX12_sell_X12 tyX12_ok nmX12 qX12_sell_186 rfl rfl rfl dX12_sell_72 (fun H locs Z => ?_)
    have Z := uZ_eq ((uPM_c (uMn M (sl + 1) cm ba wy fs ft) (wu (wu w 5 q ((w 5 q) - (wPrice w t))) 5 k 9999) (a := 71) (i := 19) (nI (cm + (wPrice w t))) (by unfold mO; omega)).trans (congrArg (fun X => uPM X (wu (wu w 5 q ((w 5 q) - (wPrice w t))) 5 k 9999)) (uMn_s19 M (sl + 1) cm ba wy fs ft (cm + (wPrice w t))))) Z
    refine lv_aload_n S.1 S.2.1 dX12_sell_75 rfl (lv_at hl 1 rfl) ?_
    refine lv_iload_n S.1 S.2.1 dX12_sell_76 rfl (lv_at hl 3 rfl) ?_
    refine lv_iload_n S.1 S.2.1 dX12_sell_77 rfl (lv_at hl 4 rfl) ?_
    refine ud_Vv (As := [.int (nI t), .int (nI q)]) (rest := []) S hK hA Z (c_X12_give l G t q (by omega) (by omega) (uMn M (sl + 1) (cm + (wPrice w t)) ba wy fs ft) (wu (wu w 5 q ((w 5 q) - (wPrice w t))) 5 k 9999)) (cwV 2 S.2.2.2.2 gX12_sell_X12_give rfl rfl rfl (by decide +kernel) ⟨Nat.le_of_ble_eq_true rfl, Nat.le_of_ble_eq_true rfl⟩) (by decide) rfl rfl rfl hl.1 rfl (Nat.le_of_ble_eq_true rfl) dX12_sell_78 ⟨Nat.zero_le _, Nat.zero_le _⟩ (fun H locs Z => ?_)
    refine uret_v S hK Z hre hlk dX12_sell_81 ?_
    first
      | rw [show min 9999 (w 5 k + wPrice w t) = 9999 from by omega]
      | rw [show min 9999 (w 5 k + wPrice w t) = w 5 k + wPrice w t from by omega]
set_option maxHeartbeats 4000000 in
set_option maxRecDepth 100000 in
theorem c_X12_passNight (l : Launch) (G : uG) (M : uM) (w : Nat → Nat → Nat) (hw : wOk w) : CTv l G yX12_passNight wsX12_passNight 0 0 [.ref (G.2.2 71)] (uPM M w) (fun M2 => M2 = uPM M (wOwn (wu (wu w 0 8 (w 0 8 + 1)) 0 7 255) 12)) := by
  refine ustart_v (cc := cX12_passNight) (maxL := 2) (ret := none) (own := RX12) rfl (by decide) rfl (Nat.le_of_ble_eq_true rfl) ?_
  intro xp xe xs xm xa xb xt xc xA ls S hK hA Z hre hlk hl
  have hl : lv_has ls 2 [(0, .ref (G.2.2 71))] := hl
  refine lv_aload_n S.1 S.2.1 dX12_passNight_0 rfl (lv_at hl 0 rfl) ?_
  refine lv_sipush (v := 255) S.1 S.2.1 dX12_passNight_1 (by decide) ?_
  refine up_i S hK Z (j := 6) (by decide) rfl rfl rfl (by decide) iX12_passNight_X12 tyX12_ok nmX12 qX12_passNight_84 rfl rfl rfl dX12_passNight_4 (fun H locs Z => ?_)
  have Z := uZ_eq (uPM_s0 M w 255 (Or.inl ⟨rfl, rfl, rfl⟩)) Z
  refine lv_iconst (v := 0) S.1 S.2.1 dX12_passNight_7 (by decide) ?_
  refine lv_istore_n (lv' := [(1, .int 0), (0, .ref (G.2.2 71))]) S.1 S.2.1 dX12_passNight_8 rfl hl (by decide) rfl (fun ls hl => ?_)
  have LP9 : ∀ (fU : Nat) (t : Nat) (w1 : Nat → Nat → Nat), (12 < t + fU) → (t ≤ 12) → (w1 = wOwn (wu w 0 7 255) t) → ∀ (H : Heap) (locs : List Loc) (ls : Array Slot), uZ G xA (uPM M w1) xs.heap H locs → lv_has ls 2 [(1, .int (nI t)), (0, .ref (G.2.2 71))] → W xp l xe (uRm 0 0) xs xm xa xb xt xc H locs 0 0 (MQ xb (va_Qv (fun M2 => M2 = uPM M (wOwn (wu (wu w 0 8 (w 0 8 + 1)) 0 7 255) 12)) (fun M' t => uB G M' t) xA) xa xs 0 0 xA) (F0 xm 9 ls []) := by
    intro fU
    induction fU with
    | zero =>
      intro t w1 hfl i1 i2 H locs ls Z hl
      exfalso
      omega
    | succ fU ih9 =>
      intro t w1 hfl i1 i2 H locs ls Z hl
      refine lv_iload_n S.1 S.2.1 dX12_passNight_9 rfl (lv_at hl 0 rfl) ?_
      refine lv_bipush (v := 12) S.1 S.2.1 dX12_passNight_10 (by decide) ?_
      refine lv_icmp_ge (tgt := 47) S.1 S.2.1 dX12_passNight_12 (by decide) (fun c_1 => ?_) (fun c_1 => ?_)
      · skip
        have c_1 : 12 ≤ t := (nI_leI (a := 12) (b := t) (by omega) (by omega)).mp c_1
        obtain rfl : t = 12 := by omega
        refine lv_aload_n S.1 S.2.1 dX12_passNight_47 rfl (lv_at hl 1 rfl) ?_
        refine lv_dup S.1 S.2.1 dX12_passNight_48 rfl ?_
        refine ug_i S hK Z (j := 7) (by decide) rfl rfl rfl (by decide) iX12_passNight_X12 qX12_passNight_180 dX12_passNight_49 ?_
        refine utop (y := (nI (w1 0 8))) (uPM_7 M w1) ?_
        refine lv_iconst (v := 1) S.1 S.2.1 dX12_passNight_52 (by decide) ?_
        refine lv_iadd S.1 S.2.1 dX12_passNight_53 ?_
        refine utop (nI_add (w1 0 8) 1) ?_
        refine up_i S hK Z (j := 7) (by decide) rfl rfl rfl (by decide) iX12_passNight_X12 tyX12_ok nmX12 qX12_passNight_180 rfl rfl rfl dX12_passNight_54 (fun H locs Z => ?_)
        have Z := uZ_eq (uPM_s0 M w1 ((w1 0 8) + 1) (Or.inr (Or.inl ⟨rfl, rfl, rfl⟩))) Z
        refine uret_v S hK Z hre hlk dX12_passNight_57 ?_
        rw [i2, wOwn_nt]
      · skip
        have c_1 : ¬ 12 ≤ t := fun z9 => c_1 ((nI_leI (a := 12) (b := t) (by omega) (by omega)).mpr z9)
        refine lv_aload_n S.1 S.2.1 dX12_passNight_15 rfl (lv_at hl 1 rfl) ?_
        refine ug_r S hK Z (j := 1) 73 (by decide) rfl rfl rfl (by decide) iX12_passNight_X12 qX12_passNight_13 dX12_passNight_16 ?_
        refine lv_iload_n S.1 S.2.1 dX12_passNight_19 rfl (lv_at hl 0 rfl) ?_
        refine lv_aload_n S.1 S.2.1 dX12_passNight_20 rfl (lv_at hl 1 rfl) ?_
        refine ug_r S hK Z (j := 1) 73 (by decide) rfl rfl rfl (by decide) iX12_passNight_X12 qX12_passNight_13 dX12_passNight_21 ?_
        refine lv_iload_n S.1 S.2.1 dX12_passNight_24 rfl (lv_at hl 0 rfl) ?_
        refine ua_ild S hK Z t (by decide) rfl rfl (by omega) dX12_passNight_25 ?_
        refine utop (y := (nI (w1 2 t))) (uPM_r M w1 t (j := 2) (by decide)) ?_
        have b2 : w1 2 t ≤ 9 := by
          rw [i2]
          unfold wOwn wu
          have := (hw.1 t (by omega)).2.1
          split
          · omega
          · simpa using this
        refine lv_iconst (v := 1) S.1 S.2.1 dX12_passNight_26 (by decide) ?_
        refine lv_icmp_ne (tgt := 34) S.1 S.2.1 dX12_passNight_27 (by decide) (fun c_2 => ?_) (fun c_2 => ?_)
        · skip
          have c_2 : ¬ (w1 2 t) = 1 := fun z9 => c_2 ((nI_eq (a := (w1 2 t)) (b := 1) (by omega) (by omega)).mpr z9)
          refine lv_aload_n S.1 S.2.1 dX12_passNight_34 rfl (lv_at hl 1 rfl) ?_
          refine ug_r S hK Z (j := 1) 73 (by decide) rfl rfl rfl (by decide) iX12_passNight_X12 qX12_passNight_13 dX12_passNight_35 ?_
          refine lv_iload_n S.1 S.2.1 dX12_passNight_38 rfl (lv_at hl 0 rfl) ?_
          refine ua_ild S hK Z t (by decide) rfl rfl (by omega) dX12_passNight_39 ?_
          refine utop (y := (nI (w1 2 t))) (uPM_r M w1 t (j := 2) (by decide)) ?_
          refine ua_ist S hK Z t (by decide) rfl rfl (by omega) dX12_passNight_40 (fun H locs Z => ?_)
          have Z := uZ_eq (uPM_sr M w1 t (w1 2 t) (j := 2) (by decide)) Z
          refine lv_iinc (v := (nI (t + 1))) (lv' := [(1, .int (nI (t + 1))), (0, .ref (G.2.2 71))]) S.1 S.2.1 dX12_passNight_41 hl (k := 0) rfl (u_inc1 t) (by decide) rfl (fun ls hl => ?_)
          refine lv_goto (tgt := 9) S.1 S.2.1 dX12_passNight_44 (by decide) ?_
          exact ih9 (t + 1) (wu w1 2 t (w1 2 t)) (by omega) (by omega) (by
              rw [← wOwn_st, ← i2]
              first | rw [if_pos (by assumption)] | rw [if_neg (by assumption)]) _ _ _ Z (lv_sub hl [0, 1] rfl)
        · skip
          have c_2 : (w1 2 t) = 1 := (nI_eq (a := (w1 2 t)) (b := 1) (by omega) (by omega)).mp c_2
          refine lv_iconst (v := 0) S.1 S.2.1 dX12_passNight_30 (by decide) ?_
          refine lv_goto (tgt := 40) S.1 S.2.1 dX12_passNight_31 (by decide) ?_
          refine ua_ist S hK Z t (by decide) rfl rfl (by omega) dX12_passNight_40 (fun H locs Z => ?_)
          have Z := uZ_eq (uPM_sr M w1 t 0 (j := 2) (by decide)) Z
          refine lv_iinc (v := (nI (t + 1))) (lv' := [(1, .int (nI (t + 1))), (0, .ref (G.2.2 71))]) S.1 S.2.1 dX12_passNight_41 hl (k := 0) rfl (u_inc1 t) (by decide) rfl (fun ls hl => ?_)
          refine lv_goto (tgt := 9) S.1 S.2.1 dX12_passNight_44 (by decide) ?_
          exact ih9 (t + 1) (wu w1 2 t 0) (by omega) (by omega) (by
              rw [← wOwn_st, ← i2]
              first | rw [if_pos (by assumption)] | rw [if_neg (by assumption)]) _ _ _ Z (lv_sub hl [0, 1] rfl)
  exact LP9 13 0 (wu w 0 7 255) (by omega) (by omega) (by exact (wOwn_0 _).symm) _ _ _ Z (lv_sub hl [0, 1] rfl)
set_option maxHeartbeats 4000000 in
set_option maxRecDepth 100000 in
theorem c_X12_happen (l : Launch) (G : uG) (kd k t q : Nat) (hkd : kd ≤ 4) (hi : acIn kd k t q) (M : uM) (w : Nat → Nat → Nat) (hw : wOk w) (sl cm : Nat) (ba wy fs ft : Int32) (h0 : (ac w kd k t q).1 = 0) : CTv l G yX12_happen wsX12_happen 2 46 [.ref (G.2.2 71), .int (nI kd), .int (nI k), .int (nI t), .int (nI q)] (uPM (uMn M sl cm ba wy fs ft) w) (fun M2 => M2 = uPM (uMn M (if kd = 1 then sl + 1 else sl) (if kd = 1 then cm + wPrice w t else cm) ba wy fs ft) (ac w kd k t q).2) := by
  refine ustart_v (cc := cX12_happen) (maxL := 5) (ret := none) (own := RX12) rfl (by decide) rfl (Nat.le_of_ble_eq_true rfl) ?_
  intro xp xe xs xm xa xb xt xc xA ls S hK hA Z hre hlk hl
  have hl : lv_has ls 5 [(0, .ref (G.2.2 71)), (1, .int (nI kd)), (2, .int (nI k)), (3, .int (nI t)), (4, .int (nI q))] := hl
  refine lv_iload_n S.1 S.2.1 dX12_happen_0 rfl (lv_at hl 1 rfl) ?_
  by_cases k_1 : (nI kd) = 0
  · skip
    refine utop k_1 ?_
    have k_1 : kd = 0 := (nI_eq (a := kd) (b := 0) (by omega) (by omega)).mp k_1
    refine lv_tableIn (tgt := 32) S.1 S.2.1 dX12_happen_1 (by decide) (by decide) rfl (by decide) ?_
    obtain rfl : kd = 0 := by omega
    obtain ⟨e1, e2⟩ := hi.1 rfl
    have s4 := acTake_0 h0
    refine lv_aload_n S.1 S.2.1 dX12_happen_32 rfl (lv_at hl 0 rfl) ?_
    refine lv_iload_n S.1 S.2.1 dX12_happen_33 rfl (lv_at hl 2 rfl) ?_
    refine lv_iload_n S.1 S.2.1 dX12_happen_34 rfl (lv_at hl 3 rfl) ?_
    refine ud_Vv (As := [.int (nI k), .int (nI t)]) (rest := []) S hK hA Z (c_X12_take l G k t (by omega) (by omega) (uMn M sl cm ba wy fs ft) w hw) (cwV 2 S.2.2.2.2 gX12_happen_X12_take rfl rfl rfl (by decide +kernel) ⟨Nat.le_of_ble_eq_true rfl, Nat.le_of_ble_eq_true rfl⟩) (by decide) rfl rfl rfl hl.1 rfl (Nat.le_of_ble_eq_true rfl) dX12_happen_35 ⟨Nat.zero_le _, Nat.zero_le _⟩ (fun H locs Z => ?_)
    refine lv_goto (tgt := 81) S.1 S.2.1 dX12_happen_38 (by decide) ?_
    refine uret_v S hK Z hre hlk dX12_happen_81 ?_
    first
      | exact rfl
      | exact congrArg (uPM _) s4.symm
  · skip
    have jk_1 : ¬ kd = 0 := fun z9 => k_1 ((nI_eq (a := kd) (b := 0) (by omega) (by omega)).mpr z9)
    by_cases k_3 : (nI kd) = 1
    · skip
      refine utop k_3 ?_
      have k_3 : kd = 1 := (nI_eq (a := kd) (b := 1) (by omega) (by omega)).mp k_3
      refine lv_tableIn (tgt := 41) S.1 S.2.1 dX12_happen_1 (by decide) (by decide) rfl (by decide) ?_
      obtain rfl : kd = 1 := by omega
      obtain ⟨e1, e2, e3⟩ := hi.2.1 (Or.inl rfl)
      obtain ⟨s1, s2, s3, s4⟩ := acSell_0 h0
      refine lv_aload_n S.1 S.2.1 dX12_happen_41 rfl (lv_at hl 0 rfl) ?_
      refine lv_iload_n S.1 S.2.1 dX12_happen_42 rfl (lv_at hl 2 rfl) ?_
      refine lv_iload_n S.1 S.2.1 dX12_happen_43 rfl (lv_at hl 3 rfl) ?_
      refine lv_iload S.1 S.2.1 dX12_happen_44 (lv_at hl 4 rfl) ?_
      refine ud_Vv (As := [.int (nI k), .int (nI t), .int (nI q)]) (rest := []) S hK hA Z (c_X12_sell l G k t q e1 e2 e3 s1 M w hw sl cm ba wy fs ft s3) (cwV 3 S.2.2.2.2 gX12_happen_X12_sell rfl rfl rfl (by decide +kernel) ⟨Nat.le_of_ble_eq_true rfl, Nat.le_of_ble_eq_true rfl⟩) (by decide) rfl rfl rfl hl.1 rfl (Nat.le_of_ble_eq_true rfl) dX12_happen_46 ⟨Nat.zero_le _, Nat.zero_le _⟩ (fun H locs Z => ?_)
      rw [← s4] at Z
      refine lv_goto (tgt := 81) S.1 S.2.1 dX12_happen_49 (by decide) ?_
      refine uret_v S hK Z hre hlk dX12_happen_81 ?_
      first
        | exact rfl
        | exact congrArg (uPM _) s4.symm
    · skip
      have jk_3 : ¬ kd = 1 := fun z9 => k_3 ((nI_eq (a := kd) (b := 1) (by omega) (by omega)).mpr z9)
      by_cases k_5 : (nI kd) = 2
      · skip
        refine utop k_5 ?_
        have k_5 : kd = 2 := (nI_eq (a := kd) (b := 2) (by omega) (by omega)).mp k_5
        refine lv_tableIn (tgt := 52) S.1 S.2.1 dX12_happen_1 (by decide) (by decide) rfl (by decide) ?_
        obtain rfl : kd = 2 := by omega
        obtain ⟨e1, e2, e3⟩ := hi.2.1 (Or.inr rfl)
        have s4 := acGive_0 h0
        refine lv_aload_n S.1 S.2.1 dX12_happen_52 rfl (lv_at hl 0 rfl) ?_
        refine lv_iload_n S.1 S.2.1 dX12_happen_53 rfl (lv_at hl 3 rfl) ?_
        refine lv_iload S.1 S.2.1 dX12_happen_54 (lv_at hl 4 rfl) ?_
        refine ud_Vv (As := [.int (nI t), .int (nI q)]) (rest := []) S hK hA Z (c_X12_give l G t q (by omega) (by omega) (uMn M sl cm ba wy fs ft) w) (cwV 2 S.2.2.2.2 gX12_happen_X12_give rfl rfl rfl (by decide +kernel) ⟨Nat.le_of_ble_eq_true rfl, Nat.le_of_ble_eq_true rfl⟩) (by decide) rfl rfl rfl hl.1 rfl (Nat.le_of_ble_eq_true rfl) dX12_happen_56 ⟨Nat.zero_le _, Nat.zero_le _⟩ (fun H locs Z => ?_)
        refine lv_goto (tgt := 81) S.1 S.2.1 dX12_happen_59 (by decide) ?_
        refine uret_v S hK Z hre hlk dX12_happen_81 ?_
        first
          | exact rfl
          | exact congrArg (uPM _) s4.symm
      · skip
        have jk_5 : ¬ kd = 2 := fun z9 => k_5 ((nI_eq (a := kd) (b := 2) (by omega) (by omega)).mpr z9)
        by_cases k_7 : (nI kd) = 3
        · skip
          refine utop k_7 ?_
          have k_7 : kd = 3 := (nI_eq (a := kd) (b := 3) (by omega) (by omega)).mp k_7
          refine lv_tableIn (tgt := 62) S.1 S.2.1 dX12_happen_1 (by decide) (by decide) rfl (by decide) ?_
          obtain rfl : kd = 3 := by omega
          have e1 := hi.2.2 rfl
          refine lv_aload_n S.1 S.2.1 dX12_happen_62 rfl (lv_at hl 0 rfl) ?_
          refine lv_dup S.1 S.2.1 dX12_happen_63 rfl ?_
          refine ug_i S hK Z (j := 6) (by decide) rfl rfl rfl (by decide) iX12_happen_X12 qX12_happen_84 dX12_happen_64 ?_
          refine utop (y := (nI (w 0 7))) (uPM_6 (uMn M sl cm ba wy fs ft) w) ?_
          refine lv_iconst (v := 1) S.1 S.2.1 dX12_happen_67 (by decide) ?_
          refine lv_iload_n S.1 S.2.1 dX12_happen_68 rfl (lv_at hl 2 rfl) ?_
          refine lv_ishl S.1 S.2.1 dX12_happen_69 ?_
          refine utop (u_shl1 (k := k) (by omega)) ?_
          refine lv_ixor S.1 S.2.1 dX12_happen_70 ?_
          refine utop (nx_xor (w 0 7) (2 ^ k)) ?_
          refine up_i S hK Z (j := 6) (by decide) rfl rfl rfl (by decide) iX12_happen_X12 tyX12_ok nmX12 qX12_happen_84 rfl rfl rfl dX12_happen_71 (fun H locs Z => ?_)
          have Z := uZ_eq (uPM_s0 (uMn M sl cm ba wy fs ft) w ((w 0 7) ^^^ (2 ^ k)) (Or.inl ⟨rfl, rfl, rfl⟩)) Z
          refine lv_goto (tgt := 81) S.1 S.2.1 dX12_happen_74 (by decide) ?_
          refine uret_v S hK Z hre hlk dX12_happen_81 ?_
          first
            | exact rfl
            | exact congrArg (uPM _) s4.symm
        · skip
          have jk_7 : ¬ kd = 3 := fun z9 => k_7 ((nI_eq (a := kd) (b := 3) (by omega) (by omega)).mpr z9)
          have tk_1 := lv_neT k_1 (show (0 : Int32).toInt = 0 from by decide)
          have tk_3 := lv_neT k_3 (show (1 : Int32).toInt = 1 from by decide)
          have tk_5 := lv_neT k_5 (show (2 : Int32).toInt = 2 from by decide)
          have tk_7 := lv_neT k_7 (show (3 : Int32).toInt = 3 from by decide)
          refine lv_tableOut (tgt := 77) S.1 S.2.1 dX12_happen_1 (by omega) (by decide) ?_
          obtain rfl : kd = 4 := by omega
          obtain ⟨s3, s4⟩ := acNight_0 h0
          refine lv_aload_n S.1 S.2.1 dX12_happen_77 rfl (lv_at hl 0 rfl) ?_
          refine ud_Vv (As := []) (rest := []) S hK hA Z (c_X12_passNight l G (uMn M sl cm ba wy fs ft) w hw) (cwV 0 S.2.2.2.2 gX12_happen_X12_passNight rfl rfl rfl (by decide +kernel) ⟨Nat.le_of_ble_eq_true rfl, Nat.le_of_ble_eq_true rfl⟩) (by decide) rfl rfl rfl hl.1 rfl (Nat.le_of_ble_eq_true rfl) dX12_happen_78 ⟨Nat.zero_le _, Nat.zero_le _⟩ (fun H locs Z => ?_)
          refine uret_v S hK Z hre hlk dX12_happen_81 ?_
          first
            | exact rfl
            | exact congrArg (uPM _) s4.symm
set_option maxHeartbeats 4000000 in
set_option maxRecDepth 100000 in
theorem c_X12_manyOf (l : Launch) (G : uG) (k : Nat) (hk : k < 8) (M : uM) (w : Nat → Nat → Nat) (hr : uMd M w) (hw : wOk w) : CTi l G yX12_manyOf wsX12_manyOf 0 0 [.ref (G.2.2 71), .int (nI k)] M (fun r M2 => r = nI (wMany w k 12) ∧ M2 = M) := by
  refine ustart_i (cc := cX12_manyOf) (maxL := 4) (ret := (some .int)) (own := RX12) rfl (by decide) rfl (Nat.le_of_ble_eq_true rfl) ?_
  intro xp xe xs xm xa xb xt xc xA ls S hK hA Z hre hlk hl
  have hl : lv_has ls 4 [(0, .ref (G.2.2 71)), (1, .int (nI k))] := hl
  refine lv_iconst (v := 0) S.1 S.2.1 dX12_manyOf_0 (by decide) ?_
  refine lv_istore_n (lv' := [(2, .int 0), (0, .ref (G.2.2 71)), (1, .int (nI k))]) S.1 S.2.1 dX12_manyOf_1 rfl hl (by decide) rfl (fun ls hl => ?_)
  refine lv_iconst (v := 0) S.1 S.2.1 dX12_manyOf_2 (by decide) ?_
  refine lv_istore_n (lv' := [(3, .int 0), (2, .int 0), (0, .ref (G.2.2 71)), (1, .int (nI k))]) S.1 S.2.1 dX12_manyOf_3 rfl hl (by decide) rfl (fun ls hl => ?_)
  have LP4 : ∀ (fU : Nat) (n : Nat) (t : Nat), (12 < t + fU) → (t ≤ 12) → (n = wMany w k t) → ∀ (H : Heap) (locs : List Loc) (ls : Array Slot), uZ G xA M xs.heap H locs → lv_has ls 4 [(3, .int (nI t)), (2, .int (nI n)), (0, .ref (G.2.2 71)), (1, .int (nI k))] → W xp l xe (uRm 0 0) xs xm xa xb xt xc H locs 0 0 (MQ xb (va_Qi (fun r M2 => r = nI (wMany w k 12) ∧ M2 = M) (fun M' t => uB G M' t) xA) xa xs 0 0 xA) (F0 xm 4 ls []) := by
    intro fU
    induction fU with
    | zero =>
      intro n t hfl i1 i2 H locs ls Z hl
      exfalso
      omega
    | succ fU ih4 =>
      intro n t hfl i1 i2 H locs ls Z hl
      have i3 := wMany_le w k t
      refine lv_iload_n S.1 S.2.1 dX12_manyOf_4 rfl (lv_at hl 0 rfl) ?_
      refine lv_bipush (v := 12) S.1 S.2.1 dX12_manyOf_5 (by decide) ?_
      refine lv_icmp_ge (tgt := 34) S.1 S.2.1 dX12_manyOf_7 (by decide) (fun c_1 => ?_) (fun c_1 => ?_)
      · skip
        have c_1 : 12 ≤ t := (nI_leI (a := 12) (b := t) (by omega) (by omega)).mp c_1
        refine lv_iload_n S.1 S.2.1 dX12_manyOf_34 rfl (lv_at hl 1 rfl) ?_
        refine uret_i S hK Z hre hlk dX12_manyOf_35 ?_
        rw [i2, show t = 12 from by omega]
        exact ⟨rfl, rfl⟩
      · skip
        have c_1 : ¬ 12 ≤ t := fun z9 => c_1 ((nI_leI (a := 12) (b := t) (by omega) (by omega)).mpr z9)
        have i4 := (hw.1 t (by omega)).1
        refine lv_iload_n S.1 S.2.1 dX12_manyOf_10 rfl (lv_at hl 1 rfl) ?_
        refine lv_aload_n S.1 S.2.1 dX12_manyOf_11 rfl (lv_at hl 2 rfl) ?_
        refine ug_r S hK Z (j := 0) 72 (by decide) rfl rfl rfl (by decide) iX12_manyOf_X12 qX12_manyOf_7 dX12_manyOf_12 ?_
        refine lv_iload_n S.1 S.2.1 dX12_manyOf_15 rfl (lv_at hl 0 rfl) ?_
        refine ua_ild S hK Z t (by decide) rfl rfl (by omega) dX12_manyOf_16 ?_
        refine utop (y := (nI (w 1 t))) (uMd_r hr t (j := 1) (by decide)) ?_
        refine lv_iload_n S.1 S.2.1 dX12_manyOf_17 rfl (lv_at hl 3 rfl) ?_
        refine lv_icmp_ne (tgt := 25) S.1 S.2.1 dX12_manyOf_18 (by decide) (fun c_2 => ?_) (fun c_2 => ?_)
        · skip
          have c_2 : ¬ (w 1 t) = k := fun z9 => c_2 ((nI_eq (a := (w 1 t)) (b := k) (by omega) (by omega)).mpr z9)
          refine lv_iconst (v := 0) S.1 S.2.1 dX12_manyOf_25 (by decide) ?_
          refine lv_iadd S.1 S.2.1 dX12_manyOf_26 ?_
          refine utop (nI_add n 0) ?_
          refine lv_istore_n (lv' := [(2, .int (nI (n + 0))), (3, .int (nI t)), (0, .ref (G.2.2 71)), (1, .int (nI k))]) S.1 S.2.1 dX12_manyOf_27 rfl hl (by decide) rfl (fun ls hl => ?_)
          refine lv_iinc (v := (nI (t + 1))) (lv' := [(3, .int (nI (t + 1))), (2, .int (nI (n + 0))), (0, .ref (G.2.2 71)), (1, .int (nI k))]) S.1 S.2.1 dX12_manyOf_28 hl (k := 1) rfl (u_inc1 t) (by decide) rfl (fun ls hl => ?_)
          refine lv_goto (tgt := 4) S.1 S.2.1 dX12_manyOf_31 (by decide) ?_
          exact ih4 (n + 0) (t + 1) (by omega) (by omega) (by rw [wMany]; split <;> omega) _ _ _ Z (lv_sub hl [0, 1, 2, 3] rfl)
        · skip
          have c_2 : (w 1 t) = k := (nI_eq (a := (w 1 t)) (b := k) (by omega) (by omega)).mp c_2
          refine lv_iconst (v := 1) S.1 S.2.1 dX12_manyOf_21 (by decide) ?_
          refine lv_goto (tgt := 26) S.1 S.2.1 dX12_manyOf_22 (by decide) ?_
          refine lv_iadd S.1 S.2.1 dX12_manyOf_26 ?_
          refine utop (nI_add n 1) ?_
          refine lv_istore_n (lv' := [(2, .int (nI (n + 1))), (3, .int (nI t)), (0, .ref (G.2.2 71)), (1, .int (nI k))]) S.1 S.2.1 dX12_manyOf_27 rfl hl (by decide) rfl (fun ls hl => ?_)
          refine lv_iinc (v := (nI (t + 1))) (lv' := [(3, .int (nI (t + 1))), (2, .int (nI (n + 1))), (0, .ref (G.2.2 71)), (1, .int (nI k))]) S.1 S.2.1 dX12_manyOf_28 hl (k := 1) rfl (u_inc1 t) (by decide) rfl (fun ls hl => ?_)
          refine lv_goto (tgt := 4) S.1 S.2.1 dX12_manyOf_31 (by decide) ?_
          exact ih4 (n + 1) (t + 1) (by omega) (by omega) (by rw [wMany]; split <;> omega) _ _ _ Z (lv_sub hl [0, 1, 2, 3] rfl)
  exact LP4 13 0 0 (by omega) (by omega) (by rfl) _ _ _ Z (lv_sub hl [0, 1, 2, 3] rfl)
set_option maxHeartbeats 4000000 in
set_option maxRecDepth 100000 in
theorem c_X12_fitForSale (l : Launch) (G : uG) (M : uM) (w : Nat → Nat → Nat) (hr : uMd M w) (hw : wOk w) : CTi l G yX12_fitForSale wsX12_fitForSale 0 0 [.ref (G.2.2 71)] M (fun r M2 => r = nI (wFit w 12) ∧ M2 = M) := by
  refine ustart_i (cc := cX12_fitForSale) (maxL := 3) (ret := (some .int)) (own := RX12) rfl (by decide) rfl (Nat.le_of_ble_eq_true rfl) ?_
  intro xp xe xs xm xa xb xt xc xA ls S hK hA Z hre hlk hl
  have hl : lv_has ls 3 [(0, .ref (G.2.2 71))] := hl
  refine lv_iconst (v := 0) S.1 S.2.1 dX12_fitForSale_0 (by decide) ?_
  refine lv_istore_n (lv' := [(1, .int 0), (0, .ref (G.2.2 71))]) S.1 S.2.1 dX12_fitForSale_1 rfl hl (by decide) rfl (fun ls hl => ?_)
  refine lv_iconst (v := 0) S.1 S.2.1 dX12_fitForSale_2 (by decide) ?_
  refine lv_istore_n (lv' := [(2, .int 0), (1, .int 0), (0, .ref (G.2.2 71))]) S.1 S.2.1 dX12_fitForSale_3 rfl hl (by decide) rfl (fun ls hl => ?_)
  have LP4 : ∀ (fU : Nat) (n : Nat) (t : Nat), (12 < t + fU) → (t ≤ 12) → (n = wFit w t) → ∀ (H : Heap) (locs : List Loc) (ls : Array Slot), uZ G xA M xs.heap H locs → lv_has ls 3 [(2, .int (nI t)), (1, .int (nI n)), (0, .ref (G.2.2 71))] → W xp l xe (uRm 0 0) xs xm xa xb xt xc H locs 0 0 (MQ xb (va_Qi (fun r M2 => r = nI (wFit w 12) ∧ M2 = M) (fun M' t => uB G M' t) xA) xa xs 0 0 xA) (F0 xm 4 ls []) := by
    intro fU
    induction fU with
    | zero =>
      intro n t hfl i1 i2 H locs ls Z hl
      exfalso
      omega
    | succ fU ih4 =>
      intro n t hfl i1 i2 H locs ls Z hl
      have i3 := wFit_le w t
      refine lv_iload_n S.1 S.2.1 dX12_fitForSale_4 rfl (lv_at hl 0 rfl) ?_
      refine lv_bipush (v := 12) S.1 S.2.1 dX12_fitForSale_5 (by decide) ?_
      refine lv_icmp_ge (tgt := 34) S.1 S.2.1 dX12_fitForSale_7 (by decide) (fun c_1 => ?_) (fun c_1 => ?_)
      · skip
        have c_1 : 12 ≤ t := (nI_leI (a := 12) (b := t) (by omega) (by omega)).mp c_1
        refine lv_iload_n S.1 S.2.1 dX12_fitForSale_34 rfl (lv_at hl 1 rfl) ?_
        refine uret_i S hK Z hre hlk dX12_fitForSale_35 ?_
        rw [i2, show t = 12 from by omega]
        exact ⟨rfl, rfl⟩
      · skip
        have c_1 : ¬ 12 ≤ t := fun z9 => c_1 ((nI_leI (a := 12) (b := t) (by omega) (by omega)).mpr z9)
        have i4 := (hw.1 t (by omega)).2.1
        refine lv_iload_n S.1 S.2.1 dX12_fitForSale_10 rfl (lv_at hl 1 rfl) ?_
        refine lv_aload_n S.1 S.2.1 dX12_fitForSale_11 rfl (lv_at hl 2 rfl) ?_
        refine ug_r S hK Z (j := 1) 73 (by decide) rfl rfl rfl (by decide) iX12_fitForSale_X12 qX12_fitForSale_13 dX12_fitForSale_12 ?_
        refine lv_iload_n S.1 S.2.1 dX12_fitForSale_15 rfl (lv_at hl 0 rfl) ?_
        refine ua_ild S hK Z t (by decide) rfl rfl (by omega) dX12_fitForSale_16 ?_
        refine utop (y := (nI (w 2 t))) (uMd_r hr t (j := 2) (by decide)) ?_
        refine lv_iconst (v := 1) S.1 S.2.1 dX12_fitForSale_17 (by decide) ?_
        refine lv_icmp_le (tgt := 25) S.1 S.2.1 dX12_fitForSale_18 (by decide) (fun c_2 => ?_) (fun c_2 => ?_)
        · skip
          have c_2 : (w 2 t) ≤ 1 := (nI_leI (a := (w 2 t)) (b := 1) (by omega) (by omega)).mp c_2
          refine lv_iconst (v := 0) S.1 S.2.1 dX12_fitForSale_25 (by decide) ?_
          refine lv_iadd S.1 S.2.1 dX12_fitForSale_26 ?_
          refine utop (nI_add n 0) ?_
          refine lv_istore_n (lv' := [(1, .int (nI (n + 0))), (2, .int (nI t)), (0, .ref (G.2.2 71))]) S.1 S.2.1 dX12_fitForSale_27 rfl hl (by decide) rfl (fun ls hl => ?_)
          refine lv_iinc (v := (nI (t + 1))) (lv' := [(2, .int (nI (t + 1))), (1, .int (nI (n + 0))), (0, .ref (G.2.2 71))]) S.1 S.2.1 dX12_fitForSale_28 hl (k := 1) rfl (u_inc1 t) (by decide) rfl (fun ls hl => ?_)
          refine lv_goto (tgt := 4) S.1 S.2.1 dX12_fitForSale_31 (by decide) ?_
          exact ih4 (n + 0) (t + 1) (by omega) (by omega) (by rw [wFit]; split <;> omega) _ _ _ Z (lv_sub hl [0, 1, 2] rfl)
        · skip
          have c_2 : ¬ (w 2 t) ≤ 1 := fun z9 => c_2 ((nI_leI (a := (w 2 t)) (b := 1) (by omega) (by omega)).mpr z9)
          refine lv_iconst (v := 1) S.1 S.2.1 dX12_fitForSale_21 (by decide) ?_
          refine lv_goto (tgt := 26) S.1 S.2.1 dX12_fitForSale_22 (by decide) ?_
          refine lv_iadd S.1 S.2.1 dX12_fitForSale_26 ?_
          refine utop (nI_add n 1) ?_
          refine lv_istore_n (lv' := [(1, .int (nI (n + 1))), (2, .int (nI t)), (0, .ref (G.2.2 71))]) S.1 S.2.1 dX12_fitForSale_27 rfl hl (by decide) rfl (fun ls hl => ?_)
          refine lv_iinc (v := (nI (t + 1))) (lv' := [(2, .int (nI (t + 1))), (1, .int (nI (n + 1))), (0, .ref (G.2.2 71))]) S.1 S.2.1 dX12_fitForSale_28 hl (k := 1) rfl (u_inc1 t) (by decide) rfl (fun ls hl => ?_)
          refine lv_goto (tgt := 4) S.1 S.2.1 dX12_fitForSale_31 (by decide) ?_
          exact ih4 (n + 1) (t + 1) (by omega) (by omega) (by rw [wFit]; split <;> omega) _ _ _ Z (lv_sub hl [0, 1, 2] rfl)
  exact LP4 13 0 0 (by omega) (by omega) (by rfl) _ _ _ Z (lv_sub hl [0, 1, 2] rfl)
