theorem uRd_Ar {M : uM} {w : Nat → Nat → Nat} {b k : Nat} {f : Nat → Nat} (h : uRd M b w) (hk : k < b ∨ b + 10 ≤ k) : uRd (uAr M k f) b w := fun j hj i => (uAr_o _ _ _ _ (by omega)).trans (h j hj i)
theorem hOk_iff {w : Nat → Nat → Nat} (hw : wOk w) {pl pl' : Nat → Nat} (h : ∀ x, x < 5 → pl x = pl' x) : hOk w pl ↔ hOk w pl' := by
  have h72 := hw.2.2.2.2.1
  constructor
  · intro q i hi
    obtain ⟨-, -, b1, b2⟩ := hw.2.1 i (by omega)
    rw [← h _ b1, ← h _ b2]
    exact q i hi
  · intro q i hi
    obtain ⟨-, -, b1, b2⟩ := hw.2.1 i (by omega)
    rw [h _ b1, h _ b2]
    exact q i hi
/-! whom to ask about -/
def qL (w : Nat → Nat → Nat) (a b : Nat) : Nat := max (hPr w a b 120) (hCnt w 120 - hPr w a b 120)
theorem qL_le (w : Nat → Nat → Nat) (a b : Nat) : qL w a b ≤ 120 := by
  have h1 := hPr_le w a b 120
  have h2 := hCnt_le w 120
  unfold qL
  omega
def qU (o : Option (Nat × Nat)) (a b n : Nat) : Option (Nat × Nat) := match o with
  | none => some (10 * a + b, n)
  | some x => if n < x.2 then some (10 * a + b, n) else some x
def qB (w : Nat → Nat → Nat) (a : Nat) (o : Option (Nat × Nat)) : Nat → Option (Nat × Nat)
  | 0 => o
  | n + 1 => qU (qB w a o n) a (a + 1 + n) (qL w a (a + 1 + n))
def qA (w : Nat → Nat → Nat) : Nat → Option (Nat × Nat)
  | 0 => none
  | a + 1 => qB w a (qA w a) (4 - a)
def qE (o : Option (Nat × Nat)) : Nat × Nat := o.getD (4294967290, 4294967290)
/-- what is asked so far: nothing, or a small number -/
def qS (o : Option (Nat × Nat)) : Prop := match o with
  | none => True
  | some x => x.1 < 100 ∧ x.2 ≤ 120
theorem qU_S {o : Option (Nat × Nat)} {a b n : Nat} (h : qS o) (ha : a < 5) (hb : b < 5) (hn : n ≤ 120) : qS (qU o a b n) := by
  unfold qU
  split
  · exact ⟨by show 10 * a + b < 100; omega, hn⟩
  · split
    · exact ⟨by show 10 * a + b < 100; omega, hn⟩
    · exact h
theorem qU_1 {o : Option (Nat × Nat)} {a b n : Nat} (h : nI (qE o).1 = -6 ∨ n < (qE o).2) (hs : qS o) : qE (qU o a b n) = (10 * a + b, n) := by
  cases o with
  | none => rfl
  | some x =>
    have hx : n < x.2 := by
      rcases h with h | h
      · exact absurd h (nI_nm6 (show x.1 < 2 ^ 31 by have := hs.1; omega))
      · exact h
    show qE (if n < x.2 then some (10 * a + b, n) else some x) = _
    rw [if_pos hx]
    rfl
theorem qU_2 {o : Option (Nat × Nat)} {a b n : Nat} (h1 : ¬ nI (qE o).1 = -6) (h2 : ¬ n < (qE o).2) : qE (qU o a b n) = qE o := by
  cases o with
  | none => exact absurd n6 h1
  | some x =>
    show qE (if n < x.2 then some (10 * a + b, n) else some x) = _
    rw [if_neg (show ¬ n < x.2 from h2)]
theorem qE_le {o : Option (Nat × Nat)} (h1 : ¬ nI (qE o).1 = -6) (hs : qS o) : (qE o).2 ≤ 120 := by
  cases o with
  | none => exact absurd n6 h1
  | some x => exact hs.2
theorem qX2_fittingRow_11 : Cond.fieldLink RX2 11 (TX2 0).1 (TX2 0).2.1 (TX2 0).2.2.1 ∈ wsX2_fittingRow := List.mem_of_getElem? (i := 1) rfl
theorem iX2_fittingRow_X2 : ∀ w ∈ wsX20, w ∈ wsX2_fittingRow := fun _ h => List.mem_cons_of_mem _ (List.mem_append_left _ (List.mem_append_right _ h))
theorem qX2_fittingRow_24 : Cond.fieldLink RX2 24 (TX2 2).1 (TX2 2).2.1 (TX2 2).2.2.1 ∈ wsX2_fittingRow := List.mem_of_getElem? (i := 2) rfl
theorem qX2_countPairsOfRow_11 : Cond.fieldLink RX2 11 (TX2 0).1 (TX2 0).2.1 (TX2 0).2.2.1 ∈ wsX2_countPairsOfRow := List.mem_of_getElem? (i := 1) rfl
theorem iX2_countPairsOfRow_X2 : ∀ w ∈ wsX20, w ∈ wsX2_countPairsOfRow := fun _ h => List.mem_cons_of_mem _ (List.mem_append_right _ h)
theorem qX2_countPairsOfRow_15 : Cond.fieldLink RX2 15 (TX2 1).1 (TX2 1).2.1 (TX2 1).2.2.1 ∈ wsX2_countPairsOfRow := List.mem_of_getElem? (i := 2) rfl
theorem qX2_countPairs_15 : Cond.fieldLink RX2 15 (TX2 1).1 (TX2 1).2.1 (TX2 1).2.2.1 ∈ wsX2_countPairs := List.mem_of_getElem? (i := 1) rfl
theorem iX2_countPairs_X2 : ∀ w ∈ wsX20, w ∈ wsX2_countPairs := fun _ h => List.mem_cons_of_mem _ (List.mem_append_left _ (List.mem_append_right _ h))
theorem qX2_countPairs_66 : Cond.fieldLink RX2 66 (TX2 3).1 (TX2 3).2.1 (TX2 3).2.2.1 ∈ wsX2_countPairs := List.mem_of_getElem? (i := 2) rfl
theorem qX2_countPairs_11 : Cond.fieldLink RX2 11 (TX2 0).1 (TX2 0).2.1 (TX2 0).2.2.1 ∈ wsX2_countPairs := List.mem_of_getElem? (i := 3) rfl
theorem qX2_chooseQuestion_60 : Cond.fieldLink RX2 60 (TX2 4).1 (TX2 4).2.1 (TX2 4).2.2.1 ∈ wsX2_chooseQuestion := List.mem_of_getElem? (i := 1) rfl
theorem iX2_chooseQuestion_X2 : ∀ w ∈ wsX20, w ∈ wsX2_chooseQuestion := fun _ h => List.mem_cons_of_mem _ (List.mem_append_left _ (List.mem_append_right _ h))
theorem qX2_chooseQuestion_63 : Cond.fieldLink RX2 63 (TX2 5).1 (TX2 5).2.1 (TX2 5).2.2.1 ∈ wsX2_chooseQuestion := List.mem_of_getElem? (i := 2) rfl
theorem qX2_chooseQuestion_66 : Cond.fieldLink RX2 66 (TX2 3).1 (TX2 3).2.1 (TX2 3).2.2.1 ∈ wsX2_chooseQuestion := List.mem_of_getElem? (i := 3) rfl
theorem qX2_chooseQuestion_15 : Cond.fieldLink RX2 15 (TX2 1).1 (TX2 1).2.1 (TX2 1).2.2.1 ∈ wsX2_chooseQuestion := List.mem_of_getElem? (i := 4) rfl
theorem qX2_chooseQuestion_28 : Cond.methodLink RX2 28 Lib.Math.max.name ∈ wsX2_chooseQuestion := List.mem_of_getElem? (i := 5) rfl
theorem qX2_chooseQuestion_w6 : Cond.static Lib.Math.max.name ∈ wsX2_chooseQuestion := List.mem_of_getElem? (i := 6) rfl
theorem qX2_chooseQuestion_w7 : Cond.initialized "java/lang/Math" ∈ wsX2_chooseQuestion := List.mem_of_getElem? (i := 7) rfl
theorem qX2_chooseQuestion_w8 : Cond.code Lib.Math.max.name Lib.Math.max.code 2 (some .int) ∈ wsX2_chooseQuestion := List.mem_of_getElem? (i := 8) rfl
set_option maxHeartbeats 4000000 in
set_option maxRecDepth 100000 in
theorem c_X2_fittingRow (l : Launch) (G : uG) (x : Int32) (M : uM) (w : Nat → Nat → Nat) (rf pl : Nat → Nat) (hr : uRd M 1 w) (hw : wOk w) : CTi l G yX2_fittingRow wsX2_fittingRow 3 69 [.ref (G.2.2 43), .ref (G.2.2 8), .int x] (uAr (uAr M 43 rf) 44 pl) (fun r M2 => ((∃ k, k < 120 ∧ hOk w (lPl k) ∧ x = nI (hCnt w k) ∧ r = nI (lRow k)) ∨ ((∀ k, k < 120 → hOk w (lPl k) → ¬ x = nI (hCnt w k)) ∧ r = if x = -1 then nI (hCnt w 120) else -6)) ∧ uSm 43 46 M M2) := by
  refine ustart_i (cc := cX2_fittingRow) (maxL := 5) (ret := (some .int)) (own := RX2) rfl (by decide) rfl (Nat.le_of_ble_eq_true rfl) ?_
  intro xp xe xs xm xa xb xt xc xA ls S hK hA Z hre hlk hl
  have hl : lv_has ls 5 [(0, .ref (G.2.2 43)), (1, .ref (G.2.2 8)), (2, .int x)] := hl
  refine lv_iconst (v := 0) S.1 S.2.1 dX2_fittingRow_0 (by decide) ?_
  refine lv_istore_n (lv' := [(3, .int 0), (0, .ref (G.2.2 43)), (1, .ref (G.2.2 8)), (2, .int x)]) S.1 S.2.1 dX2_fittingRow_1 rfl hl (by decide) rfl (fun ls hl => ?_)
  refine lv_iconst (v := 0) S.1 S.2.1 dX2_fittingRow_2 (by decide) ?_
  refine lv_istore (lv' := [(4, .int 0), (3, .int 0), (0, .ref (G.2.2 43)), (1, .ref (G.2.2 8)), (2, .int x)]) S.1 S.2.1 dX2_fittingRow_3 hl (by decide) rfl (fun ls hl => ?_)
  have LP5 : ∀ (fU : Nat) (fo : Nat) (k : Nat) (rf1 : Nat → Nat) (pl1 : Nat → Nat), (120 < k + fU) → (k ≤ 120) → (fo = hCnt w k) → (∀ j, j < k → hOk w (lPl j) → ¬ x = nI (hCnt w j)) → ∀ (H : Heap) (locs : List Loc) (ls : Array Slot), uZ G xA (uAr (uAr M 43 rf1) 44 pl1) xs.heap H locs → lv_has ls 5 [(4, .int (nI k)), (3, .int (nI fo)), (0, .ref (G.2.2 43)), (1, .ref (G.2.2 8)), (2, .int x)] → W xp l xe (uRm 3 69) xs xm xa xb xt xc H locs 0 0 (MQ xb (va_Qi (fun r M2 => ((∃ k, k < 120 ∧ hOk w (lPl k) ∧ x = nI (hCnt w k) ∧ r = nI (lRow k)) ∨ ((∀ k, k < 120 → hOk w (lPl k) → ¬ x = nI (hCnt w k)) ∧ r = if x = -1 then nI (hCnt w 120) else -6)) ∧ uSm 43 46 M M2) (fun M' t => uB G M' t) xA) xa xs 0 0 xA) (F0 xm 5 ls []) := by
    intro fU
    induction fU with
    | zero =>
      intro fo k rf1 pl1 hfl i1 i2 i3 H locs ls Z hl
      exfalso
      omega
    | succ fU ih5 =>
      intro fo k rf1 pl1 hfl i1 i2 i3 H locs ls Z hl
      have i4 := hCnt_le w k
      refine lv_iload S.1 S.2.1 dX2_fittingRow_5 (lv_at hl 0 rfl) ?_
      refine lv_bipush (v := 120) S.1 S.2.1 dX2_fittingRow_7 (by decide) ?_
      refine lv_icmp_ge (tgt := 48) S.1 S.2.1 dX2_fittingRow_9 (by decide) (fun c_1 => ?_) (fun c_1 => ?_)
      · skip
        have c_1 : 120 ≤ k := (nI_leI (a := 120) (b := k) (by omega) (by omega)).mp c_1
        refine lv_iload_n S.1 S.2.1 dX2_fittingRow_48 rfl (lv_at hl 4 rfl) ?_
        refine lv_iconst (v := (-1)) S.1 S.2.1 dX2_fittingRow_49 (by decide) ?_
        refine lv_icmp_ne (tgt := 57) S.1 S.2.1 dX2_fittingRow_50 (by decide) (fun c_2 => ?_) (fun c_2 => ?_)
        · skip
          refine lv_bipush (v := (-6)) S.1 S.2.1 dX2_fittingRow_57 (by decide) ?_
          refine uret_i S hK Z hre hlk dX2_fittingRow_59 ?_
          obtain rfl : k = 120 := by omega
          refine ⟨Or.inr ⟨i3, ?_⟩, uSm_r (uSm_r (uSm_rf 43 46 M) (by decide) (by decide)) (by decide) (by decide)⟩
          rw [if_neg (by assumption)]
        · skip
          refine lv_iload_n S.1 S.2.1 dX2_fittingRow_53 rfl (lv_at hl 1 rfl) ?_
          refine lv_goto (tgt := 59) S.1 S.2.1 dX2_fittingRow_54 (by decide) ?_
          refine uret_i S hK Z hre hlk dX2_fittingRow_59 ?_
          obtain rfl : k = 120 := by omega
          refine ⟨Or.inr ⟨i3, ?_⟩, uSm_r (uSm_r (uSm_rf 43 46 M) (by decide) (by decide)) (by decide) (by decide)⟩
          rw [if_pos (by assumption)]
          rw [i2]
      · skip
        have c_1 : ¬ 120 ≤ k := fun z9 => c_1 ((nI_leI (a := 120) (b := k) (by omega) (by omega)).mpr z9)
        refine lv_aload_n S.1 S.2.1 dX2_fittingRow_12 rfl (lv_at hl 2 rfl) ?_
        refine lv_iload S.1 S.2.1 dX2_fittingRow_13 (lv_at hl 0 rfl) ?_
        refine uc_Vv (As := [.int (nI k)]) (rest := []) S hK hA Z (c_X2_layOut l G k (by omega) M rf1 pl1) (cwV 1 S.2.2.2.2 gX2_fittingRow_X2_layOut rfl rfl rfl (by decide +kernel) ⟨Nat.le_of_ble_eq_true rfl, Nat.le_of_ble_eq_true rfl⟩) (by decide) rfl rfl rfl hl.1 rfl (Nat.le_of_ble_eq_true rfl) dX2_fittingRow_15 ⟨Nat.zero_le _, Nat.zero_le _⟩ (fun M_3 H locs hp Z => ?_)
        obtain ⟨rf2, pl2, hM, hl2, hl3, hl4⟩ := hp
        rw [hM] at Z
        have hp5 : ∀ h, h < 5 → pl2 h < 5 := fun h hh => by rw [hl3 h hh]; exact lPl_lt k (by omega) h hh
        refine lv_aload_n S.1 S.2.1 dX2_fittingRow_18 rfl (lv_at hl 3 rfl) ?_
        refine lv_aload_n S.1 S.2.1 dX2_fittingRow_19 rfl (lv_at hl 2 rfl) ?_
        refine ug_r S hK Z (j := 0) 44 (by decide) rfl rfl rfl (by decide) iX2_fittingRow_X2 qX2_fittingRow_11 dX2_fittingRow_20 ?_
        refine uc_Vi (As := [.ref (G.2.2 44)]) (rest := []) S hK hA Z (c_X8_hold l G (uAr (uAr M 43 rf2) 44 pl2) w pl2 (uRd_Ar (uRd_Ar hr (Or.inr (by decide))) (Or.inr (by decide))) hw (fun x => uAr_g _ _ _ x) hp5) (cwV 1 S.2.2.2.2 gX2_fittingRow_X8_hold rfl rfl rfl (by decide +kernel) ⟨Nat.le_of_ble_eq_true rfl, Nat.le_of_ble_eq_true rfl⟩) (by decide) rfl rfl rfl hl.1 rfl (Nat.le_of_ble_eq_true rfl) dX2_fittingRow_23 ⟨Nat.zero_le _, Nat.zero_le _⟩ (fun r_4 M_4 H locs hp Z => ?_)
        obtain ⟨⟨rfl, w_4⟩ | ⟨rfl, w_4⟩, hM_4⟩ := hp
        · skip
          rw [hM_4] at Z
          have hh : hOk w (lPl k) := (hOk_iff hw hl3).mp w_4
          refine lv_if_eq (tgt := 42) S.1 S.2.1 dX2_fittingRow_26 (by decide) (fun c => absurd c (by decide)) (fun _ => ?_)
          refine lv_iload_n S.1 S.2.1 dX2_fittingRow_29 rfl (lv_at hl 1 rfl) ?_
          refine lv_iload_n S.1 S.2.1 dX2_fittingRow_30 rfl (lv_at hl 4 rfl) ?_
          refine lv_icmp_ne (tgt := 39) S.1 S.2.1 dX2_fittingRow_31 (by decide) (fun c_6 => ?_) (fun c_6 => ?_)
          · skip
            refine lv_iinc (v := (nI (fo + 1))) (lv' := [(3, .int (nI (fo + 1))), (4, .int (nI k)), (0, .ref (G.2.2 43)), (1, .ref (G.2.2 8)), (2, .int x)]) S.1 S.2.1 dX2_fittingRow_39 hl (k := 1) rfl (u_inc1 fo) (by decide) rfl (fun ls hl => ?_)
            refine lv_iinc (v := (nI (k + 1))) (lv' := [(4, .int (nI (k + 1))), (3, .int (nI (fo + 1))), (0, .ref (G.2.2 43)), (1, .ref (G.2.2 8)), (2, .int x)]) S.1 S.2.1 dX2_fittingRow_42 hl (k := 1) rfl (u_inc1 k) (by decide) rfl (fun ls hl => ?_)
            refine lv_goto (tgt := 5) S.1 S.2.1 dX2_fittingRow_45 (by decide) ?_
            exact ih5 (fo + 1) (k + 1) rf2 pl2 (by omega) (by omega) (by
                rw [hCnt, ← i2]
                first | rw [if_pos hh] | rw [if_neg hh]) (by
                intro j hj hy
                by_cases z : j = k
                · subst z
                  first
                    | exact absurd hy hh
                    | (rw [← i2]
                       intro y
                       exact absurd y.symm (by assumption))
                · exact i3 j (by omega) hy) _ _ _ Z (lv_sub hl [0, 1, 2, 3, 4] rfl)
          · skip
            refine lv_aload_n S.1 S.2.1 dX2_fittingRow_34 rfl (lv_at hl 2 rfl) ?_
            refine ug_i S hK Z (j := 2) (by decide) rfl rfl rfl (by decide) iX2_fittingRow_X2 qX2_fittingRow_24 dX2_fittingRow_35 ?_
            refine utop (y := (nI (rf2 2))) ((uAr_o (uAr M 43 rf2) 44 pl2 2 (a := 43) (by decide)).trans (uAr_g M 43 rf2 2)) ?_
            refine uret_i S hK Z hre hlk dX2_fittingRow_38 ?_
            rw [hl2]
            exact ⟨Or.inl ⟨k, by omega, hh, by rw [← i2]; exact (by assumption : nI fo = x).symm, rfl⟩, uSm_r (uSm_r (uSm_rf 43 46 M) (by decide) (by decide)) (by decide) (by decide)⟩
        · skip
          rw [hM_4] at Z
          have hh : ¬ hOk w (lPl k) := fun q => w_4 ((hOk_iff hw hl3).mpr q)
          refine lv_if_eq (tgt := 42) S.1 S.2.1 dX2_fittingRow_26 (by decide) (fun _ => ?_) (fun c => absurd c (by decide))
          refine lv_iinc (v := (nI (k + 1))) (lv' := [(4, .int (nI (k + 1))), (3, .int (nI fo)), (0, .ref (G.2.2 43)), (1, .ref (G.2.2 8)), (2, .int x)]) S.1 S.2.1 dX2_fittingRow_42 hl (k := 0) rfl (u_inc1 k) (by decide) rfl (fun ls hl => ?_)
          refine lv_goto (tgt := 5) S.1 S.2.1 dX2_fittingRow_45 (by decide) ?_
          exact ih5 fo (k + 1) rf2 pl2 (by omega) (by omega) (by
              rw [hCnt, ← i2]
              first | rw [if_pos hh] | rw [if_neg hh]) (by
              intro j hj hy
              by_cases z : j = k
              · subst z
                first
                  | exact absurd hy hh
                  | (rw [← i2]
                     intro y
                     exact absurd y.symm (by assumption))
              · exact i3 j (by omega) hy) _ _ _ Z (lv_sub hl [0, 1, 2, 3, 4] rfl)
  exact LP5 121 0 0 rf pl (by omega) (by omega) (by rfl) (by intro j hj; omega) _ _ _ Z (lv_sub hl [0, 1, 2, 3, 4] rfl)
set_option maxHeartbeats 4000000 in
set_option maxRecDepth 100000 in
theorem c_X2_countPairsOfRow (l : Launch) (G : uG) (M : uM) (rf pl tm : Nat → Nat) (hp5 : ∀ h, h < 5 → pl h < 5) : CTv l G yX2_countPairsOfRow wsX2_countPairsOfRow 1 22 [.ref (G.2.2 43)] (uAr (uAr (uAr M 45 tm) 43 rf) 44 pl) (fun M2 => ∃ tm2, M2 = uAr (uAr (uAr M 45 tm2) 43 rf) 44 pl ∧ ∀ a b, a < b → b < 5 → tm2 (a * 5 + b) = tm (a * 5 + b) + (if pl a < pl b then 1 else 0)) := by
  refine ustart_v (cc := cX2_countPairsOfRow) (maxL := 4) (ret := none) (own := RX2) rfl (by decide) rfl (Nat.le_of_ble_eq_true rfl) ?_
  intro xp xe xs xm xa xb xt xc xA ls S hK hA Z hre hlk hl
  have hl : lv_has ls 4 [(0, .ref (G.2.2 43))] := hl
  refine lv_iconst (v := 0) S.1 S.2.1 dX2_countPairsOfRow_0 (by decide) ?_
  refine lv_istore_n (lv' := [(1, .int 0), (0, .ref (G.2.2 43))]) S.1 S.2.1 dX2_countPairsOfRow_1 rfl hl (by decide) rfl (fun ls hl => ?_)
  have LP2 : ∀ (fU : Nat) (a : Nat) (t1 : Nat → Nat), (5 < a + fU) → (a ≤ 5) → (∀ a1 b1, a1 < b1 → b1 < 5 → t1 (a1 * 5 + b1) = tm (a1 * 5 + b1) + (if (a1 < a) ∧ pl a1 < pl b1 then 1 else 0)) → ∀ (H : Heap) (locs : List Loc) (ls : Array Slot), uZ G xA (uAr (uAr (uAr M 45 t1) 43 rf) 44 pl) xs.heap H locs → lv_has ls 4 [(1, .int (nI a)), (0, .ref (G.2.2 43))] → W xp l xe (uRm 1 22) xs xm xa xb xt xc H locs 0 0 (MQ xb (va_Qv (fun M2 => ∃ tm2, M2 = uAr (uAr (uAr M 45 tm2) 43 rf) 44 pl ∧ ∀ a b, a < b → b < 5 → tm2 (a * 5 + b) = tm (a * 5 + b) + (if pl a < pl b then 1 else 0)) (fun M' t => uB G M' t) xA) xa xs 0 0 xA) (F0 xm 2 ls []) := by
    intro fU
    induction fU with
    | zero =>
      intro a t1 hfl i1 i2 H locs ls Z hl
      exfalso
      omega
    | succ fU ih2 =>
      intro a t1 hfl i1 i2 H locs ls Z hl
      refine lv_iload_n S.1 S.2.1 dX2_countPairsOfRow_2 rfl (lv_at hl 0 rfl) ?_
      refine lv_iconst (v := 5) S.1 S.2.1 dX2_countPairsOfRow_3 (by decide) ?_
      refine lv_icmp_ge (tgt := 71) S.1 S.2.1 dX2_countPairsOfRow_4 (by decide) (fun c_1 => ?_) (fun c_1 => ?_)
      · skip
        have c_1 : 5 ≤ a := (nI_leI (a := 5) (b := a) (by omega) (by omega)).mp c_1
        refine uret_v S hK Z hre hlk dX2_countPairsOfRow_71 ?_
        refine ⟨t1, rfl, fun a1 b1 h1 h2 => ?_⟩
        rw [i2 a1 b1 h1 h2]
        by_cases y : pl a1 < pl b1
        · rw [if_pos y, if_pos (by omega)]
        · rw [if_neg y, if_neg (by omega)]
      · skip
        have c_1 : ¬ 5 ≤ a := fun z9 => c_1 ((nI_leI (a := 5) (b := a) (by omega) (by omega)).mpr z9)
        refine lv_iload_n S.1 S.2.1 dX2_countPairsOfRow_7 rfl (lv_at hl 0 rfl) ?_
        refine lv_iconst (v := 1) S.1 S.2.1 dX2_countPairsOfRow_8 (by decide) ?_
        refine lv_iadd S.1 S.2.1 dX2_countPairsOfRow_9 ?_
        refine utop (nI_add a 1) ?_
        refine lv_istore_n (lv' := [(2, .int (nI (a + 1))), (1, .int (nI a)), (0, .ref (G.2.2 43))]) S.1 S.2.1 dX2_countPairsOfRow_10 rfl hl (by decide) rfl (fun ls hl => ?_)
        have LP11 : ∀ (fU : Nat) (b : Nat) (t2 : Nat → Nat), (5 < b + fU) → (a < b ∧ b ≤ 5) → (∀ a1 b1, a1 < b1 → b1 < 5 → t2 (a1 * 5 + b1) = tm (a1 * 5 + b1) + (if (a1 < a ∨ (a1 = a ∧ b1 < b)) ∧ pl a1 < pl b1 then 1 else 0)) → ∀ (H : Heap) (locs : List Loc) (ls : Array Slot), uZ G xA (uAr (uAr (uAr M 45 t2) 43 rf) 44 pl) xs.heap H locs → lv_has ls 4 [(2, .int (nI b)), (1, .int (nI a)), (0, .ref (G.2.2 43))] → W xp l xe (uRm 1 22) xs xm xa xb xt xc H locs 0 0 (MQ xb (va_Qv (fun M2 => ∃ tm2, M2 = uAr (uAr (uAr M 45 tm2) 43 rf) 44 pl ∧ ∀ a b, a < b → b < 5 → tm2 (a * 5 + b) = tm (a * 5 + b) + (if pl a < pl b then 1 else 0)) (fun M' t => uB G M' t) xA) xa xs 0 0 xA) (F0 xm 11 ls []) := by
          intro fU
          induction fU with
          | zero =>
            intro b t2 hfl i3 i4 H locs ls Z hl
            exfalso
            omega
          | succ fU ih11 =>
            intro b t2 hfl i3 i4 H locs ls Z hl
            refine lv_iload_n S.1 S.2.1 dX2_countPairsOfRow_11 rfl (lv_at hl 0 rfl) ?_
            refine lv_iconst (v := 5) S.1 S.2.1 dX2_countPairsOfRow_12 (by decide) ?_
            refine lv_icmp_ge (tgt := 65) S.1 S.2.1 dX2_countPairsOfRow_13 (by decide) (fun c_2 => ?_) (fun c_2 => ?_)
            · skip
              have c_2 : 5 ≤ b := (nI_leI (a := 5) (b := b) (by omega) (by omega)).mp c_2
              refine lv_iinc (v := (nI (a + 1))) (lv' := [(1, .int (nI (a + 1))), (2, .int (nI b)), (0, .ref (G.2.2 43))]) S.1 S.2.1 dX2_countPairsOfRow_65 hl (k := 1) rfl (u_inc1 a) (by decide) rfl (fun ls hl => ?_)
              refine lv_goto (tgt := 2) S.1 S.2.1 dX2_countPairsOfRow_68 (by decide) ?_
              exact ih2 (a + 1) t2 (by omega) (by omega) (by
                  intro a1 b1 h1 h2
                  rw [i4 a1 b1 h1 h2]
                  by_cases y : a1 < a + 1 ∧ pl a1 < pl b1
                  · rw [if_pos y, if_pos (by omega)]
                  · rw [if_neg y, if_neg (by omega)]) _ _ _ Z (lv_sub hl [0, 2] rfl)
            · skip
              have c_2 : ¬ 5 ≤ b := fun z9 => c_2 ((nI_leI (a := 5) (b := b) (by omega) (by omega)).mpr z9)
              have hb1 := hp5 a (by omega)
              have hb2 := hp5 b (by omega)
              refine lv_aload_n S.1 S.2.1 dX2_countPairsOfRow_16 rfl (lv_at hl 2 rfl) ?_
              refine ug_r S hK Z (j := 0) 44 (by decide) rfl rfl rfl (by decide) iX2_countPairsOfRow_X2 qX2_countPairsOfRow_11 dX2_countPairsOfRow_17 ?_
              refine lv_iload_n S.1 S.2.1 dX2_countPairsOfRow_20 rfl (lv_at hl 1 rfl) ?_
              refine ud_Si (As := [.ref (G.2.2 44), .int (nI a)]) (rest := []) S hK hA Z (c_X5_at l G 44 5 a (by decide) rfl (by omega) (uAr (uAr (uAr M 45 t2) 43 rf) 44 pl)) (va_cwS 2 S.2.2.2.2 gX2_countPairsOfRow_X5_at rfl rfl rfl (by decide +kernel) ⟨Nat.le_of_ble_eq_true rfl, Nat.le_of_ble_eq_true rfl⟩) rfl hl.1 rfl (Nat.le_of_ble_eq_true rfl) dX2_countPairsOfRow_21 ⟨Nat.zero_le _, Nat.zero_le _⟩ (fun H locs Z => ?_)
              refine utop (y := (nI (pl a))) (uAr_g (uAr (uAr M 45 t2) 43 rf) 44 pl a) ?_
              refine lv_aload_n S.1 S.2.1 dX2_countPairsOfRow_24 rfl (lv_at hl 2 rfl) ?_
              refine ug_r S hK Z (j := 0) 44 (by decide) rfl rfl rfl (by decide) iX2_countPairsOfRow_X2 qX2_countPairsOfRow_11 dX2_countPairsOfRow_25 ?_
              refine lv_iload_n S.1 S.2.1 dX2_countPairsOfRow_28 rfl (lv_at hl 0 rfl) ?_
              refine ud_Si (As := [.ref (G.2.2 44), .int (nI b)]) (rest := [.int (nI (pl a))]) S hK hA Z (c_X5_at l G 44 5 b (by decide) rfl (by omega) (uAr (uAr (uAr M 45 t2) 43 rf) 44 pl)) (va_cwS 2 S.2.2.2.2 gX2_countPairsOfRow_X5_at rfl rfl rfl (by decide +kernel) ⟨Nat.le_of_ble_eq_true rfl, Nat.le_of_ble_eq_true rfl⟩) rfl hl.1 rfl (Nat.le_of_ble_eq_true rfl) dX2_countPairsOfRow_29 ⟨Nat.zero_le _, Nat.zero_le _⟩ (fun H locs Z => ?_)
              refine utop (y := (nI (pl b))) (uAr_g (uAr (uAr M 45 t2) 43 rf) 44 pl b) ?_
              refine lv_icmp_ge (tgt := 59) S.1 S.2.1 dX2_countPairsOfRow_32 (by decide) (fun c_5 => ?_) (fun c_5 => ?_)
              · skip
                have c_5 : (pl b) ≤ (pl a) := (nI_leI (a := (pl b)) (b := (pl a)) (by omega) (by omega)).mp c_5
                refine lv_iinc (v := (nI (b + 1))) (lv' := [(2, .int (nI (b + 1))), (1, .int (nI a)), (0, .ref (G.2.2 43))]) S.1 S.2.1 dX2_countPairsOfRow_59 hl (k := 0) rfl (u_inc1 b) (by decide) rfl (fun ls hl => ?_)
                refine lv_goto (tgt := 11) S.1 S.2.1 dX2_countPairsOfRow_62 (by decide) ?_
                exact ih11 (b + 1) t2 (by omega) (by omega) (by
                    intro a1 b1 h1 h2
                    by_cases z : a1 = a ∧ b1 = b
                    · obtain ⟨z1, z2⟩ := z
                      rw [z1, z2]
                      first
                        | (rw [fu_eq, i4 a b (by omega) (by omega), if_neg (by omega), if_pos (by omega)])
                        | (rw [i4 a b (by omega) (by omega), if_neg (by omega), if_neg (by omega)])
                    · first
                        | rw [fu_ne (by omega), i4 a1 b1 h1 h2]
                        | rw [i4 a1 b1 h1 h2]
                      by_cases y : (a1 < a ∨ (a1 = a ∧ b1 < b)) ∧ pl a1 < pl b1
                      · rw [if_pos y, if_pos (by omega)]
                      · rw [if_neg y, if_neg (by omega)]) _ _ _ Z (lv_sub hl [0, 1, 2] rfl)
              · skip
                have c_5 : ¬ (pl b) ≤ (pl a) := fun z9 => c_5 ((nI_leI (a := (pl b)) (b := (pl a)) (by omega) (by omega)).mpr z9)
                refine lv_iload_n S.1 S.2.1 dX2_countPairsOfRow_35 rfl (lv_at hl 1 rfl) ?_
                refine lv_iconst (v := 5) S.1 S.2.1 dX2_countPairsOfRow_36 (by decide) ?_
                refine lv_imul S.1 S.2.1 dX2_countPairsOfRow_37 ?_
                refine utop (pk_mul a 5) ?_
                refine lv_iload_n S.1 S.2.1 dX2_countPairsOfRow_38 rfl (lv_at hl 0 rfl) ?_
                refine lv_iadd S.1 S.2.1 dX2_countPairsOfRow_39 ?_
                refine utop (nI_add (a * 5) b) ?_
                refine lv_istore_n (lv' := [(3, .int (nI ((a * 5) + b))), (2, .int (nI b)), (1, .int (nI a)), (0, .ref (G.2.2 43))]) S.1 S.2.1 dX2_countPairsOfRow_40 rfl hl (by decide) rfl (fun ls hl => ?_)
                refine lv_aload_n S.1 S.2.1 dX2_countPairsOfRow_41 rfl (lv_at hl 3 rfl) ?_
                refine ug_r S hK Z (j := 1) 45 (by decide) rfl rfl rfl (by decide) iX2_countPairsOfRow_X2 qX2_countPairsOfRow_15 dX2_countPairsOfRow_42 ?_
                refine lv_iload_n S.1 S.2.1 dX2_countPairsOfRow_45 rfl (lv_at hl 0 rfl) ?_
                refine lv_aload_n S.1 S.2.1 dX2_countPairsOfRow_46 rfl (lv_at hl 3 rfl) ?_
                refine ug_r S hK Z (j := 1) 45 (by decide) rfl rfl rfl (by decide) iX2_countPairsOfRow_X2 qX2_countPairsOfRow_15 dX2_countPairsOfRow_47 ?_
                refine lv_iload_n S.1 S.2.1 dX2_countPairsOfRow_50 rfl (lv_at hl 0 rfl) ?_
                refine ud_Si (As := [.ref (G.2.2 45), .int (nI ((a * 5) + b))]) (rest := [.int (nI ((a * 5) + b)), .ref (G.2.2 45)]) S hK hA Z (c_X5_at l G 45 25 ((a * 5) + b) (by decide) rfl (by omega) (uAr (uAr (uAr M 45 t2) 43 rf) 44 pl)) (va_cwS 2 S.2.2.2.2 gX2_countPairsOfRow_X5_at rfl rfl rfl (by decide +kernel) ⟨Nat.le_of_ble_eq_true rfl, Nat.le_of_ble_eq_true rfl⟩) rfl hl.1 rfl (Nat.le_of_ble_eq_true rfl) dX2_countPairsOfRow_51 ⟨Nat.zero_le _, Nat.zero_le _⟩ (fun H locs Z => ?_)
                refine utop (y := (nI (t2 ((a * 5) + b)))) ((uAr_o (uAr (uAr M 45 t2) 43 rf) 44 pl ((a * 5) + b) (a := 45) (by decide)).trans ((uAr_o (uAr M 45 t2) 43 rf ((a * 5) + b) (a := 45) (by decide)).trans (uAr_g M 45 t2 ((a * 5) + b)))) ?_
                refine lv_iconst (v := 1) S.1 S.2.1 dX2_countPairsOfRow_54 (by decide) ?_
                refine lv_iadd S.1 S.2.1 dX2_countPairsOfRow_55 ?_
                refine utop (nI_add (t2 ((a * 5) + b)) 1) ?_
                refine ud_Sv (As := [.ref (G.2.2 45), .int (nI ((a * 5) + b)), .int (nI ((t2 ((a * 5) + b)) + 1))]) (rest := []) S hK hA Z (c_X5_put l G 45 25 ((a * 5) + b) (by decide) rfl (by omega) (nI ((t2 ((a * 5) + b)) + 1)) (uAr (uAr (uAr M 45 t2) 43 rf) 44 pl)) (va_cwS 3 S.2.2.2.2 gX2_countPairsOfRow_X5_put rfl rfl rfl (by decide +kernel) ⟨Nat.le_of_ble_eq_true rfl, Nat.le_of_ble_eq_true rfl⟩) rfl hl.1 rfl (Nat.le_of_ble_eq_true rfl) dX2_countPairsOfRow_56 ⟨Nat.zero_le _, Nat.zero_le _⟩ (fun H locs Z => ?_)
                have Z := uZ_eq ((uAr_c (uAr (uAr M 45 t2) 43 rf) 44 pl (a := 45) ((a * 5) + b) (nI ((t2 ((a * 5) + b)) + 1)) (by decide)).trans (congrArg (fun X => uAr X 44 pl) ((uAr_c (uAr M 45 t2) 43 rf (a := 45) ((a * 5) + b) (nI ((t2 ((a * 5) + b)) + 1)) (by decide)).trans (congrArg (fun X => uAr X 43 rf) (uAr_s M 45 t2 ((a * 5) + b) ((t2 ((a * 5) + b)) + 1)))))) Z
                refine lv_iinc (v := (nI (b + 1))) (lv' := [(2, .int (nI (b + 1))), (3, .int (nI ((a * 5) + b))), (1, .int (nI a)), (0, .ref (G.2.2 43))]) S.1 S.2.1 dX2_countPairsOfRow_59 hl (k := 1) rfl (u_inc1 b) (by decide) rfl (fun ls hl => ?_)
                refine lv_goto (tgt := 11) S.1 S.2.1 dX2_countPairsOfRow_62 (by decide) ?_
                exact ih11 (b + 1) (fu t2 ((a * 5) + b) ((t2 ((a * 5) + b)) + 1)) (by omega) (by omega) (by
                    intro a1 b1 h1 h2
                    by_cases z : a1 = a ∧ b1 = b
                    · obtain ⟨z1, z2⟩ := z
                      rw [z1, z2]
                      first
                        | (rw [fu_eq, i4 a b (by omega) (by omega), if_neg (by omega), if_pos (by omega)])
                        | (rw [i4 a b (by omega) (by omega), if_neg (by omega), if_neg (by omega)])
                    · first
                        | rw [fu_ne (by omega), i4 a1 b1 h1 h2]
                        | rw [i4 a1 b1 h1 h2]
                      by_cases y : (a1 < a ∨ (a1 = a ∧ b1 < b)) ∧ pl a1 < pl b1
                      · rw [if_pos y, if_pos (by omega)]
                      · rw [if_neg y, if_neg (by omega)]) _ _ _ Z (lv_sub hl [0, 2, 3] rfl)
        exact LP11 6 (a + 1) t1 (by omega) (by omega) (by
            intro a1 b1 h1 h2
            rw [i2 a1 b1 h1 h2]
            by_cases y : a1 < a ∧ pl a1 < pl b1
            · rw [if_pos y, if_pos (by omega)]
            · rw [if_neg y, if_neg (by omega)]) _ _ _ Z (lv_sub hl [0, 1, 2] rfl)
  exact LP2 6 0 tm (by omega) (by omega) (by
      intro a1 b1 h1 h2
      rw [if_neg (by omega)]
      rfl) _ _ _ Z (lv_sub hl [0, 1] rfl)
set_option maxHeartbeats 4000000 in
set_option maxRecDepth 100000 in
theorem c_X2_countPairs (l : Launch) (G : uG) (M : uM) (w : Nat → Nat → Nat) (rf pl tm : Nat → Nat) (hr : uRd M 1 w) (hw : wOk w) : CTv l G yX2_countPairs wsX2_countPairs 3 69 [.ref (G.2.2 43), .ref (G.2.2 8)] (uAr (uAr (uAr M 45 tm) 43 rf) 44 pl) (fun M2 => ∃ rf2 pl2 tm2, M2 = uAr (uAr (uAr M 45 tm2) 43 rf2) 44 pl2 ∧ rf2 3 = hCnt w 120 ∧ ∀ a b, a < b → b < 5 → tm2 (a * 5 + b) = hPr w a b 120) := by
  refine ustart_v (cc := cX2_countPairs) (maxL := 3) (ret := none) (own := RX2) rfl (by decide) rfl (Nat.le_of_ble_eq_true rfl) ?_
  intro xp xe xs xm xa xb xt xc xA ls S hK hA Z hre hlk hl
  have hl : lv_has ls 3 [(0, .ref (G.2.2 43)), (1, .ref (G.2.2 8))] := hl
  refine lv_aload_n S.1 S.2.1 dX2_countPairs_0 rfl (lv_at hl 0 rfl) ?_
  refine ug_r S hK Z (j := 1) 45 (by decide) rfl rfl rfl (by decide) iX2_countPairs_X2 qX2_countPairs_15 dX2_countPairs_1 ?_
  refine lv_iconst (v := 0) S.1 S.2.1 dX2_countPairs_4 (by decide) ?_
  refine ud_Sv (As := [.ref (G.2.2 45), .int 0]) (rest := []) S hK hA Z (c_X5_fill l G 45 25 (by decide) rfl 0 (uAr (uAr (uAr M 45 tm) 43 rf) 44 pl)) (va_cwS 2 S.2.2.2.2 gX2_countPairs_X5_fill rfl rfl rfl (by decide +kernel) ⟨Nat.le_of_ble_eq_true rfl, Nat.le_of_ble_eq_true rfl⟩) rfl hl.1 rfl (Nat.le_of_ble_eq_true rfl) dX2_countPairs_5 ⟨Nat.zero_le _, Nat.zero_le _⟩ (fun H locs Z => ?_)
  have Z := uZ_eq (M' := (uAr (uAr (uAr M 45 (fun i => if i < 25 then 0 else tm i)) 43 rf) 44 pl)) ((uAr_fillc (uAr (uAr M 45 tm) 43 rf) 44 pl (a := 45) 25 (nI 0) (by decide)).trans (congrArg (fun X => uAr X 44 pl) ((uAr_fillc (uAr M 45 tm) 43 rf (a := 45) 25 (nI 0) (by decide)).trans (congrArg (fun X => uAr X 43 rf) (uAr_fill M 45 tm 25 0))))) Z
  refine lv_aload_n S.1 S.2.1 dX2_countPairs_8 rfl (lv_at hl 0 rfl) ?_
  refine lv_iconst (v := 0) S.1 S.2.1 dX2_countPairs_9 (by decide) ?_
  refine up_i S hK Z (j := 3) (by decide) rfl rfl rfl (by decide) iX2_countPairs_X2 tyX2_ok nmX2 qX2_countPairs_66 rfl rfl rfl dX2_countPairs_10 (fun H locs Z => ?_)
  have Z := uZ_eq ((uAr_c (uAr (uAr M 45 (fun i => if i < 25 then 0 else tm i)) 43 rf) 44 pl (a := 43) 3 (nI 0) (by decide)).trans (congrArg (fun X => uAr X 44 pl) (uAr_s (uAr M 45 (fun i => if i < 25 then 0 else tm i)) 43 rf 3 0))) Z
  refine lv_iconst (v := 0) S.1 S.2.1 dX2_countPairs_13 (by decide) ?_
  refine lv_istore_n (lv' := [(2, .int 0), (0, .ref (G.2.2 43)), (1, .ref (G.2.2 8))]) S.1 S.2.1 dX2_countPairs_14 rfl hl (by decide) rfl (fun ls hl => ?_)
  have LP15 : ∀ (fU : Nat) (k : Nat) (t1 : Nat → Nat) (rf1 : Nat → Nat) (pl1 : Nat → Nat), (120 < k + fU) → (k ≤ 120) → (rf1 3 = hCnt w k) → (∀ a b, a < b → b < 5 → t1 (a * 5 + b) = hPr w a b k) → ∀ (H : Heap) (locs : List Loc) (ls : Array Slot), uZ G xA (uAr (uAr (uAr M 45 t1) 43 rf1) 44 pl1) xs.heap H locs → lv_has ls 3 [(2, .int (nI k)), (0, .ref (G.2.2 43)), (1, .ref (G.2.2 8))] → W xp l xe (uRm 3 69) xs xm xa xb xt xc H locs 0 0 (MQ xb (va_Qv (fun M2 => ∃ rf2 pl2 tm2, M2 = uAr (uAr (uAr M 45 tm2) 43 rf2) 44 pl2 ∧ rf2 3 = hCnt w 120 ∧ ∀ a b, a < b → b < 5 → tm2 (a * 5 + b) = hPr w a b 120) (fun M' t => uB G M' t) xA) xa xs 0 0 xA) (F0 xm 15 ls []) := by
    intro fU
    induction fU with
    | zero =>
      intro k t1 rf1 pl1 hfl i1 i2 i3 H locs ls Z hl
      exfalso
      omega
    | succ fU ih15 =>
      intro k t1 rf1 pl1 hfl i1 i2 i3 H locs ls Z hl
      refine lv_iload_n S.1 S.2.1 dX2_countPairs_15 rfl (lv_at hl 0 rfl) ?_
      refine lv_bipush (v := 120) S.1 S.2.1 dX2_countPairs_16 (by decide) ?_
      refine lv_icmp_ge (tgt := 57) S.1 S.2.1 dX2_countPairs_18 (by decide) (fun c_2 => ?_) (fun c_2 => ?_)
      · skip
        have c_2 : 120 ≤ k := (nI_leI (a := 120) (b := k) (by omega) (by omega)).mp c_2
        refine uret_v S hK Z hre hlk dX2_countPairs_57 ?_
        obtain rfl : k = 120 := by omega
        exact ⟨_, _, _, rfl, i2, i3⟩
      · skip
        have c_2 : ¬ 120 ≤ k := fun z9 => c_2 ((nI_leI (a := 120) (b := k) (by omega) (by omega)).mpr z9)
        refine lv_aload_n S.1 S.2.1 dX2_countPairs_21 rfl (lv_at hl 1 rfl) ?_
        refine lv_iload_n S.1 S.2.1 dX2_countPairs_22 rfl (lv_at hl 0 rfl) ?_
        refine uc_Vv (As := [.int (nI k)]) (rest := []) S hK hA Z (c_X2_layOut l G k (by omega) (uAr M 45 t1) rf1 pl1) (cwV 1 S.2.2.2.2 gX2_countPairs_X2_layOut rfl rfl rfl (by decide +kernel) ⟨Nat.le_of_ble_eq_true rfl, Nat.le_of_ble_eq_true rfl⟩) (by decide) rfl rfl rfl hl.1 rfl (Nat.le_of_ble_eq_true rfl) dX2_countPairs_23 ⟨Nat.zero_le _, Nat.zero_le _⟩ (fun M_3 H locs hp Z => ?_)
        obtain ⟨rf2, pl2, hM, hl2, hl3, hl4⟩ := hp
        rw [hM] at Z
        have hp5 : ∀ h, h < 5 → pl2 h < 5 := fun h hh => by rw [hl3 h hh]; exact lPl_lt k (by omega) h hh
        refine lv_aload_n S.1 S.2.1 dX2_countPairs_26 rfl (lv_at hl 2 rfl) ?_
        refine lv_aload_n S.1 S.2.1 dX2_countPairs_27 rfl (lv_at hl 1 rfl) ?_
        refine ug_r S hK Z (j := 0) 44 (by decide) rfl rfl rfl (by decide) iX2_countPairs_X2 qX2_countPairs_11 dX2_countPairs_28 ?_
        refine uc_Vi (As := [.ref (G.2.2 44)]) (rest := []) S hK hA Z (c_X8_hold l G (uAr (uAr (uAr M 45 t1) 43 rf2) 44 pl2) w pl2 (uRd_Ar (uRd_Ar (uRd_Ar hr (Or.inr (by decide))) (Or.inr (by decide))) (Or.inr (by decide))) hw (fun x => uAr_g _ _ _ x) hp5) (cwV 1 S.2.2.2.2 gX2_countPairs_X8_hold rfl rfl rfl (by decide +kernel) ⟨Nat.le_of_ble_eq_true rfl, Nat.le_of_ble_eq_true rfl⟩) (by decide) rfl rfl rfl hl.1 rfl (Nat.le_of_ble_eq_true rfl) dX2_countPairs_31 ⟨Nat.zero_le _, Nat.zero_le _⟩ (fun r_4 M_4 H locs hp Z => ?_)
        obtain ⟨⟨rfl, w_4⟩ | ⟨rfl, w_4⟩, hM_4⟩ := hp
        · skip
          rw [hM_4] at Z
          have hh : hOk w (lPl k) := (hOk_iff hw hl3).mp w_4
          refine lv_if_eq (tgt := 51) S.1 S.2.1 dX2_countPairs_34 (by decide) (fun c => absurd c (by decide)) (fun _ => ?_)
          refine lv_aload_n S.1 S.2.1 dX2_countPairs_37 rfl (lv_at hl 1 rfl) ?_
          refine lv_dup S.1 S.2.1 dX2_countPairs_38 rfl ?_
          refine ug_i S hK Z (j := 3) (by decide) rfl rfl rfl (by decide) iX2_countPairs_X2 qX2_countPairs_66 dX2_countPairs_39 ?_
          refine utop (y := (nI (rf2 3))) ((uAr_o (uAr (uAr M 45 t1) 43 rf2) 44 pl2 3 (a := 43) (by decide)).trans (uAr_g (uAr M 45 t1) 43 rf2 3)) ?_
          refine lv_iconst (v := 1) S.1 S.2.1 dX2_countPairs_42 (by decide) ?_
          refine lv_iadd S.1 S.2.1 dX2_countPairs_43 ?_
          refine utop (nI_add (rf2 3) 1) ?_
          refine up_i S hK Z (j := 3) (by decide) rfl rfl rfl (by decide) iX2_countPairs_X2 tyX2_ok nmX2 qX2_countPairs_66 rfl rfl rfl dX2_countPairs_44 (fun H locs Z => ?_)
          have Z := uZ_eq ((uAr_c (uAr (uAr M 45 t1) 43 rf2) 44 pl2 (a := 43) 3 (nI ((rf2 3) + 1)) (by decide)).trans (congrArg (fun X => uAr X 44 pl2) (uAr_s (uAr M 45 t1) 43 rf2 3 ((rf2 3) + 1)))) Z
          refine lv_aload_n S.1 S.2.1 dX2_countPairs_47 rfl (lv_at hl 1 rfl) ?_
          refine uc_Vv (As := []) (rest := []) S hK hA Z (c_X2_countPairsOfRow l G M (fu rf2 3 ((rf2 3) + 1)) pl2 t1 hp5) (cwV 0 S.2.2.2.2 gX2_countPairs_X2_countPairsOfRow rfl rfl rfl (by decide +kernel) ⟨Nat.le_of_ble_eq_true rfl, Nat.le_of_ble_eq_true rfl⟩) (by decide) rfl rfl rfl hl.1 rfl (Nat.le_of_ble_eq_true rfl) dX2_countPairs_48 ⟨Nat.zero_le _, Nat.zero_le _⟩ (fun M_6 H locs hp Z => ?_)
          obtain ⟨t2, hM2, ht2⟩ := hp
          rw [hM2] at Z
          refine lv_iinc (v := (nI (k + 1))) (lv' := [(2, .int (nI (k + 1))), (0, .ref (G.2.2 43)), (1, .ref (G.2.2 8))]) S.1 S.2.1 dX2_countPairs_51 hl (k := 0) rfl (u_inc1 k) (by decide) rfl (fun ls hl => ?_)
          refine lv_goto (tgt := 15) S.1 S.2.1 dX2_countPairs_54 (by decide) ?_
          exact ih15 (k + 1) t2 (fu rf2 3 ((rf2 3) + 1)) pl2 (by omega) (by omega) (by
              rw [hCnt]
              first
                | rw [if_pos hh, fu_eq, hl4 3 (by decide), i2]
                | rw [if_neg hh, hl4 3 (by decide), i2]) (by
              intro a b h1 h2
              rw [hPr]
              first
                | (rw [ht2 a b h1 h2, i3 a b h1 h2, hl3 a (by omega), hl3 b h2]
                   by_cases y : lPl k a < lPl k b
                   · rw [if_pos y, if_pos ⟨hh, y⟩]
                   · rw [if_neg y, if_neg (fun q => y q.2)]
                     rfl)
                | rw [if_neg (fun q => hh q.1), i3 a b h1 h2]) _ _ _ Z (lv_sub hl [0, 1, 2] rfl)
        · skip
          rw [hM_4] at Z
          have hh : ¬ hOk w (lPl k) := fun q => w_4 ((hOk_iff hw hl3).mpr q)
          refine lv_if_eq (tgt := 51) S.1 S.2.1 dX2_countPairs_34 (by decide) (fun _ => ?_) (fun c => absurd c (by decide))
          refine lv_iinc (v := (nI (k + 1))) (lv' := [(2, .int (nI (k + 1))), (0, .ref (G.2.2 43)), (1, .ref (G.2.2 8))]) S.1 S.2.1 dX2_countPairs_51 hl (k := 0) rfl (u_inc1 k) (by decide) rfl (fun ls hl => ?_)
          refine lv_goto (tgt := 15) S.1 S.2.1 dX2_countPairs_54 (by decide) ?_
          exact ih15 (k + 1) t1 rf2 pl2 (by omega) (by omega) (by
              rw [hCnt]
              first
                | rw [if_pos hh, fu_eq, hl4 3 (by decide), i2]
                | rw [if_neg hh, hl4 3 (by decide), i2]) (by
              intro a b h1 h2
              rw [hPr]
              first
                | (rw [ht2 a b h1 h2, i3 a b h1 h2, hl3 a (by omega), hl3 b h2]
                   by_cases y : lPl k a < lPl k b
                   · rw [if_pos y, if_pos ⟨hh, y⟩]
                   · rw [if_neg y, if_neg (fun q => y q.2)]
                     rfl)
                | rw [if_neg (fun q => hh q.1), i3 a b h1 h2]) _ _ _ Z (lv_sub hl [0, 1, 2] rfl)
  exact LP15 121 0 (fun i => if i < 25 then 0 else tm i) (fu rf 3 0) pl (by omega) (by omega) (by rw [fu_eq]; rfl) (by intro a b h1 h2; exact if_pos (by omega)) _ _ _ Z (lv_sub hl [0, 1, 2] rfl)
set_option maxHeartbeats 4000000 in
set_option maxRecDepth 100000 in
theorem c_X2_chooseQuestion (l : Launch) (G : uG) (M : uM) (w : Nat → Nat → Nat) (rf pl tm : Nat → Nat) (hr : uRd M 1 w) (hw : wOk w) : CTv l G yX2_chooseQuestion wsX2_chooseQuestion 4 91 [.ref (G.2.2 43), .ref (G.2.2 8)] (uAr (uAr (uAr M 45 tm) 43 rf) 44 pl) (fun M2 => M2.1 43 4 = (if hCnt w 120 = 0 then -6 else nI (qE (qA w 5)).1) ∧ M2.1 43 5 = (if hCnt w 120 = 0 then -6 else nI (qE (qA w 5)).2) ∧ uSm 43 46 M M2) := by
  refine ustart_v (cc := cX2_chooseQuestion) (maxL := 6) (ret := none) (own := RX2) rfl (by decide) rfl (Nat.le_of_ble_eq_true rfl) ?_
  intro xp xe xs xm xa xb xt xc xA ls S hK hA Z hre hlk hl
  have hl : lv_has ls 6 [(0, .ref (G.2.2 43)), (1, .ref (G.2.2 8))] := hl
  refine lv_aload_n S.1 S.2.1 dX2_chooseQuestion_0 rfl (lv_at hl 0 rfl) ?_
  refine lv_aload_n S.1 S.2.1 dX2_chooseQuestion_1 rfl (lv_at hl 1 rfl) ?_
  refine uc_Vv (As := [.ref (G.2.2 8)]) (rest := []) S hK hA Z (c_X2_countPairs l G M w rf pl tm hr hw) (cwV 1 S.2.2.2.2 gX2_chooseQuestion_X2_countPairs rfl rfl rfl (by decide +kernel) ⟨Nat.le_of_ble_eq_true rfl, Nat.le_of_ble_eq_true rfl⟩) (by decide) rfl rfl rfl hl.1 rfl (Nat.le_of_ble_eq_true rfl) dX2_chooseQuestion_2 ⟨Nat.zero_le _, Nat.zero_le _⟩ (fun M_1 H locs hp Z => ?_)
  obtain ⟨rf2, pl2, tm2, hM, hc1, hc2⟩ := hp
  rw [hM] at Z
  refine lv_aload_n S.1 S.2.1 dX2_chooseQuestion_5 rfl (lv_at hl 0 rfl) ?_
  refine lv_bipush (v := (-6)) S.1 S.2.1 dX2_chooseQuestion_6 (by decide) ?_
  refine utop (y := nI 4294967290) n6.symm ?_
  refine up_i S hK Z (j := 4) (by decide) rfl rfl rfl (by decide) iX2_chooseQuestion_X2 tyX2_ok nmX2 qX2_chooseQuestion_60 rfl rfl rfl dX2_chooseQuestion_8 (fun H locs Z => ?_)
  have Z := uZ_eq ((uAr_c (uAr (uAr M 45 tm2) 43 rf2) 44 pl2 (a := 43) 4 (nI 4294967290) (by decide)).trans (congrArg (fun X => uAr X 44 pl2) (uAr_s (uAr M 45 tm2) 43 rf2 4 4294967290))) Z
  refine lv_aload_n S.1 S.2.1 dX2_chooseQuestion_11 rfl (lv_at hl 0 rfl) ?_
  refine lv_bipush (v := (-6)) S.1 S.2.1 dX2_chooseQuestion_12 (by decide) ?_
  refine utop (y := nI 4294967290) n6.symm ?_
  refine up_i S hK Z (j := 5) (by decide) rfl rfl rfl (by decide) iX2_chooseQuestion_X2 tyX2_ok nmX2 qX2_chooseQuestion_63 rfl rfl rfl dX2_chooseQuestion_14 (fun H locs Z => ?_)
  have Z := uZ_eq ((uAr_c (uAr (uAr M 45 tm2) 43 (fu rf2 4 4294967290)) 44 pl2 (a := 43) 5 (nI 4294967290) (by decide)).trans (congrArg (fun X => uAr X 44 pl2) (uAr_s (uAr M 45 tm2) 43 (fu rf2 4 4294967290) 5 4294967290))) Z
  refine lv_aload_n S.1 S.2.1 dX2_chooseQuestion_17 rfl (lv_at hl 0 rfl) ?_
  refine ug_i S hK Z (j := 3) (by decide) rfl rfl rfl (by decide) iX2_chooseQuestion_X2 qX2_chooseQuestion_66 dX2_chooseQuestion_18 ?_
  refine utop (y := (nI ((fu (fu rf2 4 4294967290) 5 4294967290) 3))) ((uAr_o (uAr (uAr M 45 tm2) 43 (fu (fu rf2 4 4294967290) 5 4294967290)) 44 pl2 3 (a := 43) (by decide)).trans (uAr_g (uAr M 45 tm2) 43 (fu (fu rf2 4 4294967290) 5 4294967290) 3)) ?_
  have h0 := hCnt_le w 120
  have h1 : (fu (fu rf2 4 4294967290) 5 4294967290) 3 = hCnt w 120 := by rw [fu_ne (by decide), fu_ne (by decide), hc1]
  refine lv_if_ne (tgt := 25) S.1 S.2.1 dX2_chooseQuestion_21 (by decide) (fun c_2 => ?_) (fun c_2 => ?_)
  · skip
    have c_2 : ¬ ((fu (fu rf2 4 4294967290) 5 4294967290) 3) = 0 := fun z9 => c_2 ((nI_eq (a := ((fu (fu rf2 4 4294967290) 5 4294967290) 3)) (b := 0) (by omega) (by omega)).mpr z9)
    refine lv_iconst (v := 0) S.1 S.2.1 dX2_chooseQuestion_25 (by decide) ?_
    refine lv_istore_n (lv' := [(2, .int 0), (0, .ref (G.2.2 43)), (1, .ref (G.2.2 8))]) S.1 S.2.1 dX2_chooseQuestion_26 rfl hl (by decide) rfl (fun ls hl => ?_)
    have LP27 : ∀ (fU : Nat) (a : Nat) (rf1 : Nat → Nat), (5 < a + fU) → (a ≤ 5) → ((rf1 4, rf1 5) = qE (qA w a)) → (qS (qA w a)) → (rf1 3 = hCnt w 120) → ∀ (H : Heap) (locs : List Loc) (ls : Array Slot), uZ G xA (uAr (uAr (uAr M 45 tm2) 43 rf1) 44 pl2) xs.heap H locs → lv_has ls 6 [(2, .int (nI a)), (0, .ref (G.2.2 43)), (1, .ref (G.2.2 8))] → W xp l xe (uRm 4 91) xs xm xa xb xt xc H locs 0 0 (MQ xb (va_Qv (fun M2 => M2.1 43 4 = (if hCnt w 120 = 0 then -6 else nI (qE (qA w 5)).1) ∧ M2.1 43 5 = (if hCnt w 120 = 0 then -6 else nI (qE (qA w 5)).2) ∧ uSm 43 46 M M2) (fun M' t => uB G M' t) xA) xa xs 0 0 xA) (F0 xm 27 ls []) := by
      intro fU
      induction fU with
      | zero =>
        intro a rf1 hfl i1 i2 i3 i4 H locs ls Z hl
        exfalso
        omega
      | succ fU ih27 =>
        intro a rf1 hfl i1 i2 i3 i4 H locs ls Z hl
        refine lv_iload_n S.1 S.2.1 dX2_chooseQuestion_27 rfl (lv_at hl 0 rfl) ?_
        refine lv_iconst (v := 5) S.1 S.2.1 dX2_chooseQuestion_28 (by decide) ?_
        refine lv_icmp_ge (tgt := 115) S.1 S.2.1 dX2_chooseQuestion_29 (by decide) (fun c_3 => ?_) (fun c_3 => ?_)
        · skip
          have c_3 : 5 ≤ a := (nI_leI (a := 5) (b := a) (by omega) (by omega)).mp c_3
          refine uret_v S hK Z hre hlk dX2_chooseQuestion_115 ?_
          obtain rfl : a = 5 := by omega
          have h2 : ¬ hCnt w 120 = 0 := by omega
          rw [if_neg h2, if_neg h2, ← i2]
          exact ⟨(uAr_o _ _ _ _ (by decide)).trans (uAr_g _ _ _ _), (uAr_o _ _ _ _ (by decide)).trans (uAr_g _ _ _ _), uSm_r (uSm_r (uSm_r (uSm_rf 43 46 M) (by decide) (by decide)) (by decide) (by decide)) (by decide) (by decide)⟩
        · skip
          have c_3 : ¬ 5 ≤ a := fun z9 => c_3 ((nI_leI (a := 5) (b := a) (by omega) (by omega)).mpr z9)
          refine lv_iload_n S.1 S.2.1 dX2_chooseQuestion_32 rfl (lv_at hl 0 rfl) ?_
          refine lv_iconst (v := 1) S.1 S.2.1 dX2_chooseQuestion_33 (by decide) ?_
          refine lv_iadd S.1 S.2.1 dX2_chooseQuestion_34 ?_
          refine utop (nI_add a 1) ?_
          refine lv_istore_n (lv' := [(3, .int (nI (a + 1))), (2, .int (nI a)), (0, .ref (G.2.2 43)), (1, .ref (G.2.2 8))]) S.1 S.2.1 dX2_chooseQuestion_35 rfl hl (by decide) rfl (fun ls hl => ?_)
          have LP36 : ∀ (fU : Nat) (b : Nat) (rf3 : Nat → Nat), (5 < b + fU) → (a < b ∧ b ≤ 5) → ((rf3 4, rf3 5) = qE (qB w a (qA w a) (b - a - 1))) → (qS (qB w a (qA w a) (b - a - 1))) → (rf3 3 = hCnt w 120) → ∀ (H : Heap) (locs : List Loc) (ls : Array Slot), uZ G xA (uAr (uAr (uAr M 45 tm2) 43 rf3) 44 pl2) xs.heap H locs → lv_has ls 6 [(3, .int (nI b)), (2, .int (nI a)), (0, .ref (G.2.2 43)), (1, .ref (G.2.2 8))] → W xp l xe (uRm 4 91) xs xm xa xb xt xc H locs 0 0 (MQ xb (va_Qv (fun M2 => M2.1 43 4 = (if hCnt w 120 = 0 then -6 else nI (qE (qA w 5)).1) ∧ M2.1 43 5 = (if hCnt w 120 = 0 then -6 else nI (qE (qA w 5)).2) ∧ uSm 43 46 M M2) (fun M' t => uB G M' t) xA) xa xs 0 0 xA) (F0 xm 36 ls []) := by
            intro fU
            induction fU with
            | zero =>
              intro b rf3 hfl j1 i5 i6 i7 H locs ls Z hl
              exfalso
              omega
            | succ fU ih36 =>
              intro b rf3 hfl j1 i5 i6 i7 H locs ls Z hl
              refine lv_iload_n S.1 S.2.1 dX2_chooseQuestion_36 rfl (lv_at hl 0 rfl) ?_
              refine lv_iconst (v := 5) S.1 S.2.1 dX2_chooseQuestion_37 (by decide) ?_
              refine lv_icmp_ge (tgt := 109) S.1 S.2.1 dX2_chooseQuestion_38 (by decide) (fun c_4 => ?_) (fun c_4 => ?_)
              · skip
                have c_4 : 5 ≤ b := (nI_leI (a := 5) (b := b) (by omega) (by omega)).mp c_4
                refine lv_iinc (v := (nI (a + 1))) (lv' := [(2, .int (nI (a + 1))), (3, .int (nI b)), (0, .ref (G.2.2 43)), (1, .ref (G.2.2 8))]) S.1 S.2.1 dX2_chooseQuestion_109 hl (k := 1) rfl (u_inc1 a) (by decide) rfl (fun ls hl => ?_)
                refine lv_goto (tgt := 27) S.1 S.2.1 dX2_chooseQuestion_112 (by decide) ?_
                exact ih27 (a + 1) rf3 (by omega) (by omega) (by rw [i5, qA, show 4 - a = b - a - 1 from by omega]) (by rw [qA, show 4 - a = b - a - 1 from by omega]; exact i6) (by exact i7) _ _ _ Z (lv_sub hl [0, 2, 3] rfl)
              · skip
                have c_4 : ¬ 5 ≤ b := fun z9 => c_4 ((nI_leI (a := 5) (b := b) (by omega) (by omega)).mpr z9)
                have c1 := hc2 a b (by omega) (by omega)
                have c2 := hPr_le w a b 120
                have c3 := hCnt_le w 120
                have e1 : max (tm2 (a * 5 + b)) (rf3 3 - tm2 (a * 5 + b)) = qL w a b := by rw [c1, i7]; rfl
                have e2 := qL_le w a b
                have e3 : qB w a (qA w a) (b + 1 - a - 1) = qU (qB w a (qA w a) (b - a - 1)) a b (qL w a b) := by
                  rw [show b + 1 - a - 1 = (b - a - 1) + 1 from by omega, qB, show a + 1 + (b - a - 1) = b from by omega]
                refine lv_aload_n S.1 S.2.1 dX2_chooseQuestion_41 rfl (lv_at hl 2 rfl) ?_
                refine ug_r S hK Z (j := 1) 45 (by decide) rfl rfl rfl (by decide) iX2_chooseQuestion_X2 qX2_chooseQuestion_15 dX2_chooseQuestion_42 ?_
                refine lv_iload_n S.1 S.2.1 dX2_chooseQuestion_45 rfl (lv_at hl 1 rfl) ?_
                refine lv_iconst (v := 5) S.1 S.2.1 dX2_chooseQuestion_46 (by decide) ?_
                refine lv_imul S.1 S.2.1 dX2_chooseQuestion_47 ?_
                refine utop (pk_mul a 5) ?_
                refine lv_iload_n S.1 S.2.1 dX2_chooseQuestion_48 rfl (lv_at hl 0 rfl) ?_
                refine lv_iadd S.1 S.2.1 dX2_chooseQuestion_49 ?_
                refine utop (nI_add (a * 5) b) ?_
                refine ud_Si (As := [.ref (G.2.2 45), .int (nI ((a * 5) + b))]) (rest := []) S hK hA Z (c_X5_at l G 45 25 ((a * 5) + b) (by decide) rfl (by omega) (uAr (uAr (uAr M 45 tm2) 43 rf3) 44 pl2)) (va_cwS 2 S.2.2.2.2 gX2_chooseQuestion_X5_at rfl rfl rfl (by decide +kernel) ⟨Nat.le_of_ble_eq_true rfl, Nat.le_of_ble_eq_true rfl⟩) rfl hl.1 rfl (Nat.le_of_ble_eq_true rfl) dX2_chooseQuestion_50 ⟨Nat.zero_le _, Nat.zero_le _⟩ (fun H locs Z => ?_)
                refine utop (y := (nI (tm2 ((a * 5) + b)))) ((uAr_o (uAr (uAr M 45 tm2) 43 rf3) 44 pl2 ((a * 5) + b) (a := 45) (by decide)).trans ((uAr_o (uAr M 45 tm2) 43 rf3 ((a * 5) + b) (a := 45) (by decide)).trans (uAr_g M 45 tm2 ((a * 5) + b)))) ?_
                refine lv_istore (lv' := [(4, .int (nI (tm2 ((a * 5) + b)))), (3, .int (nI b)), (2, .int (nI a)), (0, .ref (G.2.2 43)), (1, .ref (G.2.2 8))]) S.1 S.2.1 dX2_chooseQuestion_53 hl (by decide) rfl (fun ls hl => ?_)
                refine lv_iload S.1 S.2.1 dX2_chooseQuestion_55 (lv_at hl 0 rfl) ?_
                refine lv_aload_n S.1 S.2.1 dX2_chooseQuestion_57 rfl (lv_at hl 3 rfl) ?_
                refine ug_i S hK Z (j := 3) (by decide) rfl rfl rfl (by decide) iX2_chooseQuestion_X2 qX2_chooseQuestion_66 dX2_chooseQuestion_58 ?_
                refine utop (y := (nI (rf3 3))) ((uAr_o (uAr (uAr M 45 tm2) 43 rf3) 44 pl2 3 (a := 43) (by decide)).trans (uAr_g (uAr M 45 tm2) 43 rf3 3)) ?_
                refine lv_iload S.1 S.2.1 dX2_chooseQuestion_61 (lv_at hl 0 rfl) ?_
                refine lv_isub S.1 S.2.1 dX2_chooseQuestion_63 ?_
                refine utop (pk_sub (a := (rf3 3)) (b := (tm2 ((a * 5) + b))) (by omega)) ?_
                refine va_mmax S.1 S.2.1 (S.2.2.1.trans hl.1.symm) S.2.2.2.1 (S.2.2.2.2 _ qX2_chooseQuestion_28) (S.2.2.2.2 _ qX2_chooseQuestion_w6) (S.2.2.2.2 _ qX2_chooseQuestion_w7) (S.2.2.2.2 _ qX2_chooseQuestion_w8) (Nat.le_of_ble_eq_true rfl) (Nat.le_of_ble_eq_true rfl) (Nat.zero_le _) (Nat.zero_le _) dX2_chooseQuestion_64 ?_
                refine utop (u_mmax (a := (tm2 ((a * 5) + b))) (b := ((rf3 3) - (tm2 ((a * 5) + b)))) (by omega) (by omega)) ?_
                refine lv_istore (lv' := [(5, .int (nI (max (tm2 ((a * 5) + b)) ((rf3 3) - (tm2 ((a * 5) + b)))))), (4, .int (nI (tm2 ((a * 5) + b)))), (3, .int (nI b)), (2, .int (nI a)), (0, .ref (G.2.2 43)), (1, .ref (G.2.2 8))]) S.1 S.2.1 dX2_chooseQuestion_67 hl (by decide) rfl (fun ls hl => ?_)
                refine lv_aload_n S.1 S.2.1 dX2_chooseQuestion_69 rfl (lv_at hl 4 rfl) ?_
                refine ug_i S hK Z (j := 4) (by decide) rfl rfl rfl (by decide) iX2_chooseQuestion_X2 qX2_chooseQuestion_60 dX2_chooseQuestion_70 ?_
                refine utop (y := (nI (rf3 4))) ((uAr_o (uAr (uAr M 45 tm2) 43 rf3) 44 pl2 4 (a := 43) (by decide)).trans (uAr_g (uAr M 45 tm2) 43 rf3 4)) ?_
                refine lv_bipush (v := (-6)) S.1 S.2.1 dX2_chooseQuestion_73 (by decide) ?_
                refine lv_icmp_eq (tgt := 87) S.1 S.2.1 dX2_chooseQuestion_75 (by decide) (fun c_6 => ?_) (fun c_6 => ?_)
                · skip
                  refine lv_aload_n S.1 S.2.1 dX2_chooseQuestion_87 rfl (lv_at hl 4 rfl) ?_
                  refine lv_bipush (v := 10) S.1 S.2.1 dX2_chooseQuestion_88 (by decide) ?_
                  refine lv_iload_n S.1 S.2.1 dX2_chooseQuestion_90 rfl (lv_at hl 3 rfl) ?_
                  refine lv_imul S.1 S.2.1 dX2_chooseQuestion_91 ?_
                  refine utop (pk_mul 10 a) ?_
                  refine lv_iload_n S.1 S.2.1 dX2_chooseQuestion_92 rfl (lv_at hl 2 rfl) ?_
                  refine lv_iadd S.1 S.2.1 dX2_chooseQuestion_93 ?_
                  refine utop (nI_add (10 * a) b) ?_
                  refine up_i S hK Z (j := 4) (by decide) rfl rfl rfl (by decide) iX2_chooseQuestion_X2 tyX2_ok nmX2 qX2_chooseQuestion_60 rfl rfl rfl dX2_chooseQuestion_94 (fun H locs Z => ?_)
                  have Z := uZ_eq ((uAr_c (uAr (uAr M 45 tm2) 43 rf3) 44 pl2 (a := 43) 4 (nI ((10 * a) + b)) (by decide)).trans (congrArg (fun X => uAr X 44 pl2) (uAr_s (uAr M 45 tm2) 43 rf3 4 ((10 * a) + b)))) Z
                  refine lv_aload_n S.1 S.2.1 dX2_chooseQuestion_97 rfl (lv_at hl 4 rfl) ?_
                  refine lv_iload S.1 S.2.1 dX2_chooseQuestion_98 (lv_at hl 0 rfl) ?_
                  refine up_i S hK Z (j := 5) (by decide) rfl rfl rfl (by decide) iX2_chooseQuestion_X2 tyX2_ok nmX2 qX2_chooseQuestion_63 rfl rfl rfl dX2_chooseQuestion_100 (fun H locs Z => ?_)
                  have Z := uZ_eq ((uAr_c (uAr (uAr M 45 tm2) 43 (fu rf3 4 ((10 * a) + b))) 44 pl2 (a := 43) 5 (nI (max (tm2 ((a * 5) + b)) ((rf3 3) - (tm2 ((a * 5) + b))))) (by decide)).trans (congrArg (fun X => uAr X 44 pl2) (uAr_s (uAr M 45 tm2) 43 (fu rf3 4 ((10 * a) + b)) 5 (max (tm2 ((a * 5) + b)) ((rf3 3) - (tm2 ((a * 5) + b))))))) Z
                  refine lv_iinc (v := (nI (b + 1))) (lv' := [(3, .int (nI (b + 1))), (5, .int (nI (max (tm2 ((a * 5) + b)) ((rf3 3) - (tm2 ((a * 5) + b)))))), (4, .int (nI (tm2 ((a * 5) + b)))), (2, .int (nI a)), (0, .ref (G.2.2 43)), (1, .ref (G.2.2 8))]) S.1 S.2.1 dX2_chooseQuestion_103 hl (k := 2) rfl (u_inc1 b) (by decide) rfl (fun ls hl => ?_)
                  refine lv_goto (tgt := 36) S.1 S.2.1 dX2_chooseQuestion_106 (by decide) ?_
                  exact ih36 (b + 1) (fu (fu rf3 4 ((10 * a) + b)) 5 (max (tm2 ((a * 5) + b)) ((rf3 3) - (tm2 ((a * 5) + b))))) (by omega) (by omega) (by
                      rw [e3]
                      first
                        | (rw [fu_ne (by decide), fu_eq, fu_eq, e1]
                           exact (qU_1 (by first | (left; rw [← i5]; assumption) | (right; rw [← i5]; omega)) i6).symm)
                        | (rw [qU_2 (by rw [← i5]; assumption) (by rw [← i5]; omega)]; exact i5)) (by rw [e3]; exact qU_S i6 (by omega) (by omega) e2) (by first | exact i7 | (rw [fu_ne (by decide), fu_ne (by decide)]; exact i7)) _ _ _ Z (lv_sub hl [0, 3, 4, 5] rfl)
                · skip
                  have e5 : (qE (qB w a (qA w a) (b - a - 1))).2 ≤ 120 := qE_le (by rw [← i5]; exact c_6) i6
                  have e6 : rf3 5 ≤ 120 := by rw [← i5] at e5; exact e5
                  refine lv_iload S.1 S.2.1 dX2_chooseQuestion_78 (lv_at hl 0 rfl) ?_
                  refine lv_aload_n S.1 S.2.1 dX2_chooseQuestion_80 rfl (lv_at hl 4 rfl) ?_
                  refine ug_i S hK Z (j := 5) (by decide) rfl rfl rfl (by decide) iX2_chooseQuestion_X2 qX2_chooseQuestion_63 dX2_chooseQuestion_81 ?_
                  refine utop (y := (nI (rf3 5))) ((uAr_o (uAr (uAr M 45 tm2) 43 rf3) 44 pl2 5 (a := 43) (by decide)).trans (uAr_g (uAr M 45 tm2) 43 rf3 5)) ?_
                  refine lv_icmp_ge (tgt := 103) S.1 S.2.1 dX2_chooseQuestion_84 (by decide) (fun c_7 => ?_) (fun c_7 => ?_)
                  · skip
                    have c_7 : (rf3 5) ≤ (max (tm2 ((a * 5) + b)) ((rf3 3) - (tm2 ((a * 5) + b)))) := (nI_leI (a := (rf3 5)) (b := (max (tm2 ((a * 5) + b)) ((rf3 3) - (tm2 ((a * 5) + b))))) (by omega) (by omega)).mp c_7
                    refine lv_iinc (v := (nI (b + 1))) (lv' := [(3, .int (nI (b + 1))), (5, .int (nI (max (tm2 ((a * 5) + b)) ((rf3 3) - (tm2 ((a * 5) + b)))))), (4, .int (nI (tm2 ((a * 5) + b)))), (2, .int (nI a)), (0, .ref (G.2.2 43)), (1, .ref (G.2.2 8))]) S.1 S.2.1 dX2_chooseQuestion_103 hl (k := 2) rfl (u_inc1 b) (by decide) rfl (fun ls hl => ?_)
                    refine lv_goto (tgt := 36) S.1 S.2.1 dX2_chooseQuestion_106 (by decide) ?_
                    exact ih36 (b + 1) rf3 (by omega) (by omega) (by
                        rw [e3]
                        first
                          | (rw [fu_ne (by decide), fu_eq, fu_eq, e1]
                             exact (qU_1 (by first | (left; rw [← i5]; assumption) | (right; rw [← i5]; omega)) i6).symm)
                          | (rw [qU_2 (by rw [← i5]; assumption) (by rw [← i5]; omega)]; exact i5)) (by rw [e3]; exact qU_S i6 (by omega) (by omega) e2) (by first | exact i7 | (rw [fu_ne (by decide), fu_ne (by decide)]; exact i7)) _ _ _ Z (lv_sub hl [0, 3, 4, 5] rfl)
                  · skip
                    have c_7 : ¬ (rf3 5) ≤ (max (tm2 ((a * 5) + b)) ((rf3 3) - (tm2 ((a * 5) + b)))) := fun z9 => c_7 ((nI_leI (a := (rf3 5)) (b := (max (tm2 ((a * 5) + b)) ((rf3 3) - (tm2 ((a * 5) + b))))) (by omega) (by omega)).mpr z9)
                    refine lv_aload_n S.1 S.2.1 dX2_chooseQuestion_87 rfl (lv_at hl 4 rfl) ?_
                    refine lv_bipush (v := 10) S.1 S.2.1 dX2_chooseQuestion_88 (by decide) ?_
                    refine lv_iload_n S.1 S.2.1 dX2_chooseQuestion_90 rfl (lv_at hl 3 rfl) ?_
                    refine lv_imul S.1 S.2.1 dX2_chooseQuestion_91 ?_
                    refine utop (pk_mul 10 a) ?_
                    refine lv_iload_n S.1 S.2.1 dX2_chooseQuestion_92 rfl (lv_at hl 2 rfl) ?_
                    refine lv_iadd S.1 S.2.1 dX2_chooseQuestion_93 ?_
                    refine utop (nI_add (10 * a) b) ?_
                    refine up_i S hK Z (j := 4) (by decide) rfl rfl rfl (by decide) iX2_chooseQuestion_X2 tyX2_ok nmX2 qX2_chooseQuestion_60 rfl rfl rfl dX2_chooseQuestion_94 (fun H locs Z => ?_)
                    have Z := uZ_eq ((uAr_c (uAr (uAr M 45 tm2) 43 rf3) 44 pl2 (a := 43) 4 (nI ((10 * a) + b)) (by decide)).trans (congrArg (fun X => uAr X 44 pl2) (uAr_s (uAr M 45 tm2) 43 rf3 4 ((10 * a) + b)))) Z
                    refine lv_aload_n S.1 S.2.1 dX2_chooseQuestion_97 rfl (lv_at hl 4 rfl) ?_
                    refine lv_iload S.1 S.2.1 dX2_chooseQuestion_98 (lv_at hl 0 rfl) ?_
                    refine up_i S hK Z (j := 5) (by decide) rfl rfl rfl (by decide) iX2_chooseQuestion_X2 tyX2_ok nmX2 qX2_chooseQuestion_63 rfl rfl rfl dX2_chooseQuestion_100 (fun H locs Z => ?_)
                    have Z := uZ_eq ((uAr_c (uAr (uAr M 45 tm2) 43 (fu rf3 4 ((10 * a) + b))) 44 pl2 (a := 43) 5 (nI (max (tm2 ((a * 5) + b)) ((rf3 3) - (tm2 ((a * 5) + b))))) (by decide)).trans (congrArg (fun X => uAr X 44 pl2) (uAr_s (uAr M 45 tm2) 43 (fu rf3 4 ((10 * a) + b)) 5 (max (tm2 ((a * 5) + b)) ((rf3 3) - (tm2 ((a * 5) + b))))))) Z
                    refine lv_iinc (v := (nI (b + 1))) (lv' := [(3, .int (nI (b + 1))), (5, .int (nI (max (tm2 ((a * 5) + b)) ((rf3 3) - (tm2 ((a * 5) + b)))))), (4, .int (nI (tm2 ((a * 5) + b)))), (2, .int (nI a)), (0, .ref (G.2.2 43)), (1, .ref (G.2.2 8))]) S.1 S.2.1 dX2_chooseQuestion_103 hl (k := 2) rfl (u_inc1 b) (by decide) rfl (fun ls hl => ?_)
                    refine lv_goto (tgt := 36) S.1 S.2.1 dX2_chooseQuestion_106 (by decide) ?_
                    exact ih36 (b + 1) (fu (fu rf3 4 ((10 * a) + b)) 5 (max (tm2 ((a * 5) + b)) ((rf3 3) - (tm2 ((a * 5) + b))))) (by omega) (by omega) (by
                        rw [e3]
                        first
                          | (rw [fu_ne (by decide), fu_eq, fu_eq, e1]
                             exact (qU_1 (by first | (left; rw [← i5]; assumption) | (right; rw [← i5]; omega)) i6).symm)
                          | (rw [qU_2 (by rw [← i5]; assumption) (by rw [← i5]; omega)]; exact i5)) (by rw [e3]; exact qU_S i6 (by omega) (by omega) e2) (by first | exact i7 | (rw [fu_ne (by decide), fu_ne (by decide)]; exact i7)) _ _ _ Z (lv_sub hl [0, 3, 4, 5] rfl)
          exact LP36 6 (a + 1) rf1 (by omega) (by omega) (by rw [show a + 1 - a - 1 = 0 from by omega]; exact i2) (by rw [show a + 1 - a - 1 = 0 from by omega]; exact i3) (by exact i4) _ _ _ Z (lv_sub hl [0, 1, 2, 3] rfl)
    exact LP27 6 0 (fu (fu rf2 4 4294967290) 5 4294967290) (by omega) (by omega) (by rw [fu_ne (by decide), fu_eq, fu_eq]; rfl) (by exact trivial) (by exact h1) _ _ _ Z (lv_sub hl [0, 1, 2] rfl)
  · skip
    have c_2 : ((fu (fu rf2 4 4294967290) 5 4294967290) 3) = 0 := (nI_eq (a := ((fu (fu rf2 4 4294967290) 5 4294967290) 3)) (b := 0) (by omega) (by omega)).mp c_2
    refine uret_v S hK Z hre hlk dX2_chooseQuestion_24 ?_
    have h2 : hCnt w 120 = 0 := by omega
    rw [if_pos h2, if_pos h2]
    exact ⟨(uAr_o _ _ _ _ (by decide)).trans ((uAr_g _ _ _ _).trans (by rw [fu_ne (by decide), fu_eq]; exact n6)), (uAr_o _ _ _ _ (by decide)).trans ((uAr_g _ _ _ _).trans (by rw [fu_eq]; exact n6)), uSm_r (uSm_r (uSm_r (uSm_rf 43 46 M) (by decide) (by decide)) (by decide) (by decide)) (by decide) (by decide)⟩
