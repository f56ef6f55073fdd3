def fsOk (sl : Nat) (fs : Int32) : Prop := (sl = 0 ∧ fs = -6) ∨ (0 < sl ∧ ∃ j, j < 1000 ∧ fs = nI j)
theorem nI_gez {j : Nat} (h : j < 1000) : ¬ nI j < 0 := nI_pos (by omega)
theorem m6_lt : (-6 : Int32) < 0 := by decide
/-- the acts laid out: which, and that they can be -/
def laid (A V T Q : Nat → Nat) (m : Nat) : Prop := ∀ e, e < m → A e ≤ 4 ∧ acIn (A e) (V e) (T e) (Q e)
/-- how far the reference's going is the trial's -/
def rIs (s : Nat → Nat) (w0 : Nat → Nat → Nat) (e : Nat) (w : Nat → Nat → Nat) (sl cm : Nat) (ba wy fs ft : Int32) : Prop := ∃ a, ((w, a, ba, wy, sl, fs, ft, cm) : tS) = tRun s (t0 w0) e ∧ (ba = -6 → a = e ∧ wy = -6)
theorem rIs_ok {s A V T Q : Nat → Nat} {w0 w : Nat → Nat → Nat} {e m sl cm : Nat} {wy fs ft : Int32} (h : rIs s w0 e w sl cm (-6) wy fs ft) (hg : gd s A V T Q m) (he : e < m) (h0 : (ac w (A e) (V e) (T e) (Q e)).1 = 0) : rIs s w0 (e + 1) (ac w (A e) (V e) (T e) (Q e)).2 (if A e = 1 then sl + 1 else sl) (if A e = 1 then cm + wPrice w (T e) else cm) (-6) (-6) (if A e = 1 then (if sl = 0 then nI e else fs) else fs) (if A e = 1 then (if sl = 0 then nI (T e) else ft) else ft) := by
  obtain ⟨a, h1, h2⟩ := h
  obtain ⟨rfl, rfl⟩ := h2 rfl
  obtain ⟨g1, g2, g3, g4⟩ := hg a he
  have h3 := tRun_go (p := pPos s a) h1 rfl rfl
  refine ⟨a + 1, ?_, fun _ => ⟨rfl, rfl⟩⟩
  rw [← h3]
  unfold tAct
  rw [← g1] at g2 g3 g4 ⊢
  rw [← tStep_rel (k := V a) (t := T a) (q := Q a) (by rw [g1]; exact pKind_le _ _) g2 g3 g4, tStep_ok (by exact h0)]
theorem rIs_no {s A V T Q : Nat → Nat} {w0 w : Nat → Nat → Nat} {e m sl cm : Nat} {wy fs ft : Int32} (h : rIs s w0 e w sl cm (-6) wy fs ft) (hg : gd s A V T Q m) (he : e < m) (hm : m ≤ 60) (h0 : ¬ (ac w (A e) (V e) (T e) (Q e)).1 = 0) : rIs s w0 (e + 1) w sl cm (nI e) (nI (ac w (A e) (V e) (T e) (Q e)).1) fs ft := by
  obtain ⟨a, h1, h2⟩ := h
  obtain ⟨rfl, rfl⟩ := h2 rfl
  obtain ⟨g1, g2, g3, g4⟩ := hg a he
  have h3 := tRun_go (p := pPos s a) h1 rfl rfl
  refine ⟨a, ?_, fun z => absurd z (nI_nm6 (by omega))⟩
  rw [← h3]
  unfold tAct
  rw [← g1] at g2 g3 g4 ⊢
  rw [← tStep_rel (k := V a) (t := T a) (q := Q a) (by rw [g1]; exact pKind_le _ _) g2 g3 g4, tStep_no (by exact h0)]
  rw [ac_no h0]
theorem laid_of {s A V T Q : Nat → Nat} {n e : Nat} (hF : cFa s n = none) (hR : cRun s n = 0) (hg : gd s A V T Q e) (he : pPos s e = n) : laid A V T Q e := by
  have hp : ∀ d j, j + d = e → pPos s j + d ≤ n := by
    intro d
    induction d with
    | zero => intro j hj; rw [← he, show j = e from by omega]; omega
    | succ d ih =>
      intro j hj
      have h1 := ih (j + 1) (by omega)
      rw [pPos] at h1
      have := pLen_pos (pKind s (pPos s j))
      omega
  have hr : ∀ j, j ≤ e → cRun s (pPos s j) = 0 := by
    intro j
    induction j with
    | zero => intro _; rfl
    | succ j ih =>
      intro hj
      have h1 := hp (e - j) j (by omega)
      rw [pPos]
      exact (pVal_of hF hR (by omega) (ih (by omega))).2.2
  intro j hj
  have h1 := hp (e - j) j (by omega)
  have h2 := pVal_in (pVal_of hF hR (show pPos s j < n by omega) (hr j (by omega))).1
  obtain ⟨g1, g2, g3, g4⟩ := hg j hj
  rw [g1]
  refine ⟨pKind_le _ _, fun z => ?_, fun z => ?_, fun z => ?_⟩
  · rw [g2 (by omega), g3 (by omega)]; exact h2.1 z
  · rw [g2 (by omega), g3 (by omega), g4 z]; exact h2.2.1 z
  · rw [g2 (by omega)]; exact h2.2.2 z
theorem qX12_goOne_183 : Cond.fieldLink RX12 183 (TX12 18).1 (TX12 18).2.1 (TX12 18).2.2.1 ∈ wsX12_goOne := List.mem_of_getElem? (i := 1) rfl
theorem iX12_goOne_X12 : ∀ w ∈ wsX120, w ∈ wsX12_goOne := fun _ h => List.mem_cons_of_mem _ (List.mem_append_right _ h)
theorem qX12_goOne_37 : Cond.fieldLink RX12 37 (TX12 13).1 (TX12 13).2.1 (TX12 13).2.2.1 ∈ wsX12_goOne := List.mem_of_getElem? (i := 2) rfl
theorem qX12_goOne_40 : Cond.fieldLink RX12 40 (TX12 14).1 (TX12 14).2.1 (TX12 14).2.2.1 ∈ wsX12_goOne := List.mem_of_getElem? (i := 3) rfl
theorem qX12_goOne_43 : Cond.fieldLink RX12 43 (TX12 15).1 (TX12 15).2.1 (TX12 15).2.2.1 ∈ wsX12_goOne := List.mem_of_getElem? (i := 4) rfl
theorem qX12_goOne_46 : Cond.fieldLink RX12 46 (TX12 16).1 (TX12 16).2.1 (TX12 16).2.2.1 ∈ wsX12_goOne := List.mem_of_getElem? (i := 5) rfl
theorem qX12_goOne_207 : Cond.fieldLink RX12 207 (TX12 23).1 (TX12 23).2.1 (TX12 23).2.2.1 ∈ wsX12_goOne := List.mem_of_getElem? (i := 6) rfl
theorem qX12_goOne_210 : Cond.fieldLink RX12 210 (TX12 24).1 (TX12 24).2.1 (TX12 24).2.2.1 ∈ wsX12_goOne := List.mem_of_getElem? (i := 7) rfl
theorem qX12_goNights_213 : Cond.fieldLink RX12 213 (TX12 21).1 (TX12 21).2.1 (TX12 21).2.2.1 ∈ wsX12_goNights := List.mem_of_getElem? (i := 1) rfl
theorem iX12_goNights_X12 : ∀ w ∈ wsX120, w ∈ wsX12_goNights := fun _ h => List.mem_cons_of_mem _ (List.mem_append_right _ h)
theorem qX12_goNights_216 : Cond.fieldLink RX12 216 (TX12 22).1 (TX12 22).2.1 (TX12 22).2.2.1 ∈ wsX12_goNights := List.mem_of_getElem? (i := 2) rfl
theorem qX12_goNights_207 : Cond.fieldLink RX12 207 (TX12 23).1 (TX12 23).2.1 (TX12 23).2.2.1 ∈ wsX12_goNights := List.mem_of_getElem? (i := 3) rfl
theorem qX12_goNights_210 : Cond.fieldLink RX12 210 (TX12 24).1 (TX12 24).2.1 (TX12 24).2.2.1 ∈ wsX12_goNights := List.mem_of_getElem? (i := 4) rfl
theorem qX12_goNights_183 : Cond.fieldLink RX12 183 (TX12 18).1 (TX12 18).2.1 (TX12 18).2.2.1 ∈ wsX12_goNights := List.mem_of_getElem? (i := 5) rfl
theorem qX12_goNights_186 : Cond.fieldLink RX12 186 (TX12 19).1 (TX12 19).2.1 (TX12 19).2.2.1 ∈ wsX12_goNights := List.mem_of_getElem? (i := 6) rfl
theorem qX12_goNights_124 : Cond.fieldLink RX12 124 (TX12 17).1 (TX12 17).2.1 (TX12 17).2.2.1 ∈ wsX12_goNights := List.mem_of_getElem? (i := 7) rfl
theorem qX12_goNights_37 : Cond.fieldLink RX12 37 (TX12 13).1 (TX12 13).2.1 (TX12 13).2.2.1 ∈ wsX12_goNights := List.mem_of_getElem? (i := 8) rfl
theorem qX12_goNights_40 : Cond.fieldLink RX12 40 (TX12 14).1 (TX12 14).2.1 (TX12 14).2.2.1 ∈ wsX12_goNights := List.mem_of_getElem? (i := 9) rfl
theorem qX12_goNights_43 : Cond.fieldLink RX12 43 (TX12 15).1 (TX12 15).2.1 (TX12 15).2.2.1 ∈ wsX12_goNights := List.mem_of_getElem? (i := 10) rfl
theorem qX12_goNights_46 : Cond.fieldLink RX12 46 (TX12 16).1 (TX12 16).2.1 (TX12 16).2.2.1 ∈ wsX12_goNights := List.mem_of_getElem? (i := 11) rfl
set_option maxHeartbeats 4000000 in
set_option maxRecDepth 100000 in
theorem c_X12_goOneS (l : Launch) (G : uG) (e : Nat) (he : e < 60) (M : uM) (A V T Q : Nat → Nat) (hA81 : ∀ i, M.1 81 i = nI (A i)) (hV82 : ∀ i, M.1 82 i = nI (V i)) (hT83 : ∀ i, M.1 83 i = nI (T i)) (hQ84 : ∀ i, M.1 84 i = nI (Q i)) (w : Nat → Nat → Nat) (hw : wOk w) (sl cm : Nat) (ba wy fs ft : Int32) (hk : A e = 1) (hkd : A e ≤ 4) (hi : acIn (A e) (V e) (T e) (Q e)) (h0 : (ac w (A e) (V e) (T e) (Q e)).1 = 0) (hsl : sl < 1000) (hfs : fsOk sl fs) : CTv l G yX12_goOne wsX12_goOne 3 70 [.ref (G.2.2 71), .int (nI e)] (uPM (uMn M sl cm ba wy fs ft) w) (fun M2 => M2 = uPM (uMn M (sl + 1) (cm + wPrice w (T e)) ba wy (if sl = 0 then nI e else fs) (if sl = 0 then nI (T e) else ft)) (ac w (A e) (V e) (T e) (Q e)).2) := by
  refine ustart_v (cc := cX12_goOne) (maxL := 3) (ret := none) (own := RX12) rfl (by decide) rfl (Nat.le_of_ble_eq_true rfl) ?_
  intro xp xe xs xm xa xb xt xc xA ls S hK hA Z hre hlk hl
  have hl : lv_has ls 3 [(0, .ref (G.2.2 71)), (1, .int (nI e))] := hl
  refine lv_aload_n S.1 S.2.1 dX12_goOne_0 rfl (lv_at hl 0 rfl) ?_
  refine ug_i S hK Z (j := 18) (by decide) rfl rfl rfl (by decide) iX12_goOne_X12 qX12_goOne_183 dX12_goOne_1 ?_
  refine utop (y := (nI sl)) ((uPM_o (uMn M sl cm ba wy fs ft) w (a := 71) (i := 18) (by unfold mO; omega)).trans rfl) ?_
  refine lv_istore_n (lv' := [(2, .int (nI sl)), (0, .ref (G.2.2 71)), (1, .int (nI e))]) S.1 S.2.1 dX12_goOne_4 rfl hl (by decide) rfl (fun ls hl => ?_)
  refine lv_aload_n S.1 S.2.1 dX12_goOne_5 rfl (lv_at hl 1 rfl) ?_
  refine lv_aload_n S.1 S.2.1 dX12_goOne_6 rfl (lv_at hl 1 rfl) ?_
  refine ug_r S hK Z (j := 13) 81 (by decide) rfl rfl rfl (by decide) iX12_goOne_X12 qX12_goOne_37 dX12_goOne_7 ?_
  refine lv_iload_n S.1 S.2.1 dX12_goOne_10 rfl (lv_at hl 2 rfl) ?_
  refine ua_ild S hK Z e (by decide) rfl rfl (by omega) dX12_goOne_11 ?_
  refine utop (y := (nI (A e))) ((uPM_o (uMn M sl cm ba wy fs ft) w (a := 81) (i := e) (by unfold mO; omega)).trans ((uMn_o M sl cm ba wy fs ft (a := 81) e (by decide)).trans (hA81 e))) ?_
  refine lv_aload_n S.1 S.2.1 dX12_goOne_12 rfl (lv_at hl 1 rfl) ?_
  refine ug_r S hK Z (j := 14) 82 (by decide) rfl rfl rfl (by decide) iX12_goOne_X12 qX12_goOne_40 dX12_goOne_13 ?_
  refine lv_iload_n S.1 S.2.1 dX12_goOne_16 rfl (lv_at hl 2 rfl) ?_
  refine ua_ild S hK Z e (by decide) rfl rfl (by omega) dX12_goOne_17 ?_
  refine utop (y := (nI (V e))) ((uPM_o (uMn M sl cm ba wy fs ft) w (a := 82) (i := e) (by unfold mO; omega)).trans ((uMn_o M sl cm ba wy fs ft (a := 82) e (by decide)).trans (hV82 e))) ?_
  refine lv_aload_n S.1 S.2.1 dX12_goOne_18 rfl (lv_at hl 1 rfl) ?_
  refine ug_r S hK Z (j := 15) 83 (by decide) rfl rfl rfl (by decide) iX12_goOne_X12 qX12_goOne_43 dX12_goOne_19 ?_
  refine lv_iload_n S.1 S.2.1 dX12_goOne_22 rfl (lv_at hl 2 rfl) ?_
  refine ua_ild S hK Z e (by decide) rfl rfl (by omega) dX12_goOne_23 ?_
  refine utop (y := (nI (T e))) ((uPM_o (uMn M sl cm ba wy fs ft) w (a := 83) (i := e) (by unfold mO; omega)).trans ((uMn_o M sl cm ba wy fs ft (a := 83) e (by decide)).trans (hT83 e))) ?_
  refine lv_aload_n S.1 S.2.1 dX12_goOne_24 rfl (lv_at hl 1 rfl) ?_
  refine ug_r S hK Z (j := 16) 84 (by decide) rfl rfl rfl (by decide) iX12_goOne_X12 qX12_goOne_46 dX12_goOne_25 ?_
  refine lv_iload_n S.1 S.2.1 dX12_goOne_28 rfl (lv_at hl 2 rfl) ?_
  refine ua_ild S hK Z e (by decide) rfl rfl (by omega) dX12_goOne_29 ?_
  refine utop (y := (nI (Q e))) ((uPM_o (uMn M sl cm ba wy fs ft) w (a := 84) (i := e) (by unfold mO; omega)).trans ((uMn_o M sl cm ba wy fs ft (a := 84) e (by decide)).trans (hQ84 e))) ?_
  refine ud_Vv (As := [.int (nI (A e)), .int (nI (V e)), .int (nI (T e)), .int (nI (Q e))]) (rest := []) S hK hA Z ((by have h9 := c_X12_happen l G (A e) (V e) (T e) (Q e) hkd hi M w hw sl cm ba wy fs ft h0; rw [if_pos hk, if_pos hk] at h9; exact h9)) (cwV 4 S.2.2.2.2 gX12_goOne_X12_happen rfl rfl rfl (by decide +kernel) ⟨Nat.le_of_ble_eq_true rfl, Nat.le_of_ble_eq_true rfl⟩) (by decide) rfl rfl rfl hl.1 rfl (Nat.le_of_ble_eq_true rfl) dX12_goOne_30 ⟨Nat.zero_le _, Nat.zero_le _⟩ (fun H locs Z => ?_)
  refine lv_aload_n S.1 S.2.1 dX12_goOne_33 rfl (lv_at hl 1 rfl) ?_
  refine ug_i S hK Z (j := 18) (by decide) rfl rfl rfl (by decide) iX12_goOne_X12 qX12_goOne_183 dX12_goOne_34 ?_
  refine utop (y := (nI (sl + 1))) ((uPM_o (uMn M (sl + 1) (cm + wPrice w (T e)) ba wy fs ft) ((ac w (A e) (V e) (T e) (Q e)).2) (a := 71) (i := 18) (by unfold mO; omega)).trans rfl) ?_
  refine lv_iload_n S.1 S.2.1 dX12_goOne_37 rfl (lv_at hl 0 rfl) ?_
  refine lv_icmp_le (tgt := 63) S.1 S.2.1 dX12_goOne_38 (by decide) (fun c_2 => ?_) (fun c_2 => ?_)
  · skip
    have c_2 : (sl + 1) ≤ sl := (nI_leI (a := (sl + 1)) (b := sl) (by omega) (by omega)).mp c_2
    omega
  · skip
    have c_2 : ¬ (sl + 1) ≤ sl := fun z9 => c_2 ((nI_leI (a := (sl + 1)) (b := sl) (by omega) (by omega)).mpr z9)
    refine lv_aload_n S.1 S.2.1 dX12_goOne_41 rfl (lv_at hl 1 rfl) ?_
    refine ug_i S hK Z (j := 23) (by decide) rfl rfl rfl (by decide) iX12_goOne_X12 qX12_goOne_207 dX12_goOne_42 ?_
    refine utop (y := fs) ((uPM_o (uMn M (sl + 1) (cm + wPrice w (T e)) ba wy fs ft) ((ac w (A e) (V e) (T e) (Q e)).2) (a := 71) (i := 23) (by unfold mO; omega)).trans rfl) ?_
    refine lv_if_ge (tgt := 63) S.1 S.2.1 dX12_goOne_45 (by decide) (fun c_3 => ?_) (fun c_3 => ?_)
    · skip
      refine uret_v S hK Z hre hlk dX12_goOne_63 ?_
      have hs0 : ¬ sl = 0 := by
        rcases hfs with z | ⟨hp, -⟩
        · exact fun _ => absurd (by assumption : (0 : Int32) ≤ fs) (by rw [z.2]; decide)
        · omega
      rw [if_neg hs0, if_neg hs0]
    · skip
      refine lv_aload_n S.1 S.2.1 dX12_goOne_48 rfl (lv_at hl 1 rfl) ?_
      refine lv_iload_n S.1 S.2.1 dX12_goOne_49 rfl (lv_at hl 2 rfl) ?_
      refine up_i S hK Z (j := 23) (by decide) rfl rfl rfl (by decide) iX12_goOne_X12 tyX12_ok nmX12 qX12_goOne_207 rfl rfl rfl dX12_goOne_50 (fun H locs Z => ?_)
      have Z := uZ_eq ((uPM_c (uMn M (sl + 1) (cm + wPrice w (T e)) ba wy fs ft) ((ac w (A e) (V e) (T e) (Q e)).2) (a := 71) (i := 23) (nI e) (by unfold mO; omega)).trans (congrArg (fun X => uPM X ((ac w (A e) (V e) (T e) (Q e)).2)) (uMn_s23 M (sl + 1) (cm + wPrice w (T e)) ba wy fs ft (nI e)))) Z
      refine lv_aload_n S.1 S.2.1 dX12_goOne_53 rfl (lv_at hl 1 rfl) ?_
      refine lv_aload_n S.1 S.2.1 dX12_goOne_54 rfl (lv_at hl 1 rfl) ?_
      refine ug_r S hK Z (j := 15) 83 (by decide) rfl rfl rfl (by decide) iX12_goOne_X12 qX12_goOne_43 dX12_goOne_55 ?_
      refine lv_iload_n S.1 S.2.1 dX12_goOne_58 rfl (lv_at hl 2 rfl) ?_
      refine ua_ild S hK Z e (by decide) rfl rfl (by omega) dX12_goOne_59 ?_
      refine utop (y := (nI (T e))) ((uPM_o (uMn M (sl + 1) (cm + wPrice w (T e)) ba wy (nI e) ft) ((ac w (A e) (V e) (T e) (Q e)).2) (a := 83) (i := e) (by unfold mO; omega)).trans ((uMn_o M (sl + 1) (cm + wPrice w (T e)) ba wy (nI e) ft (a := 83) e (by decide)).trans (hT83 e))) ?_
      refine up_i S hK Z (j := 24) (by decide) rfl rfl rfl (by decide) iX12_goOne_X12 tyX12_ok nmX12 qX12_goOne_210 rfl rfl rfl dX12_goOne_60 (fun H locs Z => ?_)
      have Z := uZ_eq ((uPM_c (uMn M (sl + 1) (cm + wPrice w (T e)) ba wy (nI e) ft) ((ac w (A e) (V e) (T e) (Q e)).2) (a := 71) (i := 24) (nI (T e)) (by unfold mO; omega)).trans (congrArg (fun X => uPM X ((ac w (A e) (V e) (T e) (Q e)).2)) (uMn_s24 M (sl + 1) (cm + wPrice w (T e)) ba wy (nI e) ft (nI (T e))))) Z
      refine uret_v S hK Z hre hlk dX12_goOne_63 ?_
      have hs0 : sl = 0 := by
        rcases hfs with z | ⟨-, j, hj, rfl⟩
        · exact z.1
        · exact absurd (Int32.not_le.mp (by assumption)) (nI_gez hj)
      rw [if_pos hs0, if_pos hs0]
set_option maxHeartbeats 4000000 in
set_option maxRecDepth 100000 in
theorem c_X12_goOneN (l : Launch) (G : uG) (e : Nat) (he : e < 60) (M : uM) (A V T Q : Nat → Nat) (hA81 : ∀ i, M.1 81 i = nI (A i)) (hV82 : ∀ i, M.1 82 i = nI (V i)) (hT83 : ∀ i, M.1 83 i = nI (T i)) (hQ84 : ∀ i, M.1 84 i = nI (Q i)) (w : Nat → Nat → Nat) (hw : wOk w) (sl cm : Nat) (ba wy fs ft : Int32) (hk : ¬ A e = 1) (hkd : A e ≤ 4) (hi : acIn (A e) (V e) (T e) (Q e)) (h0 : (ac w (A e) (V e) (T e) (Q e)).1 = 0) (hsl : sl < 1000) (hfs : fsOk sl fs) : CTv l G yX12_goOne wsX12_goOne 3 70 [.ref (G.2.2 71), .int (nI e)] (uPM (uMn M sl cm ba wy fs ft) w) (fun M2 => M2 = uPM (uMn M sl cm ba wy fs ft) (ac w (A e) (V e) (T e) (Q e)).2) := by
  refine ustart_v (cc := cX12_goOne) (maxL := 3) (ret := none) (own := RX12) rfl (by decide) rfl (Nat.le_of_ble_eq_true rfl) ?_
  intro xp xe xs xm xa xb xt xc xA ls S hK hA Z hre hlk hl
  have hl : lv_has ls 3 [(0, .ref (G.2.2 71)), (1, .int (nI e))] := hl
  refine lv_aload_n S.1 S.2.1 dX12_goOne_0 rfl (lv_at hl 0 rfl) ?_
  refine ug_i S hK Z (j := 18) (by decide) rfl rfl rfl (by decide) iX12_goOne_X12 qX12_goOne_183 dX12_goOne_1 ?_
  refine utop (y := (nI sl)) ((uPM_o (uMn M sl cm ba wy fs ft) w (a := 71) (i := 18) (by unfold mO; omega)).trans rfl) ?_
  refine lv_istore_n (lv' := [(2, .int (nI sl)), (0, .ref (G.2.2 71)), (1, .int (nI e))]) S.1 S.2.1 dX12_goOne_4 rfl hl (by decide) rfl (fun ls hl => ?_)
  refine lv_aload_n S.1 S.2.1 dX12_goOne_5 rfl (lv_at hl 1 rfl) ?_
  refine lv_aload_n S.1 S.2.1 dX12_goOne_6 rfl (lv_at hl 1 rfl) ?_
  refine ug_r S hK Z (j := 13) 81 (by decide) rfl rfl rfl (by decide) iX12_goOne_X12 qX12_goOne_37 dX12_goOne_7 ?_
  refine lv_iload_n S.1 S.2.1 dX12_goOne_10 rfl (lv_at hl 2 rfl) ?_
  refine ua_ild S hK Z e (by decide) rfl rfl (by omega) dX12_goOne_11 ?_
  refine utop (y := (nI (A e))) ((uPM_o (uMn M sl cm ba wy fs ft) w (a := 81) (i := e) (by unfold mO; omega)).trans ((uMn_o M sl cm ba wy fs ft (a := 81) e (by decide)).trans (hA81 e))) ?_
  refine lv_aload_n S.1 S.2.1 dX12_goOne_12 rfl (lv_at hl 1 rfl) ?_
  refine ug_r S hK Z (j := 14) 82 (by decide) rfl rfl rfl (by decide) iX12_goOne_X12 qX12_goOne_40 dX12_goOne_13 ?_
  refine lv_iload_n S.1 S.2.1 dX12_goOne_16 rfl (lv_at hl 2 rfl) ?_
  refine ua_ild S hK Z e (by decide) rfl rfl (by omega) dX12_goOne_17 ?_
  refine utop (y := (nI (V e))) ((uPM_o (uMn M sl cm ba wy fs ft) w (a := 82) (i := e) (by unfold mO; omega)).trans ((uMn_o M sl cm ba wy fs ft (a := 82) e (by decide)).trans (hV82 e))) ?_
  refine lv_aload_n S.1 S.2.1 dX12_goOne_18 rfl (lv_at hl 1 rfl) ?_
  refine ug_r S hK Z (j := 15) 83 (by decide) rfl rfl rfl (by decide) iX12_goOne_X12 qX12_goOne_43 dX12_goOne_19 ?_
  refine lv_iload_n S.1 S.2.1 dX12_goOne_22 rfl (lv_at hl 2 rfl) ?_
  refine ua_ild S hK Z e (by decide) rfl rfl (by omega) dX12_goOne_23 ?_
  refine utop (y := (nI (T e))) ((uPM_o (uMn M sl cm ba wy fs ft) w (a := 83) (i := e) (by unfold mO; omega)).trans ((uMn_o M sl cm ba wy fs ft (a := 83) e (by decide)).trans (hT83 e))) ?_
  refine lv_aload_n S.1 S.2.1 dX12_goOne_24 rfl (lv_at hl 1 rfl) ?_
  refine ug_r S hK Z (j := 16) 84 (by decide) rfl rfl rfl (by decide) iX12_goOne_X12 qX12_goOne_46 dX12_goOne_25 ?_
  refine lv_iload_n S.1 S.2.1 dX12_goOne_28 rfl (lv_at hl 2 rfl) ?_
  refine ua_ild S hK Z e (by decide) rfl rfl (by omega) dX12_goOne_29 ?_
  refine utop (y := (nI (Q e))) ((uPM_o (uMn M sl cm ba wy fs ft) w (a := 84) (i := e) (by unfold mO; omega)).trans ((uMn_o M sl cm ba wy fs ft (a := 84) e (by decide)).trans (hQ84 e))) ?_
  refine ud_Vv (As := [.int (nI (A e)), .int (nI (V e)), .int (nI (T e)), .int (nI (Q e))]) (rest := []) S hK hA Z ((by have h9 := c_X12_happen l G (A e) (V e) (T e) (Q e) hkd hi M w hw sl cm ba wy fs ft h0; rw [if_neg hk, if_neg hk] at h9; exact h9)) (cwV 4 S.2.2.2.2 gX12_goOne_X12_happen rfl rfl rfl (by decide +kernel) ⟨Nat.le_of_ble_eq_true rfl, Nat.le_of_ble_eq_true rfl⟩) (by decide) rfl rfl rfl hl.1 rfl (Nat.le_of_ble_eq_true rfl) dX12_goOne_30 ⟨Nat.zero_le _, Nat.zero_le _⟩ (fun H locs Z => ?_)
  refine lv_aload_n S.1 S.2.1 dX12_goOne_33 rfl (lv_at hl 1 rfl) ?_
  refine ug_i S hK Z (j := 18) (by decide) rfl rfl rfl (by decide) iX12_goOne_X12 qX12_goOne_183 dX12_goOne_34 ?_
  refine utop (y := (nI sl)) ((uPM_o (uMn M sl cm ba wy fs ft) ((ac w (A e) (V e) (T e) (Q e)).2) (a := 71) (i := 18) (by unfold mO; omega)).trans rfl) ?_
  refine lv_iload_n S.1 S.2.1 dX12_goOne_37 rfl (lv_at hl 0 rfl) ?_
  refine lv_icmp_le (tgt := 63) S.1 S.2.1 dX12_goOne_38 (by decide) (fun c_2 => ?_) (fun c_2 => ?_)
  · skip
    have c_2 : sl ≤ sl := (nI_leI (a := sl) (b := sl) (by omega) (by omega)).mp c_2
    refine uret_v S hK Z hre hlk dX12_goOne_63 ?_
    exact rfl
  · skip
    have c_2 : ¬ sl ≤ sl := fun z9 => c_2 ((nI_leI (a := sl) (b := sl) (by omega) (by omega)).mpr z9)
    omega
theorem c_X12_goOne (l : Launch) (G : uG) (e : Nat) (he : e < 60) (M : uM) (A V T Q : Nat → Nat) (hA81 : ∀ i, M.1 81 i = nI (A i)) (hV82 : ∀ i, M.1 82 i = nI (V i)) (hT83 : ∀ i, M.1 83 i = nI (T i)) (hQ84 : ∀ i, M.1 84 i = nI (Q i)) (w : Nat → Nat → Nat) (hw : wOk w) (sl cm : Nat) (ba wy fs ft : Int32) (hkd : A e ≤ 4) (hi : acIn (A e) (V e) (T e) (Q e)) (h0 : (ac w (A e) (V e) (T e) (Q e)).1 = 0) (hsl : sl < 1000) (hfs : fsOk sl fs) : CTv l G yX12_goOne wsX12_goOne 3 70 [.ref (G.2.2 71), .int (nI e)] (uPM (uMn M sl cm ba wy fs ft) w) (fun M2 => M2 = uPM (uMn M (if A e = 1 then sl + 1 else sl) (if A e = 1 then cm + wPrice w (T e) else cm) ba wy (if A e = 1 then (if sl = 0 then nI e else fs) else fs) (if A e = 1 then (if sl = 0 then nI (T e) else ft) else ft)) (ac w (A e) (V e) (T e) (Q e)).2) := by
  by_cases hk : A e = 1
  · rw [if_pos hk, if_pos hk, if_pos hk, if_pos hk]
    exact c_X12_goOneS l G e he M A V T Q hA81 hV82 hT83 hQ84 w hw sl cm ba wy fs ft hk hkd hi h0 hsl hfs
  · rw [if_neg hk, if_neg hk, if_neg hk, if_neg hk]
    exact c_X12_goOneN l G e he M A V T Q hA81 hV82 hT83 hQ84 w hw sl cm ba wy fs ft hk hkd hi h0 hsl hfs
set_option maxHeartbeats 4000000 in
set_option maxRecDepth 100000 in
theorem c_X12_goNights (l : Launch) (G : uG) (s : Nat → Nat) (m : Nat) (hm60 : m ≤ 60) (M : uM) (A V T Q : Nat → Nat) (hA81 : ∀ i, M.1 81 i = nI (A i)) (hV82 : ∀ i, M.1 82 i = nI (V i)) (hT83 : ∀ i, M.1 83 i = nI (T i)) (hQ84 : ∀ i, M.1 84 i = nI (Q i)) (hm17 : M.1 71 17 = nI m) (w : Nat → Nat → Nat) (hw : wOk w) (sl cm : Nat) (ba wy fs ft : Int32) (hg : gd s A V T Q m) (hlaid : laid A V T Q m) : CTv l G yX12_goNights wsX12_goNights 4 92 [.ref (G.2.2 71)] (uPM (uMn M sl cm ba wy fs ft) w) (fun M2 => ∃ e w1 sl1 cm1 ba1 wy1 fs1 ft1, M2 = uPM (uMn M sl1 cm1 ba1 wy1 fs1 ft1) w1 ∧ e ≤ m ∧ rIs s w e w1 sl1 cm1 ba1 wy1 fs1 ft1 ∧ wOk w1 ∧ sameR w1 w ∧ ((ba1 = -6 ∧ e = m) ∨ ∃ j, j < 1000 ∧ ba1 = nI j)) := by
  refine ustart_v (cc := cX12_goNights) (maxL := 3) (ret := none) (own := RX12) rfl (by decide) rfl (Nat.le_of_ble_eq_true rfl) ?_
  intro xp xe xs xm xa xb xt xc xA ls S hK hA Z hre hlk hl
  have hl : lv_has ls 3 [(0, .ref (G.2.2 71))] := hl
  refine lv_aload_n S.1 S.2.1 dX12_goNights_0 rfl (lv_at hl 0 rfl) ?_
  refine lv_bipush (v := (-6)) S.1 S.2.1 dX12_goNights_1 (by decide) ?_
  refine up_i S hK Z (j := 21) (by decide) rfl rfl rfl (by decide) iX12_goNights_X12 tyX12_ok nmX12 qX12_goNights_213 rfl rfl rfl dX12_goNights_3 (fun H locs Z => ?_)
  have Z := uZ_eq ((uPM_c (uMn M sl cm ba wy fs ft) w (a := 71) (i := 21) (-6) (by unfold mO; omega)).trans (congrArg (fun X => uPM X w) (uMn_s21 M sl cm ba wy fs ft (-6)))) Z
  refine lv_aload_n S.1 S.2.1 dX12_goNights_6 rfl (lv_at hl 0 rfl) ?_
  refine lv_bipush (v := (-6)) S.1 S.2.1 dX12_goNights_7 (by decide) ?_
  refine up_i S hK Z (j := 22) (by decide) rfl rfl rfl (by decide) iX12_goNights_X12 tyX12_ok nmX12 qX12_goNights_216 rfl rfl rfl dX12_goNights_9 (fun H locs Z => ?_)
  have Z := uZ_eq ((uPM_c (uMn M sl cm (-6) wy fs ft) w (a := 71) (i := 22) (-6) (by unfold mO; omega)).trans (congrArg (fun X => uPM X w) (uMn_s22 M sl cm (-6) wy fs ft (-6)))) Z
  refine lv_aload_n S.1 S.2.1 dX12_goNights_12 rfl (lv_at hl 0 rfl) ?_
  refine lv_bipush (v := (-6)) S.1 S.2.1 dX12_goNights_13 (by decide) ?_
  refine up_i S hK Z (j := 23) (by decide) rfl rfl rfl (by decide) iX12_goNights_X12 tyX12_ok nmX12 qX12_goNights_207 rfl rfl rfl dX12_goNights_15 (fun H locs Z => ?_)
  have Z := uZ_eq ((uPM_c (uMn M sl cm (-6) (-6) fs ft) w (a := 71) (i := 23) (-6) (by unfold mO; omega)).trans (congrArg (fun X => uPM X w) (uMn_s23 M sl cm (-6) (-6) fs ft (-6)))) Z
  refine lv_aload_n S.1 S.2.1 dX12_goNights_18 rfl (lv_at hl 0 rfl) ?_
  refine lv_bipush (v := (-6)) S.1 S.2.1 dX12_goNights_19 (by decide) ?_
  refine up_i S hK Z (j := 24) (by decide) rfl rfl rfl (by decide) iX12_goNights_X12 tyX12_ok nmX12 qX12_goNights_210 rfl rfl rfl dX12_goNights_21 (fun H locs Z => ?_)
  have Z := uZ_eq ((uPM_c (uMn M sl cm (-6) (-6) (-6) ft) w (a := 71) (i := 24) (-6) (by unfold mO; omega)).trans (congrArg (fun X => uPM X w) (uMn_s24 M sl cm (-6) (-6) (-6) ft (-6)))) Z
  refine lv_aload_n S.1 S.2.1 dX12_goNights_24 rfl (lv_at hl 0 rfl) ?_
  refine lv_iconst (v := 0) S.1 S.2.1 dX12_goNights_25 (by decide) ?_
  refine up_i S hK Z (j := 18) (by decide) rfl rfl rfl (by decide) iX12_goNights_X12 tyX12_ok nmX12 qX12_goNights_183 rfl rfl rfl dX12_goNights_26 (fun H locs Z => ?_)
  have Z := uZ_eq ((uPM_c (uMn M sl cm (-6) (-6) (-6) (-6)) w (a := 71) (i := 18) (nI 0) (by unfold mO; omega)).trans (congrArg (fun X => uPM X w) (uMn_s18 M sl cm (-6) (-6) (-6) (-6) 0))) Z
  refine lv_aload_n S.1 S.2.1 dX12_goNights_29 rfl (lv_at hl 0 rfl) ?_
  refine lv_iconst (v := 0) S.1 S.2.1 dX12_goNights_30 (by decide) ?_
  refine up_i S hK Z (j := 19) (by decide) rfl rfl rfl (by decide) iX12_goNights_X12 tyX12_ok nmX12 qX12_goNights_186 rfl rfl rfl dX12_goNights_31 (fun H locs Z => ?_)
  have Z := uZ_eq ((uPM_c (uMn M 0 cm (-6) (-6) (-6) (-6)) w (a := 71) (i := 19) (nI 0) (by unfold mO; omega)).trans (congrArg (fun X => uPM X w) (uMn_s19 M 0 cm (-6) (-6) (-6) (-6) 0))) Z
  refine lv_iconst (v := 0) S.1 S.2.1 dX12_goNights_34 (by decide) ?_
  refine lv_istore_n (lv' := [(1, .int 0), (0, .ref (G.2.2 71))]) S.1 S.2.1 dX12_goNights_35 rfl hl (by decide) rfl (fun ls hl => ?_)
  have LP36 : ∀ (fU : Nat) (e : Nat) (w1 : Nat → Nat → Nat) (sl1 : Nat) (cm1 : Nat) (ba1 : Int32) (wy1 : Int32) (fs1 : Int32) (ft1 : Int32), (m < e + fU) → (e ≤ m) → (rIs s w e w1 sl1 cm1 ba1 wy1 fs1 ft1) → (wOk w1) → (ba1 = -6 ∨ ∃ j, j < 1000 ∧ ba1 = nI j) → (fsOk sl1 fs1) → (sl1 ≤ e) → (sameR w1 w) → ∀ (H : Heap) (locs : List Loc) (ls : Array Slot), uZ G xA (uPM (uMn M sl1 cm1 ba1 wy1 fs1 ft1) w1) xs.heap H locs → lv_has ls 3 [(1, .int (nI e)), (0, .ref (G.2.2 71))] → W xp l xe (uRm 4 92) xs xm xa xb xt xc H locs 0 0 (MQ xb (va_Qv (fun M2 => ∃ e w1 sl1 cm1 ba1 wy1 fs1 ft1, M2 = uPM (uMn M sl1 cm1 ba1 wy1 fs1 ft1) w1 ∧ e ≤ m ∧ rIs s w e w1 sl1 cm1 ba1 wy1 fs1 ft1 ∧ wOk w1 ∧ sameR w1 w ∧ ((ba1 = -6 ∧ e = m) ∨ ∃ j, j < 1000 ∧ ba1 = nI j)) (fun M' t => uB G M' t) xA) xa xs 0 0 xA) (F0 xm 36 ls []) := by
    intro fU
    induction fU with
    | zero =>
      intro e w1 sl1 cm1 ba1 wy1 fs1 ft1 hfl i1 i2 i3 i4 i5 i6 i7 H locs ls Z hl
      exfalso
      omega
    | succ fU ih36 =>
      intro e w1 sl1 cm1 ba1 wy1 fs1 ft1 hfl i1 i2 i3 i4 i5 i6 i7 H locs ls Z hl
      refine lv_iload_n S.1 S.2.1 dX12_goNights_36 rfl (lv_at hl 0 rfl) ?_
      refine lv_aload_n S.1 S.2.1 dX12_goNights_37 rfl (lv_at hl 1 rfl) ?_
      refine ug_i S hK Z (j := 17) (by decide) rfl rfl rfl (by decide) iX12_goNights_X12 qX12_goNights_124 dX12_goNights_38 ?_
      refine utop (y := (nI m)) ((uPM_o (uMn M sl1 cm1 ba1 wy1 fs1 ft1) w1 (a := 71) (i := 17) (by unfold mO; omega)).trans ((uMn_p M sl1 cm1 ba1 wy1 fs1 ft1 (i := 17) (by omega)).trans hm17)) ?_
      refine lv_icmp_ge (tgt := 123) S.1 S.2.1 dX12_goNights_41 (by decide) (fun c_1 => ?_) (fun c_1 => ?_)
      · skip
        have c_1 : m ≤ e := (nI_leI (a := m) (b := e) (by omega) (by omega)).mp c_1
        refine uret_v S hK Z hre hlk dX12_goNights_123 ?_
        refine ⟨e, w1, sl1, cm1, ba1, wy1, fs1, ft1, rfl, i1, i2, i3, i7, ?_⟩
        rcases i4 with z | z
        · refine Or.inl ⟨z, ?_⟩
          first
            | omega
            | exact absurd (by assumption : (0 : Int32) ≤ ba1) (by rw [z]; decide)
        · exact Or.inr z
      · skip
        have c_1 : ¬ m ≤ e := fun z9 => c_1 ((nI_leI (a := m) (b := e) (by omega) (by omega)).mpr z9)
        refine lv_aload_n S.1 S.2.1 dX12_goNights_44 rfl (lv_at hl 1 rfl) ?_
        refine ug_i S hK Z (j := 21) (by decide) rfl rfl rfl (by decide) iX12_goNights_X12 qX12_goNights_213 dX12_goNights_45 ?_
        refine utop (y := ba1) ((uPM_o (uMn M sl1 cm1 ba1 wy1 fs1 ft1) w1 (a := 71) (i := 21) (by unfold mO; omega)).trans rfl) ?_
        refine lv_if_ge (tgt := 123) S.1 S.2.1 dX12_goNights_48 (by decide) (fun c_2 => ?_) (fun c_2 => ?_)
        · skip
          refine uret_v S hK Z hre hlk dX12_goNights_123 ?_
          refine ⟨e, w1, sl1, cm1, ba1, wy1, fs1, ft1, rfl, i1, i2, i3, i7, ?_⟩
          rcases i4 with z | z
          · refine Or.inl ⟨z, ?_⟩
            first
              | omega
              | exact absurd (by assumption : (0 : Int32) ≤ ba1) (by rw [z]; decide)
          · exact Or.inr z
        · skip
          have hb6 : ba1 = -6 := by
            rcases i4 with z | ⟨j, hj, rfl⟩
            · exact z
            · exact absurd (Int32.not_le.mp c_2) (nI_gez hj)
          have hle := hlaid e (by omega)
          refine lv_aload_n S.1 S.2.1 dX12_goNights_51 rfl (lv_at hl 1 rfl) ?_
          refine lv_aload_n S.1 S.2.1 dX12_goNights_52 rfl (lv_at hl 1 rfl) ?_
          refine ug_r S hK Z (j := 13) 81 (by decide) rfl rfl rfl (by decide) iX12_goNights_X12 qX12_goNights_37 dX12_goNights_53 ?_
          refine lv_iload_n S.1 S.2.1 dX12_goNights_56 rfl (lv_at hl 0 rfl) ?_
          refine ua_ild S hK Z e (by decide) rfl rfl (by omega) dX12_goNights_57 ?_
          refine utop (y := (nI (A e))) ((uPM_o (uMn M sl1 cm1 ba1 wy1 fs1 ft1) w1 (a := 81) (i := e) (by unfold mO; omega)).trans ((uMn_o M sl1 cm1 ba1 wy1 fs1 ft1 (a := 81) e (by decide)).trans (hA81 e))) ?_
          refine lv_aload_n S.1 S.2.1 dX12_goNights_58 rfl (lv_at hl 1 rfl) ?_
          refine ug_r S hK Z (j := 14) 82 (by decide) rfl rfl rfl (by decide) iX12_goNights_X12 qX12_goNights_40 dX12_goNights_59 ?_
          refine lv_iload_n S.1 S.2.1 dX12_goNights_62 rfl (lv_at hl 0 rfl) ?_
          refine ua_ild S hK Z e (by decide) rfl rfl (by omega) dX12_goNights_63 ?_
          refine utop (y := (nI (V e))) ((uPM_o (uMn M sl1 cm1 ba1 wy1 fs1 ft1) w1 (a := 82) (i := e) (by unfold mO; omega)).trans ((uMn_o M sl1 cm1 ba1 wy1 fs1 ft1 (a := 82) e (by decide)).trans (hV82 e))) ?_
          refine lv_aload_n S.1 S.2.1 dX12_goNights_64 rfl (lv_at hl 1 rfl) ?_
          refine ug_r S hK Z (j := 15) 83 (by decide) rfl rfl rfl (by decide) iX12_goNights_X12 qX12_goNights_43 dX12_goNights_65 ?_
          refine lv_iload_n S.1 S.2.1 dX12_goNights_68 rfl (lv_at hl 0 rfl) ?_
          refine ua_ild S hK Z e (by decide) rfl rfl (by omega) dX12_goNights_69 ?_
          refine utop (y := (nI (T e))) ((uPM_o (uMn M sl1 cm1 ba1 wy1 fs1 ft1) w1 (a := 83) (i := e) (by unfold mO; omega)).trans ((uMn_o M sl1 cm1 ba1 wy1 fs1 ft1 (a := 83) e (by decide)).trans (hT83 e))) ?_
          refine lv_aload_n S.1 S.2.1 dX12_goNights_70 rfl (lv_at hl 1 rfl) ?_
          refine ug_r S hK Z (j := 16) 84 (by decide) rfl rfl rfl (by decide) iX12_goNights_X12 qX12_goNights_46 dX12_goNights_71 ?_
          refine lv_iload_n S.1 S.2.1 dX12_goNights_74 rfl (lv_at hl 0 rfl) ?_
          refine ua_ild S hK Z e (by decide) rfl rfl (by omega) dX12_goNights_75 ?_
          refine utop (y := (nI (Q e))) ((uPM_o (uMn M sl1 cm1 ba1 wy1 fs1 ft1) w1 (a := 84) (i := e) (by unfold mO; omega)).trans ((uMn_o M sl1 cm1 ba1 wy1 fs1 ft1 (a := 84) e (by decide)).trans (hQ84 e))) ?_
          refine ud_Vi (As := [.int (nI (A e)), .int (nI (V e)), .int (nI (T e)), .int (nI (Q e))]) (rest := []) S hK hA Z (c_X12_whyNot l G (A e) (V e) (T e) (Q e) hle.1 hle.2 (uPM (uMn M sl1 cm1 ba1 wy1 fs1 ft1) w1) w1 (uPM_md _ _) i3) (cwV 4 S.2.2.2.2 gX12_goNights_X12_whyNot rfl rfl rfl (by decide +kernel) ⟨Nat.le_of_ble_eq_true rfl, Nat.le_of_ble_eq_true rfl⟩) (by decide) rfl rfl rfl hl.1 rfl (Nat.le_of_ble_eq_true rfl) dX12_goNights_76 ⟨Nat.zero_le _, Nat.zero_le _⟩ (fun H locs Z => ?_)
          have h6 := ac_le w1 (A e) (V e) (T e) (Q e)
          rcases Nat.eq_zero_or_pos (ac w1 (A e) (V e) (T e) (Q e)).1 with hz | hz
          · skip
            refine utop (congrArg nI hz) ?_
            refine lv_istore_n (lv' := [(2, .int 0), (1, .int (nI e)), (0, .ref (G.2.2 71))]) S.1 S.2.1 dX12_goNights_79 rfl hl (by decide) rfl (fun ls hl => ?_)
            refine lv_aload_n S.1 S.2.1 dX12_goNights_80 rfl (lv_at hl 2 rfl) ?_
            refine lv_iload_n S.1 S.2.1 dX12_goNights_81 rfl (lv_at hl 0 rfl) ?_
            refine lv_if_le (tgt := 89) S.1 S.2.1 dX12_goNights_82 (by decide) (fun _ => ?_) (fun c => absurd c (by decide))
            refine lv_bipush (v := (-6)) S.1 S.2.1 dX12_goNights_89 (by decide) ?_
            refine up_i S hK Z (j := 21) (by decide) rfl rfl rfl (by decide) iX12_goNights_X12 tyX12_ok nmX12 qX12_goNights_213 rfl rfl rfl dX12_goNights_91 (fun H locs Z => ?_)
            have Z := uZ_eq ((uPM_c (uMn M sl1 cm1 ba1 wy1 fs1 ft1) w1 (a := 71) (i := 21) (-6) (by unfold mO; omega)).trans (congrArg (fun X => uPM X w1) (uMn_s21 M sl1 cm1 ba1 wy1 fs1 ft1 (-6)))) Z
            refine lv_aload_n S.1 S.2.1 dX12_goNights_94 rfl (lv_at hl 2 rfl) ?_
            refine lv_iload_n S.1 S.2.1 dX12_goNights_95 rfl (lv_at hl 0 rfl) ?_
            refine lv_if_le (tgt := 103) S.1 S.2.1 dX12_goNights_96 (by decide) (fun _ => ?_) (fun c => absurd c (by decide))
            refine lv_bipush (v := (-6)) S.1 S.2.1 dX12_goNights_103 (by decide) ?_
            refine up_i S hK Z (j := 22) (by decide) rfl rfl rfl (by decide) iX12_goNights_X12 tyX12_ok nmX12 qX12_goNights_216 rfl rfl rfl dX12_goNights_105 (fun H locs Z => ?_)
            have Z := uZ_eq ((uPM_c (uMn M sl1 cm1 (-6) wy1 fs1 ft1) w1 (a := 71) (i := 22) (-6) (by unfold mO; omega)).trans (congrArg (fun X => uPM X w1) (uMn_s22 M sl1 cm1 (-6) wy1 fs1 ft1 (-6)))) Z
            refine lv_iload_n S.1 S.2.1 dX12_goNights_108 rfl (lv_at hl 0 rfl) ?_
            refine lv_if_ne (tgt := 117) S.1 S.2.1 dX12_goNights_109 (by decide) (fun c => absurd c (by decide)) (fun _ => ?_)
            refine lv_aload_n S.1 S.2.1 dX12_goNights_112 rfl (lv_at hl 2 rfl) ?_
            refine lv_iload_n S.1 S.2.1 dX12_goNights_113 rfl (lv_at hl 1 rfl) ?_
            refine ud_Vv (As := [.int (nI e)]) (rest := []) S hK hA Z (c_X12_goOne l G e (by omega) M A V T Q hA81 hV82 hT83 hQ84 w1 i3 sl1 cm1 (-6) (-6) fs1 ft1 hle.1 hle.2 hz (by omega) i5) (cwV 1 S.2.2.2.2 gX12_goNights_X12_goOne rfl rfl rfl (by decide +kernel) ⟨Nat.le_of_ble_eq_true rfl, Nat.le_of_ble_eq_true rfl⟩) (by decide) rfl rfl rfl hl.1 rfl (Nat.le_of_ble_eq_true rfl) dX12_goNights_114 ⟨Nat.zero_le _, Nat.zero_le _⟩ (fun H locs Z => ?_)
            refine lv_iinc (v := (nI (e + 1))) (lv' := [(1, .int (nI (e + 1))), (2, .int 0), (0, .ref (G.2.2 71))]) S.1 S.2.1 dX12_goNights_117 hl (k := 1) rfl (u_inc1 e) (by decide) rfl (fun ls hl => ?_)
            refine lv_goto (tgt := 36) S.1 S.2.1 dX12_goNights_120 (by decide) ?_
            exact ih36 (e + 1) ((ac w1 (A e) (V e) (T e) (Q e)).2) (if A e = 1 then sl1 + 1 else sl1) (if A e = 1 then cm1 + wPrice w1 (T e) else cm1) (-6) (-6) (if A e = 1 then (if sl1 = 0 then nI e else fs1) else fs1) (if A e = 1 then (if sl1 = 0 then nI (T e) else ft1) else ft1) (by omega) (by omega) (by exact rIs_ok (by rw [← hb6]; exact i2) hg (by omega) hz) (by exact ac_ok i3 hle.2) (by exact Or.inl rfl) (by
                split
                · refine Or.inr ⟨by omega, ?_⟩
                  rcases i5 with ⟨z1, z2⟩ | ⟨z1, j, hj, z2⟩
                  · exact ⟨e, by omega, if_pos z1⟩
                  · exact ⟨j, hj, (if_neg (by omega)).trans z2⟩
                · exact i5) (by split <;> omega) (by exact sameR_ac i7) _ _ _ Z (lv_sub hl [0, 2] rfl)
          · skip
            refine lv_istore_n (lv' := [(2, .int (nI ((ac w1 (A e) (V e) (T e) (Q e)).1))), (1, .int (nI e)), (0, .ref (G.2.2 71))]) S.1 S.2.1 dX12_goNights_79 rfl hl (by decide) rfl (fun ls hl => ?_)
            refine lv_aload_n S.1 S.2.1 dX12_goNights_80 rfl (lv_at hl 2 rfl) ?_
            refine lv_iload_n S.1 S.2.1 dX12_goNights_81 rfl (lv_at hl 0 rfl) ?_
            refine lv_if_le (tgt := 89) S.1 S.2.1 dX12_goNights_82 (by decide) (fun c_8 => ?_) (fun c_8 => ?_)
            · skip
              have c_8 : ((ac w1 (A e) (V e) (T e) (Q e)).1) ≤ 0 := (nI_leI (a := ((ac w1 (A e) (V e) (T e) (Q e)).1)) (b := 0) (by omega) (by omega)).mp c_8
              omega
            · skip
              have c_8 : ¬ ((ac w1 (A e) (V e) (T e) (Q e)).1) ≤ 0 := fun z9 => c_8 ((nI_leI (a := ((ac w1 (A e) (V e) (T e) (Q e)).1)) (b := 0) (by omega) (by omega)).mpr z9)
              refine lv_iload_n S.1 S.2.1 dX12_goNights_85 rfl (lv_at hl 1 rfl) ?_
              refine lv_goto (tgt := 91) S.1 S.2.1 dX12_goNights_86 (by decide) ?_
              refine up_i S hK Z (j := 21) (by decide) rfl rfl rfl (by decide) iX12_goNights_X12 tyX12_ok nmX12 qX12_goNights_213 rfl rfl rfl dX12_goNights_91 (fun H locs Z => ?_)
              have Z := uZ_eq ((uPM_c (uMn M sl1 cm1 ba1 wy1 fs1 ft1) w1 (a := 71) (i := 21) (nI e) (by unfold mO; omega)).trans (congrArg (fun X => uPM X w1) (uMn_s21 M sl1 cm1 ba1 wy1 fs1 ft1 (nI e)))) Z
              refine lv_aload_n S.1 S.2.1 dX12_goNights_94 rfl (lv_at hl 2 rfl) ?_
              refine lv_iload_n S.1 S.2.1 dX12_goNights_95 rfl (lv_at hl 0 rfl) ?_
              refine lv_if_le (tgt := 103) S.1 S.2.1 dX12_goNights_96 (by decide) (fun c_9 => ?_) (fun c_9 => ?_)
              · skip
                have c_9 : ((ac w1 (A e) (V e) (T e) (Q e)).1) ≤ 0 := (nI_leI (a := ((ac w1 (A e) (V e) (T e) (Q e)).1)) (b := 0) (by omega) (by omega)).mp c_9
                omega
              · skip
                have c_9 : ¬ ((ac w1 (A e) (V e) (T e) (Q e)).1) ≤ 0 := fun z9 => c_9 ((nI_leI (a := ((ac w1 (A e) (V e) (T e) (Q e)).1)) (b := 0) (by omega) (by omega)).mpr z9)
                refine lv_iload_n S.1 S.2.1 dX12_goNights_99 rfl (lv_at hl 0 rfl) ?_
                refine lv_goto (tgt := 105) S.1 S.2.1 dX12_goNights_100 (by decide) ?_
                refine up_i S hK Z (j := 22) (by decide) rfl rfl rfl (by decide) iX12_goNights_X12 tyX12_ok nmX12 qX12_goNights_216 rfl rfl rfl dX12_goNights_105 (fun H locs Z => ?_)
                have Z := uZ_eq ((uPM_c (uMn M sl1 cm1 (nI e) wy1 fs1 ft1) w1 (a := 71) (i := 22) (nI ((ac w1 (A e) (V e) (T e) (Q e)).1)) (by unfold mO; omega)).trans (congrArg (fun X => uPM X w1) (uMn_s22 M sl1 cm1 (nI e) wy1 fs1 ft1 (nI ((ac w1 (A e) (V e) (T e) (Q e)).1))))) Z
                refine lv_iload_n S.1 S.2.1 dX12_goNights_108 rfl (lv_at hl 0 rfl) ?_
                refine lv_if_ne (tgt := 117) S.1 S.2.1 dX12_goNights_109 (by decide) (fun c_10 => ?_) (fun c_10 => ?_)
                · skip
                  have c_10 : ¬ ((ac w1 (A e) (V e) (T e) (Q e)).1) = 0 := fun z9 => c_10 ((nI_eq (a := ((ac w1 (A e) (V e) (T e) (Q e)).1)) (b := 0) (by omega) (by omega)).mpr z9)
                  refine lv_iinc (v := (nI (e + 1))) (lv' := [(1, .int (nI (e + 1))), (2, .int (nI ((ac w1 (A e) (V e) (T e) (Q e)).1))), (0, .ref (G.2.2 71))]) S.1 S.2.1 dX12_goNights_117 hl (k := 1) rfl (u_inc1 e) (by decide) rfl (fun ls hl => ?_)
                  refine lv_goto (tgt := 36) S.1 S.2.1 dX12_goNights_120 (by decide) ?_
                  exact ih36 (e + 1) w1 sl1 cm1 (nI e) (nI ((ac w1 (A e) (V e) (T e) (Q e)).1)) fs1 ft1 (by omega) (by omega) (by exact rIs_no (by rw [← hb6]; exact i2) hg (by omega) hm60 (Nat.ne_of_gt hz)) (by exact i3) (by exact Or.inr ⟨e, by omega, rfl⟩) (by exact i5) (by omega) (by exact i7) _ _ _ Z (lv_sub hl [0, 2] rfl)
                · skip
                  have c_10 : ((ac w1 (A e) (V e) (T e) (Q e)).1) = 0 := (nI_eq (a := ((ac w1 (A e) (V e) (T e) (Q e)).1)) (b := 0) (by omega) (by omega)).mp c_10
                  omega
  exact LP36 (m + 1) 0 w 0 0 (-6) (-6) (-6) (-6) (by omega) (by omega) (by exact ⟨0, rfl, fun _ => ⟨rfl, rfl⟩⟩) (by exact hw) (by exact Or.inl rfl) (by exact Or.inl ⟨rfl, rfl⟩) (by exact Nat.le_refl _) (by exact sameR_rf w) _ _ _ Z (lv_sub hl [0, 1] rfl)
