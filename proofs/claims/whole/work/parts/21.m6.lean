theorem cFault_v {s : Nat → Nat} {n : Nat} (hn : n ≤ 60) : cFault s n = -6 ∨ ∃ j, j < 1000 ∧ cFault s n = nI j := by
  unfold cFault
  cases h1 : cFa s n with
  | some p =>
    have := cFa_lt n p h1
    exact Or.inr ⟨p, by omega, rfl⟩
  | none =>
    dsimp only
    by_cases h2 : cRun s n = 0
    · rw [if_pos h2]
      exact Or.inl rfl
    · rw [if_neg h2]
      exact Or.inr ⟨n, by omega, rfl⟩
theorem v6_lt {x : Int32} (h : x = -6 ∨ ∃ j, j < 1000 ∧ x = nI j) (hx : x < 0) : x = -6 := by
  rcases h with z | ⟨j, hj, rfl⟩
  · exact z
  · exact absurd hx (nI_pos (by omega))
theorem v6_ge {x : Int32} (hx : ¬ x < 0) : ¬ x = -6 := fun z => hx (by
  rw [z]
  decide)
theorem nI_fn (g : Nat → Int32) : ∃ f : Nat → Nat, ∀ i, g i = nI (f i) := ⟨fun i => (g i).toBitVec.toNat, fun i => Int32.toBitVec_inj.mp (by show _ = BitVec.ofNat 32 _; simp)⟩
theorem pM_71 (M : uM) (f A V T Q : Nat → Nat) (i : Nat) : (pM M f A V T Q).1 71 i = nI (f i) := by
  unfold pM
  rw [uAr_o _ _ _ _ (by decide), uAr_o _ _ _ _ (by decide), uAr_o _ _ _ _ (by decide), uAr_o _ _ _ _ (by decide), uAr_g]
theorem pM_81 (M : uM) (f A V T Q : Nat → Nat) (i : Nat) : (pM M f A V T Q).1 81 i = nI (A i) := by
  unfold pM
  rw [uAr_o _ _ _ _ (by decide), uAr_o _ _ _ _ (by decide), uAr_o _ _ _ _ (by decide), uAr_g]
theorem pM_82 (M : uM) (f A V T Q : Nat → Nat) (i : Nat) : (pM M f A V T Q).1 82 i = nI (V i) := by
  unfold pM
  rw [uAr_o _ _ _ _ (by decide), uAr_o _ _ _ _ (by decide), uAr_g]
theorem pM_83 (M : uM) (f A V T Q : Nat → Nat) (i : Nat) : (pM M f A V T Q).1 83 i = nI (T i) := by
  unfold pM
  rw [uAr_o _ _ _ _ (by decide), uAr_g]
theorem pM_84 (M : uM) (f A V T Q : Nat → Nat) (i : Nat) : (pM M f A V T Q).1 84 i = nI (Q i) := by
  unfold pM
  rw [uAr_g]
theorem pM_o (M : uM) (f A V T Q : Nat → Nat) {a : Nat} (i : Nat) (h : a ≠ 71 ∧ ¬ (81 ≤ a ∧ a ≤ 84)) : (pM M f A V T Q).1 a i = M.1 a i := by
  unfold pM
  rw [uAr_o _ _ _ _ (by omega), uAr_o _ _ _ _ (by omega), uAr_o _ _ _ _ (by omega), uAr_o _ _ _ _ (by omega), uAr_o _ _ _ _ (by omega)]
theorem pM_ex {M : uM} {n : Nat} (hn : M.1 71 12 = nI n) : ∃ f A V T Q, pM M f A V T Q = M ∧ f 12 = n := by
  obtain ⟨f0, h0⟩ := nI_fn (M.1 71)
  obtain ⟨A, h1⟩ := nI_fn (M.1 81)
  obtain ⟨V, h2⟩ := nI_fn (M.1 82)
  obtain ⟨T, h3⟩ := nI_fn (M.1 83)
  obtain ⟨Q, h4⟩ := nI_fn (M.1 84)
  refine ⟨fu f0 12 n, A, V, T, Q, ?_, fu_eq _ _ _⟩
  unfold pM
  rw [uAr_of (f := fu f0 12 n) (fun i => by
    by_cases z : i = 12
    · subst z
      rw [fu_eq]
      exact hn
    · rw [fu_ne z]
      exact h0 i), uAr_of h1, uAr_of h2, uAr_of h3, uAr_of h4]
theorem mSm_pM {M : uM} {f A V T Q f2 A2 V2 T2 Q2 : Nat → Nat} (h : pM M f A V T Q = M) (h2 : ∀ x, x ≠ 17 → f2 x = f x) : mSm M (pM M f2 A2 V2 T2 Q2) := fun a i q => by
  unfold mK at q
  by_cases z : a = 71
  · subst z
    rw [pM_71, h2 i (by omega), ← pM_71 M f A V T Q, h]
  · exact pM_o _ _ _ _ _ _ _ (by omega)
theorem uPM_in (M M2 : uM) (w : Nat → Nat → Nat) {a i : Nat} (q : ¬ mO a i) : (uPM M2 w).1 a i = (uPM M w).1 a i := by
  unfold mO at q
  unfold uPM
  dsimp only
  repeat' split
  all_goals first | rfl | (exfalso; omega)
theorem uMd_sm {M M2 : uM} {w : Nat → Nat → Nat} (h : uMd M w) (hs : mSm M M2) : uMd M2 w := uM_ext (fun a i => by
  by_cases q : mO a i
  · exact uPM_o _ _ q
  · rw [uPM_in M M2 w q]
    have e : (uPM M w).1 a i = M.1 a i := congrArg (fun X : uM => X.1 a i) h
    rw [e]
    exact (hs a i (by unfold mK; unfold mO at q; omega)).symm) rfl
theorem mSm_Mn {M B : uM} {w : Nat → Nat → Nat} (h : mSm M (uPM B w)) (sl cm : Nat) (ba wy fs ft : Int32) : mSm M (uPM (uMn B sl cm ba wy fs ft) w) := fun a i q => by
  rw [← h a i q]
  by_cases z : mO a i
  · rw [uPM_o _ _ z, uPM_o _ _ z]
    by_cases e : a = 71
    · subst e
      refine uMn_p _ _ _ _ _ _ _ ?_
      unfold mK at q
      omega
    · exact uMn_o _ _ _ _ _ _ _ _ e
  · exact uPM_in _ _ _ z
theorem rn_end0 {s : Nat → Nat} {n m e sl cm : Nat} {w w1 : Nat → Nat → Nat} {ba wy fs ft : Int32} (hF : cFault s n = -6) (hp : pPos s m = n) (h : rIs s w e w1 sl cm ba wy fs ft) (he : e = m) (hb : ba = -6) : rnOf s n w 0 (w1, m, ba, wy, sl, fs, ft, cm) := by
  obtain ⟨a, h1, h2⟩ := h
  obtain ⟨h3, -⟩ := h2 hb
  subst he
  subst h3
  exact ⟨hF, a, hp, h1, Or.inl ⟨hb, rfl⟩⟩
theorem rn_end3 {s : Nat → Nat} {n m e sl cm : Nat} {w w1 : Nat → Nat → Nat} {ba wy fs ft : Int32} (hF : cFault s n = -6) (hp : pPos s m = n) (h : rIs s w e w1 sl cm ba wy fs ft) (he : e ≤ m) (hb : ¬ ba = -6) : ∃ a, rnOf s n w (-3) (w1, a, ba, wy, sl, fs, ft, cm) := by
  obtain ⟨a, h1, -⟩ := h
  have h3 : ¬ (tRun s (t0 w) e).2.2.1 = -6 := by
    rw [← h1]
    exact hb
  exact ⟨a, hF, m, hp, h1.trans (tRun_stop h3 m he).symm, Or.inr ⟨hb, rfl⟩⟩
/-- what a trial of the pad leaves below: what was kept is there, the rest is as it was -/
def rfB (M : uM) (w : Nat → Nat → Nat) (B : uM) (w1 : Nat → Nat → Nat) (h : Nat → Nat) : Prop := (∀ i, B.1 85 i = nI (h i)) ∧ hdIs h w ∧ sameR w1 w ∧ wOk w1 ∧ mSm M (uPM B w)
theorem in3 {x : Int32} (h : inr x 0 2) : x = 0 ∨ x = 1 ∨ x = 2 := by
  obtain ⟨j, hj, rfl⟩ := u_in0 (n := 2) h (by decide)
  rcases (show j = 0 ∨ j = 1 ∨ j = 2 by omega) with rfl | rfl | rfl
  · exact Or.inl rfl
  · exact Or.inr (Or.inl rfl)
  · exact Or.inr (Or.inr rfl)
theorem in2 {x : Int32} (h : inr x 0 1) : x = 0 ∨ x = 1 := by
  obtain ⟨j, hj, rfl⟩ := u_in0 (n := 1) h (by decide)
  rcases (show j = 0 ∨ j = 1 by omega) with rfl | rfl
  · exact Or.inl rfl
  · exact Or.inr rfl
/-- what a call that tells may not have changed, outside the reference's world and scratch -/
def mOut (M M2 : uM) : Prop := ∀ a i, (a < 71 ∨ a = 80 ∨ 94 ≤ a) → M2.1 a i = M.1 a i
theorem mOut_sm {M B : uM} {w : Nat → Nat → Nat} (h : mSm M (uPM B w)) : mOut M B := fun a i q => by
  rw [← h a i (by unfold mK; omega)]
  exact (uPM_o _ _ (by unfold mO; omega)).symm
theorem u_inn0 {j hi : Nat} (h : j ≤ hi) (hh : hi < 2147483648) : inr (nI j) 0 (nI hi) := u_inn' (lo := 0) ⟨Nat.zero_le _, h⟩ hh
theorem qX12_refusal_213 : Cond.fieldLink RX12 213 (TX12 21).1 (TX12 21).2.1 (TX12 21).2.2.1 ∈ wsX12_refusal := List.mem_of_getElem? (i := 1) rfl
theorem iX12_refusal_X12 : ∀ w ∈ wsX120, w ∈ wsX12_refusal := fun _ h => List.mem_cons_of_mem _ (List.mem_append_right _ h)
theorem qX12_judge_237 : Cond.constantLong RX12 237 2 ∈ wsX12_judge := List.mem_of_getElem? (i := 1) rfl
theorem qX12_judge_213 : Cond.fieldLink RX12 213 (TX12 21).1 (TX12 21).2.1 (TX12 21).2.2.1 ∈ wsX12_judge := List.mem_of_getElem? (i := 2) rfl
theorem iX12_judge_X12 : ∀ w ∈ wsX120, w ∈ wsX12_judge := fun _ h => List.mem_cons_of_mem _ (List.mem_append_right _ h)
theorem qX12_judge_216 : Cond.fieldLink RX12 216 (TX12 22).1 (TX12 22).2.1 (TX12 22).2.2.1 ∈ wsX12_judge := List.mem_of_getElem? (i := 3) rfl
theorem qX12_judge_183 : Cond.fieldLink RX12 183 (TX12 18).1 (TX12 18).2.1 (TX12 18).2.2.1 ∈ wsX12_judge := List.mem_of_getElem? (i := 4) rfl
theorem qX12_behind_237 : Cond.constantLong RX12 237 2 ∈ wsX12_behind := List.mem_of_getElem? (i := 1) rfl
theorem qX12_behind_7 : Cond.fieldLink RX12 7 (TX12 0).1 (TX12 0).2.1 (TX12 0).2.2.1 ∈ wsX12_behind := List.mem_of_getElem? (i := 2) rfl
theorem iX12_behind_X12 : ∀ w ∈ wsX120, w ∈ wsX12_behind := fun _ h => List.mem_cons_of_mem _ (List.mem_append_right _ h)
theorem qX12_behind_13 : Cond.fieldLink RX12 13 (TX12 1).1 (TX12 1).2.1 (TX12 1).2.2.1 ∈ wsX12_behind := List.mem_of_getElem? (i := 3) rfl
theorem qX12_purse_237 : Cond.constantLong RX12 237 2 ∈ wsX12_purse := List.mem_of_getElem? (i := 1) rfl
theorem qX12_purse_22 : Cond.fieldLink RX12 22 (TX12 4).1 (TX12 4).2.1 (TX12 4).2.2.1 ∈ wsX12_purse := List.mem_of_getElem? (i := 2) rfl
theorem iX12_purse_X12 : ∀ w ∈ wsX120, w ∈ wsX12_purse := fun _ h => List.mem_cons_of_mem _ (List.mem_append_right _ h)
theorem qX12_purse_84 : Cond.fieldLink RX12 84 (TX12 6).1 (TX12 6).2.1 (TX12 6).2.2.1 ∈ wsX12_purse := List.mem_of_getElem? (i := 3) rfl
theorem qX12_sold_237 : Cond.constantLong RX12 237 2 ∈ wsX12_sold := List.mem_of_getElem? (i := 1) rfl
theorem qX12_sold_207 : Cond.fieldLink RX12 207 (TX12 23).1 (TX12 23).2.1 (TX12 23).2.2.1 ∈ wsX12_sold := List.mem_of_getElem? (i := 2) rfl
theorem iX12_sold_X12 : ∀ w ∈ wsX120, w ∈ wsX12_sold := fun _ h => List.mem_cons_of_mem _ (List.mem_append_right _ h)
theorem qX12_sold_210 : Cond.fieldLink RX12 210 (TX12 24).1 (TX12 24).2.1 (TX12 24).2.2.1 ∈ wsX12_sold := List.mem_of_getElem? (i := 3) rfl
theorem qX12_sold_186 : Cond.fieldLink RX12 186 (TX12 19).1 (TX12 19).2.1 (TX12 19).2.2.1 ∈ wsX12_sold := List.mem_of_getElem? (i := 4) rfl
theorem qX12_done_121 : Cond.fieldLink RX12 121 (TX12 12).1 (TX12 12).2.1 (TX12 12).2.2.1 ∈ wsX12_done := List.mem_of_getElem? (i := 1) rfl
theorem iX12_done_X12 : ∀ w ∈ wsX120, w ∈ wsX12_done := fun _ h => List.mem_cons_of_mem _ (List.mem_append_right _ h)
theorem qX12_done_124 : Cond.fieldLink RX12 124 (TX12 17).1 (TX12 17).2.1 (TX12 17).2.2.1 ∈ wsX12_done := List.mem_of_getElem? (i := 2) rfl
set_option maxHeartbeats 4000000 in
set_option maxRecDepth 100000 in
theorem c_X12_refusal (l : Launch) (G : uG) (M : uM) (w : Nat → Nat → Nat) (s : Nat → Nat) (n : Nat) (hr : uMd M w) (hw : wOk w) (hs80 : ∀ i, M.1 80 i = nI (s i)) (hn : M.1 71 12 = nI n) (ho : pdOk s n) : CTi l G yX12_refusal wsX12_refusal 6 131 [.ref (G.2.2 71)] M (fun r M2 => ∃ (B : uM) (w1 : Nat → Nat → Nat) (h : Nat → Nat) (sl cm : Nat) (ba wy fs ft : Int32), M2 = uPM (uMn B sl cm ba wy fs ft) w1 ∧ rfB M w B w1 h ∧ ((r = -5 ∧ ¬ cFault s n = -6) ∨ (∃ a, rnOf s n w 0 (w1, a, ba, wy, sl, fs, ft, cm) ∧ r = -6 ∧ B.1 71 17 = nI a) ∨ (∃ a, rnOf s n w (-3) (w1, a, ba, wy, sl, fs, ft, cm) ∧ r = -3))) := by
  obtain ⟨h0, hh0⟩ := uAr_ex M 85
  refine ustart_i (cc := cX12_refusal) (maxL := 1) (ret := (some .int)) (own := RX12) rfl (by decide) rfl (Nat.le_of_ble_eq_true rfl) ?_
  intro xp xe xs xm xa xb xt xc xA ls S hK hA Z hre hlk hl
  have hl : lv_has ls 1 [(0, .ref (G.2.2 71))] := hl
  refine lv_aload_n S.1 S.2.1 dX12_refusal_0 rfl (lv_at hl 0 rfl) ?_
  refine uc_Vv (As := []) (rest := []) S hK hA Z ((by have h9 := c_X12_keepNow l G M w hr h0; rw [hh0] at h9; exact h9)) (cwV 0 S.2.2.2.2 gX12_refusal_X12_keepNow rfl rfl rfl (by decide +kernel) ⟨Nat.le_of_ble_eq_true rfl, Nat.le_of_ble_eq_true rfl⟩) (by decide) rfl rfl rfl hl.1 rfl (Nat.le_of_ble_eq_true rfl) dX12_refusal_1 ⟨Nat.zero_le _, Nat.zero_le _⟩ (fun M_1 H locs hp Z => ?_)
  obtain ⟨h, hM, hd⟩ := hp
  rw [hM] at Z
  obtain ⟨f, A, V, T, Q, hpM, hf12⟩ := pM_ex (M := uAr M 85 h) (n := n) ((uAr_o _ _ _ _ (by decide)).trans hn)
  refine lv_aload_n S.1 S.2.1 dX12_refusal_4 rfl (lv_at hl 0 rfl) ?_
  refine uc_Vi (As := []) (rest := []) S hK hA Z ((by have h9 := c_X12_fault l G s n (uAr M 85 h) f A V T Q (fun i => (uAr_o _ _ _ _ (by decide)).trans (hs80 i)) hf12 ho; change CTi l G yX12_fault wsX12_fault _ _ _ (pM (uAr M 85 h) f A V T Q) _ at h9; rw [hpM] at h9; exact h9)) (cwV 0 S.2.2.2.2 gX12_refusal_X12_fault rfl rfl rfl (by decide +kernel) ⟨Nat.le_of_ble_eq_true rfl, Nat.le_of_ble_eq_true rfl⟩) (by decide) rfl rfl rfl hl.1 rfl (Nat.le_of_ble_eq_true rfl) dX12_refusal_5 ⟨Nat.zero_le _, Nat.zero_le _⟩ (fun r_2 M_2 H locs hp Z => ?_)
  obtain ⟨hv, f2, A2, W2, T2, Q2, hM, hx, hst⟩ := hp
  obtain ⟨B, hB⟩ : ∃ B, B = pM (uAr M 85 h) f2 A2 W2 T2 Q2 := ⟨_, rfl⟩
  rw [hM, ← hB] at Z
  have hBs : mSm M B := by
    rw [hB]
    exact mSm_tr (mSm_r (mSm_rf _) (by decide)) (mSm_pM hpM hx)
  have hBd : uMd B w := uMd_sm hr hBs
  have hB2 : mSm M (uPM B w) := by
    rw [show uPM B w = B from hBd]
    exact hBs
  have hB85 : ∀ i, B.1 85 i = nI (h i) := fun i => by
    rw [hB, pM_o _ _ _ _ _ _ _ (by decide)]
    exact uAr_g _ _ _ _
  obtain ⟨sl, cm, ba, wy, fs, ft, hmn⟩ := uMn_ex B
  have hn60 := ho.1
  have hFv := cFault_v (s := s) hn60
  refine utop hv ?_
  refine lv_if_lt (tgt := 14) S.1 S.2.1 dX12_refusal_8 (by decide) (fun c_3 => ?_) (fun c_3 => ?_)
  · skip
    have hF : cFault s n = -6 := v6_lt hFv (by assumption)
    have hst := hst hF
    obtain ⟨hFa, hFr⟩ := cFault_no hn60 hF
    have hm60 : f2 17 ≤ 60 := by have := hst.1; omega
    have hpos : pPos s (f2 17) = n := (hst.2.2.2.1 rfl).symm
    have hm17 : B.1 71 17 = nI (f2 17) := by rw [hB, pM_71]
    refine lv_aload_n S.1 S.2.1 dX12_refusal_14 rfl (lv_at hl 0 rfl) ?_
    refine uc_Vv (As := []) (rest := []) S hK hA Z ((by have h9 := c_X12_goNights l G s (f2 17) hm60 B A2 W2 T2 Q2 (fun i => by rw [hB, pM_81]) (fun i => by rw [hB, pM_82]) (fun i => by rw [hB, pM_83]) (fun i => by rw [hB, pM_84]) hm17 w hw sl cm ba wy fs ft hst.2.1 (laid_of hFa hFr hst.2.1 hpos); rw [hmn, show uPM B w = B from hBd] at h9; exact h9)) (cwV 0 S.2.2.2.2 gX12_refusal_X12_goNights rfl rfl rfl (by decide +kernel) ⟨Nat.le_of_ble_eq_true rfl, Nat.le_of_ble_eq_true rfl⟩) (by decide) rfl rfl rfl hl.1 rfl (Nat.le_of_ble_eq_true rfl) dX12_refusal_15 ⟨Nat.zero_le _, Nat.zero_le _⟩ (fun M_4 H locs hp Z => ?_)
    obtain ⟨e, w1, sl1, cm1, ba1, wy1, fs1, ft1, hM, hem, hri, hw1, hs1, hend⟩ := hp
    rw [hM] at Z
    refine lv_aload_n S.1 S.2.1 dX12_refusal_18 rfl (lv_at hl 0 rfl) ?_
    refine ug_i S hK Z (j := 21) (by decide) rfl rfl rfl (by decide) iX12_refusal_X12 qX12_refusal_213 dX12_refusal_19 ?_
    refine utop (y := ba1) ((uPM_o (uMn B sl1 cm1 ba1 wy1 fs1 ft1) w1 (a := 71) (i := 21) (by unfold mO; omega)).trans rfl) ?_
    refine lv_if_lt (tgt := 30) S.1 S.2.1 dX12_refusal_22 (by decide) (fun c_5 => ?_) (fun c_5 => ?_)
    · skip
      refine lv_bipush (v := (-6)) S.1 S.2.1 dX12_refusal_30 (by decide) ?_
      refine uret_i S hK Z hre hlk dX12_refusal_32 ?_
      have hb6 : ba1 = -6 := v6_lt (hend.elim (fun z => Or.inl z.1) Or.inr) (by assumption)
      have he6 : e = f2 17 := hend.elim (fun z => z.2) (fun ⟨j, hj, z⟩ => absurd (z.symm.trans hb6) (nI_nm6 (by omega)))
      exact ⟨B, w1, h, sl1, cm1, ba1, wy1, fs1, ft1, rfl, ⟨hB85, hd, hs1, hw1, hB2⟩, Or.inr (Or.inl ⟨f2 17, rn_end0 hF hpos hri he6 hb6, rfl, hm17⟩)⟩
    · skip
      refine lv_bipush (v := (-3)) S.1 S.2.1 dX12_refusal_25 (by decide) ?_
      refine lv_goto (tgt := 32) S.1 S.2.1 dX12_refusal_27 (by decide) ?_
      refine uret_i S hK Z hre hlk dX12_refusal_32 ?_
      obtain ⟨a9, ha9⟩ := rn_end3 hF hpos hri hem (v6_ge (by assumption))
      exact ⟨B, w1, h, sl1, cm1, ba1, wy1, fs1, ft1, rfl, ⟨hB85, hd, hs1, hw1, hB2⟩, Or.inr (Or.inr ⟨a9, ha9, rfl⟩)⟩
  · skip
    refine lv_bipush (v := (-5)) S.1 S.2.1 dX12_refusal_11 (by decide) ?_
    refine uret_i S hK Z hre hlk dX12_refusal_13 ?_
    exact ⟨B, w, h, sl, cm, ba, wy, fs, ft, (by rw [hmn]; exact hBd.symm), ⟨hB85, hd, sameR_rf w, hw, hB2⟩, Or.inl ⟨rfl, v6_ge (by assumption)⟩⟩
set_option maxHeartbeats 4000000 in
set_option maxRecDepth 100000 in
theorem c_X12_judge (l : Launch) (G : uG) (h : Int32) (M : uM) (w : Nat → Nat → Nat) (s : Nat → Nat) (n : Nat) (hr : uMd M w) (hw : wOk w) (hs80 : ∀ i, M.1 80 i = nI (s i)) (hn : M.1 71 12 = nI n) (ho : pdOk s n) : CTi l G yX12_judge wsX12_judge 7 151 [.ref (G.2.2 71), .int h] M (fun r M2 => SpJudge s n w h r ∧ mSm M M2) := by
  refine ustart_i (cc := cX12_judge) (maxL := 3) (ret := (some .int)) (own := RX12) rfl (by decide) rfl (Nat.le_of_ble_eq_true rfl) ?_
  intro xp xe xs xm xa xb xt xc xA ls S hK hA Z hre hlk hl
  have hl : lv_has ls 3 [(0, .ref (G.2.2 71)), (1, .int h)] := hl
  refine lv_iload_n S.1 S.2.1 dX12_judge_0 rfl (lv_at hl 1 rfl) ?_
  refine lv_i2l (v := h.toInt64) S.1 S.2.1 dX12_judge_1 rfl ?_
  refine lv_lconst (v := 0) S.1 S.2.1 dX12_judge_2 (by decide) ?_
  refine lv_ldc2 (v := 2) S.1 S.2.1 S.2.2.2.1 (S.2.2.2.2 _ qX12_judge_237) dX12_judge_3 ?_
  refine uc_Si (As := [.long h.toInt64, .long 0, .long 2]) (rest := []) S hK hA Z (c_X12_in l G h 0 2 _ _ _ rfl (by decide) (by decide) M) (va_cwS 3 S.2.2.2.2 gX12_judge_X12_in rfl rfl rfl (by decide +kernel) ⟨Nat.le_of_ble_eq_true rfl, Nat.le_of_ble_eq_true rfl⟩) rfl hl.1 rfl (Nat.le_of_ble_eq_true rfl) dX12_judge_6 ⟨Nat.zero_le _, Nat.zero_le _⟩ (fun r_1 M_1 H locs hp Z => ?_)
  obtain ⟨⟨rfl, w_1⟩ | ⟨rfl, w_1⟩, hM_1⟩ := hp
  · skip
    rw [hM_1] at Z
    refine lv_if_ne (tgt := 15) S.1 S.2.1 dX12_judge_9 (by decide) (fun _ => ?_) (fun c => absurd c (by decide))
    rcases in3 (show inr h 0 2 by assumption) with rfl | rfl | rfl
    · skip
      refine lv_aload_n S.1 S.2.1 dX12_judge_15 rfl (lv_at hl 0 rfl) ?_
      refine lv_aload_n S.1 S.2.1 dX12_judge_16 rfl (lv_at hl 0 rfl) ?_
      refine uc_Vi (As := []) (rest := [.ref (G.2.2 71)]) S hK hA Z (c_X12_refusal l G M w s n hr hw hs80 hn ho) (cwV 0 S.2.2.2.2 gX12_judge_X12_refusal rfl rfl rfl (by decide +kernel) ⟨Nat.le_of_ble_eq_true rfl, Nat.le_of_ble_eq_true rfl⟩) (by decide) rfl rfl rfl hl.1 rfl (Nat.le_of_ble_eq_true rfl) dX12_judge_17 ⟨Nat.zero_le _, Nat.zero_le _⟩ (fun r_3 M_3 H locs hp Z => ?_)
      obtain ⟨B, w1, hd, sl, cm, ba, wy, fs, ft, hM, hB, ⟨rfl, hf⟩ | ⟨a, hx, rfl, h17⟩ | ⟨a, hx, rfl⟩⟩ := hp
      · skip
        rw [hM] at Z
        have hw1 := hB.2.2.2.1
        have hsm := mSm_Mn hB.2.2.2.2 sl cm ba wy fs ft
        refine ud_Vi (As := [.int (-5)]) (rest := []) S hK hA Z (c_X12_back l G (-5) (uMn B sl cm ba wy fs ft) w1 w hd (fun i => (uMn_o _ _ _ _ _ _ _ _ (by decide)).trans (hB.1 i)) hB.2.1 hB.2.2.1 (wOk_z hw1) (wOk_z hw)) (cwV 1 S.2.2.2.2 gX12_judge_X12_back rfl rfl rfl (by decide +kernel) ⟨Nat.le_of_ble_eq_true rfl, Nat.le_of_ble_eq_true rfl⟩) (by decide) rfl rfl rfl hl.1 rfl (Nat.le_of_ble_eq_true rfl) dX12_judge_20 ⟨Nat.zero_le _, Nat.zero_le _⟩ (fun H locs Z => ?_)
        refine lv_istore_n (lv' := [(2, .int (-5)), (0, .ref (G.2.2 71)), (1, .int 0)]) S.1 S.2.1 dX12_judge_23 rfl hl (by decide) rfl (fun ls hl => ?_)
        refine lv_iload_n S.1 S.2.1 dX12_judge_24 rfl (lv_at hl 0 rfl) ?_
        refine lv_bipush (v := (-5)) S.1 S.2.1 dX12_judge_25 (by decide) ?_
        refine lv_icmp_eq (tgt := 41) S.1 S.2.1 dX12_judge_27 (by decide) (fun _ => ?_) (fun c => absurd c (by decide))
        refine lv_iload_n S.1 S.2.1 dX12_judge_41 rfl (lv_at hl 0 rfl) ?_
        refine uret_i S hK Z hre hlk dX12_judge_42 ?_
        exact ⟨Or.inr ⟨(show inr _ 0 2 from ⟨by decide, by decide⟩), Or.inl ⟨hf, rfl⟩⟩, hsm⟩
      · skip
        rw [hM] at Z
        have hw1 := hB.2.2.2.1
        have hsm := mSm_Mn hB.2.2.2.2 sl cm ba wy fs ft
        refine ud_Vi (As := [.int (-6)]) (rest := []) S hK hA Z (c_X12_back l G (-6) (uMn B sl cm ba wy fs ft) w1 w hd (fun i => (uMn_o _ _ _ _ _ _ _ _ (by decide)).trans (hB.1 i)) hB.2.1 hB.2.2.1 (wOk_z hw1) (wOk_z hw)) (cwV 1 S.2.2.2.2 gX12_judge_X12_back rfl rfl rfl (by decide +kernel) ⟨Nat.le_of_ble_eq_true rfl, Nat.le_of_ble_eq_true rfl⟩) (by decide) rfl rfl rfl hl.1 rfl (Nat.le_of_ble_eq_true rfl) dX12_judge_20 ⟨Nat.zero_le _, Nat.zero_le _⟩ (fun H locs Z => ?_)
        refine lv_istore_n (lv' := [(2, .int (-6)), (0, .ref (G.2.2 71)), (1, .int 0)]) S.1 S.2.1 dX12_judge_23 rfl hl (by decide) rfl (fun ls hl => ?_)
        refine lv_iload_n S.1 S.2.1 dX12_judge_24 rfl (lv_at hl 0 rfl) ?_
        refine lv_bipush (v := (-5)) S.1 S.2.1 dX12_judge_25 (by decide) ?_
        refine lv_icmp_eq (tgt := 41) S.1 S.2.1 dX12_judge_27 (by decide) (fun c => absurd c (by decide)) (fun _ => ?_)
        refine lv_iload_n S.1 S.2.1 dX12_judge_30 rfl (lv_at hl 2 rfl) ?_
        refine lv_iconst (v := 1) S.1 S.2.1 dX12_judge_31 (by decide) ?_
        refine lv_icmp_le (tgt := 43) S.1 S.2.1 dX12_judge_32 (by decide) (fun _ => ?_) (fun c => absurd c (by decide))
        refine lv_iload_n S.1 S.2.1 dX12_judge_43 rfl (lv_at hl 2 rfl) ?_
        refine lv_if_ne (tgt := 54) S.1 S.2.1 dX12_judge_44 (by decide) (fun c => absurd c (by decide)) (fun _ => ?_)
        refine lv_aload_n S.1 S.2.1 dX12_judge_47 rfl (lv_at hl 1 rfl) ?_
        refine ug_i S hK Z (j := 21) (by decide) rfl rfl rfl (by decide) iX12_judge_X12 qX12_judge_213 dX12_judge_48 ?_
        refine utop (y := ba) ((uPM_o (uMn B sl cm ba wy fs ft) w (a := 71) (i := 21) (by unfold mO; omega)).trans rfl) ?_
        refine lv_goto (tgt := 70) S.1 S.2.1 dX12_judge_51 (by decide) ?_
        refine uret_i S hK Z hre hlk dX12_judge_70 ?_
        refine ⟨Or.inr ⟨(show inr _ 0 2 from ⟨by decide, by decide⟩), Or.inr ⟨0, _, hx, ?_⟩⟩, hsm⟩
        dsimp only
        rw [if_pos rfl]
      · skip
        rw [hM] at Z
        have hw1 := hB.2.2.2.1
        have hsm := mSm_Mn hB.2.2.2.2 sl cm ba wy fs ft
        refine ud_Vi (As := [.int (-3)]) (rest := []) S hK hA Z (c_X12_back l G (-3) (uMn B sl cm ba wy fs ft) w1 w hd (fun i => (uMn_o _ _ _ _ _ _ _ _ (by decide)).trans (hB.1 i)) hB.2.1 hB.2.2.1 (wOk_z hw1) (wOk_z hw)) (cwV 1 S.2.2.2.2 gX12_judge_X12_back rfl rfl rfl (by decide +kernel) ⟨Nat.le_of_ble_eq_true rfl, Nat.le_of_ble_eq_true rfl⟩) (by decide) rfl rfl rfl hl.1 rfl (Nat.le_of_ble_eq_true rfl) dX12_judge_20 ⟨Nat.zero_le _, Nat.zero_le _⟩ (fun H locs Z => ?_)
        refine lv_istore_n (lv' := [(2, .int (-3)), (0, .ref (G.2.2 71)), (1, .int 0)]) S.1 S.2.1 dX12_judge_23 rfl hl (by decide) rfl (fun ls hl => ?_)
        refine lv_iload_n S.1 S.2.1 dX12_judge_24 rfl (lv_at hl 0 rfl) ?_
        refine lv_bipush (v := (-5)) S.1 S.2.1 dX12_judge_25 (by decide) ?_
        refine lv_icmp_eq (tgt := 41) S.1 S.2.1 dX12_judge_27 (by decide) (fun c => absurd c (by decide)) (fun _ => ?_)
        refine lv_iload_n S.1 S.2.1 dX12_judge_30 rfl (lv_at hl 2 rfl) ?_
        refine lv_iconst (v := 1) S.1 S.2.1 dX12_judge_31 (by decide) ?_
        refine lv_icmp_le (tgt := 43) S.1 S.2.1 dX12_judge_32 (by decide) (fun _ => ?_) (fun c => absurd c (by decide))
        refine lv_iload_n S.1 S.2.1 dX12_judge_43 rfl (lv_at hl 2 rfl) ?_
        refine lv_if_ne (tgt := 54) S.1 S.2.1 dX12_judge_44 (by decide) (fun c => absurd c (by decide)) (fun _ => ?_)
        refine lv_aload_n S.1 S.2.1 dX12_judge_47 rfl (lv_at hl 1 rfl) ?_
        refine ug_i S hK Z (j := 21) (by decide) rfl rfl rfl (by decide) iX12_judge_X12 qX12_judge_213 dX12_judge_48 ?_
        refine utop (y := ba) ((uPM_o (uMn B sl cm ba wy fs ft) w (a := 71) (i := 21) (by unfold mO; omega)).trans rfl) ?_
        refine lv_goto (tgt := 70) S.1 S.2.1 dX12_judge_51 (by decide) ?_
        refine uret_i S hK Z hre hlk dX12_judge_70 ?_
        refine ⟨Or.inr ⟨(show inr _ 0 2 from ⟨by decide, by decide⟩), Or.inr ⟨-3, _, hx, ?_⟩⟩, hsm⟩
        dsimp only
        rw [if_pos rfl]
    · skip
      refine lv_aload_n S.1 S.2.1 dX12_judge_15 rfl (lv_at hl 0 rfl) ?_
      refine lv_aload_n S.1 S.2.1 dX12_judge_16 rfl (lv_at hl 0 rfl) ?_
      refine uc_Vi (As := []) (rest := [.ref (G.2.2 71)]) S hK hA Z (c_X12_refusal l G M w s n hr hw hs80 hn ho) (cwV 0 S.2.2.2.2 gX12_judge_X12_refusal rfl rfl rfl (by decide +kernel) ⟨Nat.le_of_ble_eq_true rfl, Nat.le_of_ble_eq_true rfl⟩) (by decide) rfl rfl rfl hl.1 rfl (Nat.le_of_ble_eq_true rfl) dX12_judge_17 ⟨Nat.zero_le _, Nat.zero_le _⟩ (fun r_14 M_14 H locs hp Z => ?_)
      obtain ⟨B, w1, hd, sl, cm, ba, wy, fs, ft, hM, hB, ⟨rfl, hf⟩ | ⟨a, hx, rfl, h17⟩ | ⟨a, hx, rfl⟩⟩ := hp
      · skip
        rw [hM] at Z
        have hw1 := hB.2.2.2.1
        have hsm := mSm_Mn hB.2.2.2.2 sl cm ba wy fs ft
        refine ud_Vi (As := [.int (-5)]) (rest := []) S hK hA Z (c_X12_back l G (-5) (uMn B sl cm ba wy fs ft) w1 w hd (fun i => (uMn_o _ _ _ _ _ _ _ _ (by decide)).trans (hB.1 i)) hB.2.1 hB.2.2.1 (wOk_z hw1) (wOk_z hw)) (cwV 1 S.2.2.2.2 gX12_judge_X12_back rfl rfl rfl (by decide +kernel) ⟨Nat.le_of_ble_eq_true rfl, Nat.le_of_ble_eq_true rfl⟩) (by decide) rfl rfl rfl hl.1 rfl (Nat.le_of_ble_eq_true rfl) dX12_judge_20 ⟨Nat.zero_le _, Nat.zero_le _⟩ (fun H locs Z => ?_)
        refine lv_istore_n (lv' := [(2, .int (-5)), (0, .ref (G.2.2 71)), (1, .int 1)]) S.1 S.2.1 dX12_judge_23 rfl hl (by decide) rfl (fun ls hl => ?_)
        refine lv_iload_n S.1 S.2.1 dX12_judge_24 rfl (lv_at hl 0 rfl) ?_
        refine lv_bipush (v := (-5)) S.1 S.2.1 dX12_judge_25 (by decide) ?_
        refine lv_icmp_eq (tgt := 41) S.1 S.2.1 dX12_judge_27 (by decide) (fun _ => ?_) (fun c => absurd c (by decide))
        refine lv_iload_n S.1 S.2.1 dX12_judge_41 rfl (lv_at hl 0 rfl) ?_
        refine uret_i S hK Z hre hlk dX12_judge_42 ?_
        exact ⟨Or.inr ⟨(show inr _ 0 2 from ⟨by decide, by decide⟩), Or.inl ⟨hf, rfl⟩⟩, hsm⟩
      · skip
        rw [hM] at Z
        have hw1 := hB.2.2.2.1
        have hsm := mSm_Mn hB.2.2.2.2 sl cm ba wy fs ft
        refine ud_Vi (As := [.int (-6)]) (rest := []) S hK hA Z (c_X12_back l G (-6) (uMn B sl cm ba wy fs ft) w1 w hd (fun i => (uMn_o _ _ _ _ _ _ _ _ (by decide)).trans (hB.1 i)) hB.2.1 hB.2.2.1 (wOk_z hw1) (wOk_z hw)) (cwV 1 S.2.2.2.2 gX12_judge_X12_back rfl rfl rfl (by decide +kernel) ⟨Nat.le_of_ble_eq_true rfl, Nat.le_of_ble_eq_true rfl⟩) (by decide) rfl rfl rfl hl.1 rfl (Nat.le_of_ble_eq_true rfl) dX12_judge_20 ⟨Nat.zero_le _, Nat.zero_le _⟩ (fun H locs Z => ?_)
        refine lv_istore_n (lv' := [(2, .int (-6)), (0, .ref (G.2.2 71)), (1, .int 1)]) S.1 S.2.1 dX12_judge_23 rfl hl (by decide) rfl (fun ls hl => ?_)
        refine lv_iload_n S.1 S.2.1 dX12_judge_24 rfl (lv_at hl 0 rfl) ?_
        refine lv_bipush (v := (-5)) S.1 S.2.1 dX12_judge_25 (by decide) ?_
        refine lv_icmp_eq (tgt := 41) S.1 S.2.1 dX12_judge_27 (by decide) (fun c => absurd c (by decide)) (fun _ => ?_)
        refine lv_iload_n S.1 S.2.1 dX12_judge_30 rfl (lv_at hl 2 rfl) ?_
        refine lv_iconst (v := 1) S.1 S.2.1 dX12_judge_31 (by decide) ?_
        refine lv_icmp_le (tgt := 43) S.1 S.2.1 dX12_judge_32 (by decide) (fun _ => ?_) (fun c => absurd c (by decide))
        refine lv_iload_n S.1 S.2.1 dX12_judge_43 rfl (lv_at hl 2 rfl) ?_
        refine lv_if_ne (tgt := 54) S.1 S.2.1 dX12_judge_44 (by decide) (fun _ => ?_) (fun c => absurd c (by decide))
        refine lv_iload_n S.1 S.2.1 dX12_judge_54 rfl (lv_at hl 2 rfl) ?_
        refine lv_iconst (v := 1) S.1 S.2.1 dX12_judge_55 (by decide) ?_
        refine lv_icmp_ne (tgt := 66) S.1 S.2.1 dX12_judge_56 (by decide) (fun c => absurd c (by decide)) (fun _ => ?_)
        refine lv_aload_n S.1 S.2.1 dX12_judge_59 rfl (lv_at hl 1 rfl) ?_
        refine ug_i S hK Z (j := 22) (by decide) rfl rfl rfl (by decide) iX12_judge_X12 qX12_judge_216 dX12_judge_60 ?_
        refine utop (y := wy) ((uPM_o (uMn B sl cm ba wy fs ft) w (a := 71) (i := 22) (by unfold mO; omega)).trans rfl) ?_
        refine lv_goto (tgt := 70) S.1 S.2.1 dX12_judge_63 (by decide) ?_
        refine uret_i S hK Z hre hlk dX12_judge_70 ?_
        refine ⟨Or.inr ⟨(show inr _ 0 2 from ⟨by decide, by decide⟩), Or.inr ⟨0, _, hx, ?_⟩⟩, hsm⟩
        dsimp only
        rw [if_neg (by decide), if_pos rfl]
      · skip
        rw [hM] at Z
        have hw1 := hB.2.2.2.1
        have hsm := mSm_Mn hB.2.2.2.2 sl cm ba wy fs ft
        refine ud_Vi (As := [.int (-3)]) (rest := []) S hK hA Z (c_X12_back l G (-3) (uMn B sl cm ba wy fs ft) w1 w hd (fun i => (uMn_o _ _ _ _ _ _ _ _ (by decide)).trans (hB.1 i)) hB.2.1 hB.2.2.1 (wOk_z hw1) (wOk_z hw)) (cwV 1 S.2.2.2.2 gX12_judge_X12_back rfl rfl rfl (by decide +kernel) ⟨Nat.le_of_ble_eq_true rfl, Nat.le_of_ble_eq_true rfl⟩) (by decide) rfl rfl rfl hl.1 rfl (Nat.le_of_ble_eq_true rfl) dX12_judge_20 ⟨Nat.zero_le _, Nat.zero_le _⟩ (fun H locs Z => ?_)
        refine lv_istore_n (lv' := [(2, .int (-3)), (0, .ref (G.2.2 71)), (1, .int 1)]) S.1 S.2.1 dX12_judge_23 rfl hl (by decide) rfl (fun ls hl => ?_)
        refine lv_iload_n S.1 S.2.1 dX12_judge_24 rfl (lv_at hl 0 rfl) ?_
        refine lv_bipush (v := (-5)) S.1 S.2.1 dX12_judge_25 (by decide) ?_
        refine lv_icmp_eq (tgt := 41) S.1 S.2.1 dX12_judge_27 (by decide) (fun c => absurd c (by decide)) (fun _ => ?_)
        refine lv_iload_n S.1 S.2.1 dX12_judge_30 rfl (lv_at hl 2 rfl) ?_
        refine lv_iconst (v := 1) S.1 S.2.1 dX12_judge_31 (by decide) ?_
        refine lv_icmp_le (tgt := 43) S.1 S.2.1 dX12_judge_32 (by decide) (fun _ => ?_) (fun c => absurd c (by decide))
        refine lv_iload_n S.1 S.2.1 dX12_judge_43 rfl (lv_at hl 2 rfl) ?_
        refine lv_if_ne (tgt := 54) S.1 S.2.1 dX12_judge_44 (by decide) (fun _ => ?_) (fun c => absurd c (by decide))
        refine lv_iload_n S.1 S.2.1 dX12_judge_54 rfl (lv_at hl 2 rfl) ?_
        refine lv_iconst (v := 1) S.1 S.2.1 dX12_judge_55 (by decide) ?_
        refine lv_icmp_ne (tgt := 66) S.1 S.2.1 dX12_judge_56 (by decide) (fun c => absurd c (by decide)) (fun _ => ?_)
        refine lv_aload_n S.1 S.2.1 dX12_judge_59 rfl (lv_at hl 1 rfl) ?_
        refine ug_i S hK Z (j := 22) (by decide) rfl rfl rfl (by decide) iX12_judge_X12 qX12_judge_216 dX12_judge_60 ?_
        refine utop (y := wy) ((uPM_o (uMn B sl cm ba wy fs ft) w (a := 71) (i := 22) (by unfold mO; omega)).trans rfl) ?_
        refine lv_goto (tgt := 70) S.1 S.2.1 dX12_judge_63 (by decide) ?_
        refine uret_i S hK Z hre hlk dX12_judge_70 ?_
        refine ⟨Or.inr ⟨(show inr _ 0 2 from ⟨by decide, by decide⟩), Or.inr ⟨-3, _, hx, ?_⟩⟩, hsm⟩
        dsimp only
        rw [if_neg (by decide), if_pos rfl]
    · skip
      refine lv_aload_n S.1 S.2.1 dX12_judge_15 rfl (lv_at hl 0 rfl) ?_
      refine lv_aload_n S.1 S.2.1 dX12_judge_16 rfl (lv_at hl 0 rfl) ?_
      refine uc_Vi (As := []) (rest := [.ref (G.2.2 71)]) S hK hA Z (c_X12_refusal l G M w s n hr hw hs80 hn ho) (cwV 0 S.2.2.2.2 gX12_judge_X12_refusal rfl rfl rfl (by decide +kernel) ⟨Nat.le_of_ble_eq_true rfl, Nat.le_of_ble_eq_true rfl⟩) (by decide) rfl rfl rfl hl.1 rfl (Nat.le_of_ble_eq_true rfl) dX12_judge_17 ⟨Nat.zero_le _, Nat.zero_le _⟩ (fun r_27 M_27 H locs hp Z => ?_)
      obtain ⟨B, w1, hd, sl, cm, ba, wy, fs, ft, hM, hB, ⟨rfl, hf⟩ | ⟨a, hx, rfl, h17⟩ | ⟨a, hx, rfl⟩⟩ := hp
      · skip
        rw [hM] at Z
        have hw1 := hB.2.2.2.1
        have hsm := mSm_Mn hB.2.2.2.2 sl cm ba wy fs ft
        refine ud_Vi (As := [.int (-5)]) (rest := []) S hK hA Z (c_X12_back l G (-5) (uMn B sl cm ba wy fs ft) w1 w hd (fun i => (uMn_o _ _ _ _ _ _ _ _ (by decide)).trans (hB.1 i)) hB.2.1 hB.2.2.1 (wOk_z hw1) (wOk_z hw)) (cwV 1 S.2.2.2.2 gX12_judge_X12_back rfl rfl rfl (by decide +kernel) ⟨Nat.le_of_ble_eq_true rfl, Nat.le_of_ble_eq_true rfl⟩) (by decide) rfl rfl rfl hl.1 rfl (Nat.le_of_ble_eq_true rfl) dX12_judge_20 ⟨Nat.zero_le _, Nat.zero_le _⟩ (fun H locs Z => ?_)
        refine lv_istore_n (lv' := [(2, .int (-5)), (0, .ref (G.2.2 71)), (1, .int 2)]) S.1 S.2.1 dX12_judge_23 rfl hl (by decide) rfl (fun ls hl => ?_)
        refine lv_iload_n S.1 S.2.1 dX12_judge_24 rfl (lv_at hl 0 rfl) ?_
        refine lv_bipush (v := (-5)) S.1 S.2.1 dX12_judge_25 (by decide) ?_
        refine lv_icmp_eq (tgt := 41) S.1 S.2.1 dX12_judge_27 (by decide) (fun _ => ?_) (fun c => absurd c (by decide))
        refine lv_iload_n S.1 S.2.1 dX12_judge_41 rfl (lv_at hl 0 rfl) ?_
        refine uret_i S hK Z hre hlk dX12_judge_42 ?_
        exact ⟨Or.inr ⟨(show inr _ 0 2 from ⟨by decide, by decide⟩), Or.inl ⟨hf, rfl⟩⟩, hsm⟩
      · skip
        rw [hM] at Z
        have hw1 := hB.2.2.2.1
        have hsm := mSm_Mn hB.2.2.2.2 sl cm ba wy fs ft
        refine ud_Vi (As := [.int (-6)]) (rest := []) S hK hA Z (c_X12_back l G (-6) (uMn B sl cm ba wy fs ft) w1 w hd (fun i => (uMn_o _ _ _ _ _ _ _ _ (by decide)).trans (hB.1 i)) hB.2.1 hB.2.2.1 (wOk_z hw1) (wOk_z hw)) (cwV 1 S.2.2.2.2 gX12_judge_X12_back rfl rfl rfl (by decide +kernel) ⟨Nat.le_of_ble_eq_true rfl, Nat.le_of_ble_eq_true rfl⟩) (by decide) rfl rfl rfl hl.1 rfl (Nat.le_of_ble_eq_true rfl) dX12_judge_20 ⟨Nat.zero_le _, Nat.zero_le _⟩ (fun H locs Z => ?_)
        refine lv_istore_n (lv' := [(2, .int (-6)), (0, .ref (G.2.2 71)), (1, .int 2)]) S.1 S.2.1 dX12_judge_23 rfl hl (by decide) rfl (fun ls hl => ?_)
        refine lv_iload_n S.1 S.2.1 dX12_judge_24 rfl (lv_at hl 0 rfl) ?_
        refine lv_bipush (v := (-5)) S.1 S.2.1 dX12_judge_25 (by decide) ?_
        refine lv_icmp_eq (tgt := 41) S.1 S.2.1 dX12_judge_27 (by decide) (fun c => absurd c (by decide)) (fun _ => ?_)
        refine lv_iload_n S.1 S.2.1 dX12_judge_30 rfl (lv_at hl 2 rfl) ?_
        refine lv_iconst (v := 1) S.1 S.2.1 dX12_judge_31 (by decide) ?_
        refine lv_icmp_le (tgt := 43) S.1 S.2.1 dX12_judge_32 (by decide) (fun c => absurd c (by decide)) (fun _ => ?_)
        refine lv_iload_n S.1 S.2.1 dX12_judge_35 rfl (lv_at hl 0 rfl) ?_
        refine lv_bipush (v := (-3)) S.1 S.2.1 dX12_judge_36 (by decide) ?_
        refine lv_icmp_ne (tgt := 43) S.1 S.2.1 dX12_judge_38 (by decide) (fun _ => ?_) (fun c => absurd c (by decide))
        refine lv_iload_n S.1 S.2.1 dX12_judge_43 rfl (lv_at hl 2 rfl) ?_
        refine lv_if_ne (tgt := 54) S.1 S.2.1 dX12_judge_44 (by decide) (fun _ => ?_) (fun c => absurd c (by decide))
        refine lv_iload_n S.1 S.2.1 dX12_judge_54 rfl (lv_at hl 2 rfl) ?_
        refine lv_iconst (v := 1) S.1 S.2.1 dX12_judge_55 (by decide) ?_
        refine lv_icmp_ne (tgt := 66) S.1 S.2.1 dX12_judge_56 (by decide) (fun _ => ?_) (fun c => absurd c (by decide))
        refine lv_aload_n S.1 S.2.1 dX12_judge_66 rfl (lv_at hl 1 rfl) ?_
        refine ug_i S hK Z (j := 18) (by decide) rfl rfl rfl (by decide) iX12_judge_X12 qX12_judge_183 dX12_judge_67 ?_
        refine utop (y := (nI sl)) ((uPM_o (uMn B sl cm ba wy fs ft) w (a := 71) (i := 18) (by unfold mO; omega)).trans rfl) ?_
        refine uret_i S hK Z hre hlk dX12_judge_70 ?_
        refine ⟨Or.inr ⟨(show inr _ 0 2 from ⟨by decide, by decide⟩), Or.inr ⟨0, _, hx, ?_⟩⟩, hsm⟩
        dsimp only
        rw [if_neg (by decide), if_neg (by decide), if_neg (by decide)]
      · skip
        rw [hM] at Z
        have hw1 := hB.2.2.2.1
        have hsm := mSm_Mn hB.2.2.2.2 sl cm ba wy fs ft
        refine ud_Vi (As := [.int (-3)]) (rest := []) S hK hA Z (c_X12_back l G (-3) (uMn B sl cm ba wy fs ft) w1 w hd (fun i => (uMn_o _ _ _ _ _ _ _ _ (by decide)).trans (hB.1 i)) hB.2.1 hB.2.2.1 (wOk_z hw1) (wOk_z hw)) (cwV 1 S.2.2.2.2 gX12_judge_X12_back rfl rfl rfl (by decide +kernel) ⟨Nat.le_of_ble_eq_true rfl, Nat.le_of_ble_eq_true rfl⟩) (by decide) rfl rfl rfl hl.1 rfl (Nat.le_of_ble_eq_true rfl) dX12_judge_20 ⟨Nat.zero_le _, Nat.zero_le _⟩ (fun H locs Z => ?_)
        refine lv_istore_n (lv' := [(2, .int (-3)), (0, .ref (G.2.2 71)), (1, .int 2)]) S.1 S.2.1 dX12_judge_23 rfl hl (by decide) rfl (fun ls hl => ?_)
        refine lv_iload_n S.1 S.2.1 dX12_judge_24 rfl (lv_at hl 0 rfl) ?_
        refine lv_bipush (v := (-5)) S.1 S.2.1 dX12_judge_25 (by decide) ?_
        refine lv_icmp_eq (tgt := 41) S.1 S.2.1 dX12_judge_27 (by decide) (fun c => absurd c (by decide)) (fun _ => ?_)
        refine lv_iload_n S.1 S.2.1 dX12_judge_30 rfl (lv_at hl 2 rfl) ?_
        refine lv_iconst (v := 1) S.1 S.2.1 dX12_judge_31 (by decide) ?_
        refine lv_icmp_le (tgt := 43) S.1 S.2.1 dX12_judge_32 (by decide) (fun c => absurd c (by decide)) (fun _ => ?_)
        refine lv_iload_n S.1 S.2.1 dX12_judge_35 rfl (lv_at hl 0 rfl) ?_
        refine lv_bipush (v := (-3)) S.1 S.2.1 dX12_judge_36 (by decide) ?_
        refine lv_icmp_ne (tgt := 43) S.1 S.2.1 dX12_judge_38 (by decide) (fun c => absurd c (by decide)) (fun _ => ?_)
        refine lv_iload_n S.1 S.2.1 dX12_judge_41 rfl (lv_at hl 0 rfl) ?_
        refine uret_i S hK Z hre hlk dX12_judge_42 ?_
        refine ⟨Or.inr ⟨(show inr _ 0 2 from ⟨by decide, by decide⟩), Or.inr ⟨-3, _, hx, ?_⟩⟩, hsm⟩
        dsimp only
        rw [if_neg (by decide), if_neg (by decide), if_pos rfl]
  · skip
    rw [hM_1] at Z
    refine lv_if_ne (tgt := 15) S.1 S.2.1 dX12_judge_9 (by decide) (fun c => absurd c (by decide)) (fun _ => ?_)
    refine lv_bipush (v := (-2)) S.1 S.2.1 dX12_judge_12 (by decide) ?_
    refine uret_i S hK Z hre hlk dX12_judge_14 ?_
    exact ⟨Or.inl ⟨by assumption, rfl⟩, mSm_rf _⟩
set_option maxHeartbeats 4000000 in
set_option maxRecDepth 100000 in
theorem c_X12_behind (l : Launch) (G : uG) (t h : Int32) (M : uM) (w : Nat → Nat → Nat) (s : Nat → Nat) (n : Nat) (hr : uMd M w) (hw : wOk w) (hs80 : ∀ i, M.1 80 i = nI (s i)) (hn : M.1 71 12 = nI n) (ho : pdOk s n) : CTi l G yX12_behind wsX12_behind 7 151 [.ref (G.2.2 71), .int t, .int h] M (fun r M2 => SpBehind s n w t h r ∧ mSm M M2) := by
  refine ustart_i (cc := cX12_behind) (maxL := 4) (ret := (some .int)) (own := RX12) rfl (by decide) rfl (Nat.le_of_ble_eq_true rfl) ?_
  intro xp xe xs xm xa xb xt xc xA ls S hK hA Z hre hlk hl
  have hl : lv_has ls 4 [(0, .ref (G.2.2 71)), (1, .int t), (2, .int h)] := hl
  refine lv_iload_n S.1 S.2.1 dX12_behind_0 rfl (lv_at hl 1 rfl) ?_
  refine uc_Si (As := [.int t]) (rest := []) S hK hA Z (c_X12_isThing l G t M) (va_cwS 1 S.2.2.2.2 gX12_behind_X12_isThing rfl rfl rfl (by decide +kernel) ⟨Nat.le_of_ble_eq_true rfl, Nat.le_of_ble_eq_true rfl⟩) rfl hl.1 rfl (Nat.le_of_ble_eq_true rfl) dX12_behind_1 ⟨Nat.zero_le _, Nat.zero_le _⟩ (fun r_1 M_1 H locs hp Z => ?_)
  obtain ⟨⟨rfl, w_1⟩ | ⟨rfl, w_1⟩, hM_1⟩ := hp
  · skip
    rw [hM_1] at Z
    refine lv_if_ne (tgt := 9) S.1 S.2.1 dX12_behind_4 (by decide) (fun _ => ?_) (fun c => absurd c (by decide))
    refine lv_iload_n S.1 S.2.1 dX12_behind_9 rfl (lv_at hl 2 rfl) ?_
    refine lv_i2l (v := h.toInt64) S.1 S.2.1 dX12_behind_10 rfl ?_
    refine lv_lconst (v := 0) S.1 S.2.1 dX12_behind_11 (by decide) ?_
    refine lv_ldc2 (v := 2) S.1 S.2.1 S.2.2.2.1 (S.2.2.2.2 _ qX12_behind_237) dX12_behind_12 ?_
    refine uc_Si (As := [.long h.toInt64, .long 0, .long 2]) (rest := []) S hK hA Z (c_X12_in l G h 0 2 _ _ _ rfl (by decide) (by decide) M) (va_cwS 3 S.2.2.2.2 gX12_behind_X12_in rfl rfl rfl (by decide +kernel) ⟨Nat.le_of_ble_eq_true rfl, Nat.le_of_ble_eq_true rfl⟩) rfl hl.1 rfl (Nat.le_of_ble_eq_true rfl) dX12_behind_15 ⟨Nat.zero_le _, Nat.zero_le _⟩ (fun r_3 M_3 H locs hp Z => ?_)
    obtain ⟨⟨rfl, w_3⟩ | ⟨rfl, w_3⟩, hM_3⟩ := hp
    · skip
      rw [hM_3] at Z
      refine lv_if_ne (tgt := 24) S.1 S.2.1 dX12_behind_18 (by decide) (fun _ => ?_) (fun c => absurd c (by decide))
      rcases in3 (show inr h 0 2 by assumption) with rfl | rfl | rfl
      · skip
        obtain ⟨j, hj, rfl⟩ := u_in0 (n := 11) (show inr t 0 11 by assumption) (by decide)
        refine lv_aload_n S.1 S.2.1 dX12_behind_24 rfl (lv_at hl 0 rfl) ?_
        refine uc_Vi (As := []) (rest := []) S hK hA Z (c_X12_refusal l G M w s n hr hw hs80 hn ho) (cwV 0 S.2.2.2.2 gX12_behind_X12_refusal rfl rfl rfl (by decide +kernel) ⟨Nat.le_of_ble_eq_true rfl, Nat.le_of_ble_eq_true rfl⟩) (by decide) rfl rfl rfl hl.1 rfl (Nat.le_of_ble_eq_true rfl) dX12_behind_25 ⟨Nat.zero_le _, Nat.zero_le _⟩ (fun r_5 M_5 H locs hp Z => ?_)
        obtain ⟨B, w1, hd, sl, cm, ba, wy, fs, ft, hM, hB, ⟨rfl, hf⟩ | ⟨a, hx, rfl, h17⟩ | ⟨a, hx, rfl⟩⟩ := hp
        · skip
          rw [hM] at Z
          have hw1 := hB.2.2.2.1
          have hsm := mSm_Mn hB.2.2.2.2 sl cm ba wy fs ft
          refine lv_istore_n (lv' := [(3, .int (-5)), (0, .ref (G.2.2 71)), (1, .int (nI j)), (2, .int 0)]) S.1 S.2.1 dX12_behind_28 rfl hl (by decide) rfl (fun ls hl => ?_)
          refine lv_aload_n S.1 S.2.1 dX12_behind_29 rfl (lv_at hl 1 rfl) ?_
          refine lv_iload_n S.1 S.2.1 dX12_behind_30 rfl (lv_at hl 0 rfl) ?_
          refine lv_bipush (v := (-6)) S.1 S.2.1 dX12_behind_31 (by decide) ?_
          refine lv_icmp_eq (tgt := 40) S.1 S.2.1 dX12_behind_33 (by decide) (fun c => absurd c (by decide)) (fun _ => ?_)
          refine lv_iload_n S.1 S.2.1 dX12_behind_36 rfl (lv_at hl 0 rfl) ?_
          refine lv_goto (tgt := 72) S.1 S.2.1 dX12_behind_37 (by decide) ?_
          refine ud_Vi (As := [.int (-5)]) (rest := []) S hK hA Z (c_X12_back l G (-5) (uMn B sl cm ba wy fs ft) w1 w hd (fun i => (uMn_o _ _ _ _ _ _ _ _ (by decide)).trans (hB.1 i)) hB.2.1 hB.2.2.1 (wOk_z hw1) (wOk_z hw)) (cwV 1 S.2.2.2.2 gX12_behind_X12_back rfl rfl rfl (by decide +kernel) ⟨Nat.le_of_ble_eq_true rfl, Nat.le_of_ble_eq_true rfl⟩) (by decide) rfl rfl rfl hl.1 rfl (Nat.le_of_ble_eq_true rfl) dX12_behind_72 ⟨Nat.zero_le _, Nat.zero_le _⟩ (fun H locs Z => ?_)
          refine uret_i S hK Z hre hlk dX12_behind_75 ?_
          exact ⟨Or.inr (Or.inr ⟨u_inn0 (by omega) (by decide), (show inr _ 0 2 from ⟨by decide, by decide⟩), Or.inl ⟨hf, rfl⟩⟩), hsm⟩
        · skip
          rw [hM] at Z
          have hw1 := hB.2.2.2.1
          have hsm := mSm_Mn hB.2.2.2.2 sl cm ba wy fs ft
          refine lv_istore_n (lv' := [(3, .int (-6)), (0, .ref (G.2.2 71)), (1, .int (nI j)), (2, .int 0)]) S.1 S.2.1 dX12_behind_28 rfl hl (by decide) rfl (fun ls hl => ?_)
          refine lv_aload_n S.1 S.2.1 dX12_behind_29 rfl (lv_at hl 1 rfl) ?_
          refine lv_iload_n S.1 S.2.1 dX12_behind_30 rfl (lv_at hl 0 rfl) ?_
          refine lv_bipush (v := (-6)) S.1 S.2.1 dX12_behind_31 (by decide) ?_
          refine lv_icmp_eq (tgt := 40) S.1 S.2.1 dX12_behind_33 (by decide) (fun _ => ?_) (fun c => absurd c (by decide))
          refine lv_iload_n S.1 S.2.1 dX12_behind_40 rfl (lv_at hl 3 rfl) ?_
          refine lv_if_ne (tgt := 53) S.1 S.2.1 dX12_behind_41 (by decide) (fun c => absurd c (by decide)) (fun _ => ?_)
          refine lv_aload_n S.1 S.2.1 dX12_behind_44 rfl (lv_at hl 1 rfl) ?_
          refine ug_r S hK Z (j := 0) 72 (by decide) rfl rfl rfl (by decide) iX12_behind_X12 qX12_behind_7 dX12_behind_45 ?_
          refine lv_iload_n S.1 S.2.1 dX12_behind_48 rfl (lv_at hl 2 rfl) ?_
          refine ua_ild S hK Z j (by decide) rfl rfl (by omega) dX12_behind_49 ?_
          refine utop (y := (nI (w1 1 j))) (uPM_r (uMn B sl cm ba wy fs ft) w1 j (j := 1) (by decide)) ?_
          refine lv_goto (tgt := 72) S.1 S.2.1 dX12_behind_50 (by decide) ?_
          refine ud_Vi (As := [.int (nI (w1 1 j))]) (rest := []) S hK hA Z (c_X12_back l G (nI (w1 1 j)) (uMn B sl cm ba wy fs ft) w1 w hd (fun i => (uMn_o _ _ _ _ _ _ _ _ (by decide)).trans (hB.1 i)) hB.2.1 hB.2.2.1 (wOk_z hw1) (wOk_z hw)) (cwV 1 S.2.2.2.2 gX12_behind_X12_back rfl rfl rfl (by decide +kernel) ⟨Nat.le_of_ble_eq_true rfl, Nat.le_of_ble_eq_true rfl⟩) (by decide) rfl rfl rfl hl.1 rfl (Nat.le_of_ble_eq_true rfl) dX12_behind_72 ⟨Nat.zero_le _, Nat.zero_le _⟩ (fun H locs Z => ?_)
          refine uret_i S hK Z hre hlk dX12_behind_75 ?_
          refine ⟨Or.inr (Or.inr ⟨u_inn0 (by omega) (by decide), (show inr _ 0 2 from ⟨by decide, by decide⟩), Or.inr ⟨0, _, hx, ?_⟩⟩), hsm⟩
          dsimp only
          rw [if_neg (show ¬ (0 : Int32) = -3 by decide), if_pos rfl, nI_clamp (show j < 2 ^ 31 by omega)]
        · skip
          rw [hM] at Z
          have hw1 := hB.2.2.2.1
          have hsm := mSm_Mn hB.2.2.2.2 sl cm ba wy fs ft
          refine lv_istore_n (lv' := [(3, .int (-3)), (0, .ref (G.2.2 71)), (1, .int (nI j)), (2, .int 0)]) S.1 S.2.1 dX12_behind_28 rfl hl (by decide) rfl (fun ls hl => ?_)
          refine lv_aload_n S.1 S.2.1 dX12_behind_29 rfl (lv_at hl 1 rfl) ?_
          refine lv_iload_n S.1 S.2.1 dX12_behind_30 rfl (lv_at hl 0 rfl) ?_
          refine lv_bipush (v := (-6)) S.1 S.2.1 dX12_behind_31 (by decide) ?_
          refine lv_icmp_eq (tgt := 40) S.1 S.2.1 dX12_behind_33 (by decide) (fun c => absurd c (by decide)) (fun _ => ?_)
          refine lv_iload_n S.1 S.2.1 dX12_behind_36 rfl (lv_at hl 0 rfl) ?_
          refine lv_goto (tgt := 72) S.1 S.2.1 dX12_behind_37 (by decide) ?_
          refine ud_Vi (As := [.int (-3)]) (rest := []) S hK hA Z (c_X12_back l G (-3) (uMn B sl cm ba wy fs ft) w1 w hd (fun i => (uMn_o _ _ _ _ _ _ _ _ (by decide)).trans (hB.1 i)) hB.2.1 hB.2.2.1 (wOk_z hw1) (wOk_z hw)) (cwV 1 S.2.2.2.2 gX12_behind_X12_back rfl rfl rfl (by decide +kernel) ⟨Nat.le_of_ble_eq_true rfl, Nat.le_of_ble_eq_true rfl⟩) (by decide) rfl rfl rfl hl.1 rfl (Nat.le_of_ble_eq_true rfl) dX12_behind_72 ⟨Nat.zero_le _, Nat.zero_le _⟩ (fun H locs Z => ?_)
          refine uret_i S hK Z hre hlk dX12_behind_75 ?_
          refine ⟨Or.inr (Or.inr ⟨u_inn0 (by omega) (by decide), (show inr _ 0 2 from ⟨by decide, by decide⟩), Or.inr ⟨-3, _, hx, ?_⟩⟩), hsm⟩
          exact (if_pos rfl).symm
      · skip
        obtain ⟨j, hj, rfl⟩ := u_in0 (n := 11) (show inr t 0 11 by assumption) (by decide)
        refine lv_aload_n S.1 S.2.1 dX12_behind_24 rfl (lv_at hl 0 rfl) ?_
        refine uc_Vi (As := []) (rest := []) S hK hA Z (c_X12_refusal l G M w s n hr hw hs80 hn ho) (cwV 0 S.2.2.2.2 gX12_behind_X12_refusal rfl rfl rfl (by decide +kernel) ⟨Nat.le_of_ble_eq_true rfl, Nat.le_of_ble_eq_true rfl⟩) (by decide) rfl rfl rfl hl.1 rfl (Nat.le_of_ble_eq_true rfl) dX12_behind_25 ⟨Nat.zero_le _, Nat.zero_le _⟩ (fun r_13 M_13 H locs hp Z => ?_)
        obtain ⟨B, w1, hd, sl, cm, ba, wy, fs, ft, hM, hB, ⟨rfl, hf⟩ | ⟨a, hx, rfl, h17⟩ | ⟨a, hx, rfl⟩⟩ := hp
        · skip
          rw [hM] at Z
          have hw1 := hB.2.2.2.1
          have hsm := mSm_Mn hB.2.2.2.2 sl cm ba wy fs ft
          refine lv_istore_n (lv' := [(3, .int (-5)), (0, .ref (G.2.2 71)), (1, .int (nI j)), (2, .int 1)]) S.1 S.2.1 dX12_behind_28 rfl hl (by decide) rfl (fun ls hl => ?_)
          refine lv_aload_n S.1 S.2.1 dX12_behind_29 rfl (lv_at hl 1 rfl) ?_
          refine lv_iload_n S.1 S.2.1 dX12_behind_30 rfl (lv_at hl 0 rfl) ?_
          refine lv_bipush (v := (-6)) S.1 S.2.1 dX12_behind_31 (by decide) ?_
          refine lv_icmp_eq (tgt := 40) S.1 S.2.1 dX12_behind_33 (by decide) (fun c => absurd c (by decide)) (fun _ => ?_)
          refine lv_iload_n S.1 S.2.1 dX12_behind_36 rfl (lv_at hl 0 rfl) ?_
          refine lv_goto (tgt := 72) S.1 S.2.1 dX12_behind_37 (by decide) ?_
          refine ud_Vi (As := [.int (-5)]) (rest := []) S hK hA Z (c_X12_back l G (-5) (uMn B sl cm ba wy fs ft) w1 w hd (fun i => (uMn_o _ _ _ _ _ _ _ _ (by decide)).trans (hB.1 i)) hB.2.1 hB.2.2.1 (wOk_z hw1) (wOk_z hw)) (cwV 1 S.2.2.2.2 gX12_behind_X12_back rfl rfl rfl (by decide +kernel) ⟨Nat.le_of_ble_eq_true rfl, Nat.le_of_ble_eq_true rfl⟩) (by decide) rfl rfl rfl hl.1 rfl (Nat.le_of_ble_eq_true rfl) dX12_behind_72 ⟨Nat.zero_le _, Nat.zero_le _⟩ (fun H locs Z => ?_)
          refine uret_i S hK Z hre hlk dX12_behind_75 ?_
          exact ⟨Or.inr (Or.inr ⟨u_inn0 (by omega) (by decide), (show inr _ 0 2 from ⟨by decide, by decide⟩), Or.inl ⟨hf, rfl⟩⟩), hsm⟩
        · skip
          rw [hM] at Z
          have hw1 := hB.2.2.2.1
          have hsm := mSm_Mn hB.2.2.2.2 sl cm ba wy fs ft
          refine lv_istore_n (lv' := [(3, .int (-6)), (0, .ref (G.2.2 71)), (1, .int (nI j)), (2, .int 1)]) S.1 S.2.1 dX12_behind_28 rfl hl (by decide) rfl (fun ls hl => ?_)
          refine lv_aload_n S.1 S.2.1 dX12_behind_29 rfl (lv_at hl 1 rfl) ?_
          refine lv_iload_n S.1 S.2.1 dX12_behind_30 rfl (lv_at hl 0 rfl) ?_
          refine lv_bipush (v := (-6)) S.1 S.2.1 dX12_behind_31 (by decide) ?_
          refine lv_icmp_eq (tgt := 40) S.1 S.2.1 dX12_behind_33 (by decide) (fun _ => ?_) (fun c => absurd c (by decide))
          refine lv_iload_n S.1 S.2.1 dX12_behind_40 rfl (lv_at hl 3 rfl) ?_
          refine lv_if_ne (tgt := 53) S.1 S.2.1 dX12_behind_41 (by decide) (fun _ => ?_) (fun c => absurd c (by decide))
          refine lv_iload_n S.1 S.2.1 dX12_behind_53 rfl (lv_at hl 3 rfl) ?_
          refine lv_iconst (v := 1) S.1 S.2.1 dX12_behind_54 (by decide) ?_
          refine lv_icmp_ne (tgt := 67) S.1 S.2.1 dX12_behind_55 (by decide) (fun c => absurd c (by decide)) (fun _ => ?_)
          refine lv_aload_n S.1 S.2.1 dX12_behind_58 rfl (lv_at hl 1 rfl) ?_
          refine ug_r S hK Z (j := 1) 73 (by decide) rfl rfl rfl (by decide) iX12_behind_X12 qX12_behind_13 dX12_behind_59 ?_
          refine lv_iload_n S.1 S.2.1 dX12_behind_62 rfl (lv_at hl 2 rfl) ?_
          refine ua_ild S hK Z j (by decide) rfl rfl (by omega) dX12_behind_63 ?_
          refine utop (y := (nI (w1 2 j))) (uPM_r (uMn B sl cm ba wy fs ft) w1 j (j := 2) (by decide)) ?_
          refine lv_goto (tgt := 72) S.1 S.2.1 dX12_behind_64 (by decide) ?_
          refine ud_Vi (As := [.int (nI (w1 2 j))]) (rest := []) S hK hA Z (c_X12_back l G (nI (w1 2 j)) (uMn B sl cm ba wy fs ft) w1 w hd (fun i => (uMn_o _ _ _ _ _ _ _ _ (by decide)).trans (hB.1 i)) hB.2.1 hB.2.2.1 (wOk_z hw1) (wOk_z hw)) (cwV 1 S.2.2.2.2 gX12_behind_X12_back rfl rfl rfl (by decide +kernel) ⟨Nat.le_of_ble_eq_true rfl, Nat.le_of_ble_eq_true rfl⟩) (by decide) rfl rfl rfl hl.1 rfl (Nat.le_of_ble_eq_true rfl) dX12_behind_72 ⟨Nat.zero_le _, Nat.zero_le _⟩ (fun H locs Z => ?_)
          refine uret_i S hK Z hre hlk dX12_behind_75 ?_
          refine ⟨Or.inr (Or.inr ⟨u_inn0 (by omega) (by decide), (show inr _ 0 2 from ⟨by decide, by decide⟩), Or.inr ⟨0, _, hx, ?_⟩⟩), hsm⟩
          dsimp only
          rw [if_neg (show ¬ (0 : Int32) = -3 by decide), if_neg (by decide), if_pos rfl, nI_clamp (show j < 2 ^ 31 by omega)]
        · skip
          rw [hM] at Z
          have hw1 := hB.2.2.2.1
          have hsm := mSm_Mn hB.2.2.2.2 sl cm ba wy fs ft
          refine lv_istore_n (lv' := [(3, .int (-3)), (0, .ref (G.2.2 71)), (1, .int (nI j)), (2, .int 1)]) S.1 S.2.1 dX12_behind_28 rfl hl (by decide) rfl (fun ls hl => ?_)
          refine lv_aload_n S.1 S.2.1 dX12_behind_29 rfl (lv_at hl 1 rfl) ?_
          refine lv_iload_n S.1 S.2.1 dX12_behind_30 rfl (lv_at hl 0 rfl) ?_
          refine lv_bipush (v := (-6)) S.1 S.2.1 dX12_behind_31 (by decide) ?_
          refine lv_icmp_eq (tgt := 40) S.1 S.2.1 dX12_behind_33 (by decide) (fun c => absurd c (by decide)) (fun _ => ?_)
          refine lv_iload_n S.1 S.2.1 dX12_behind_36 rfl (lv_at hl 0 rfl) ?_
          refine lv_goto (tgt := 72) S.1 S.2.1 dX12_behind_37 (by decide) ?_
          refine ud_Vi (As := [.int (-3)]) (rest := []) S hK hA Z (c_X12_back l G (-3) (uMn B sl cm ba wy fs ft) w1 w hd (fun i => (uMn_o _ _ _ _ _ _ _ _ (by decide)).trans (hB.1 i)) hB.2.1 hB.2.2.1 (wOk_z hw1) (wOk_z hw)) (cwV 1 S.2.2.2.2 gX12_behind_X12_back rfl rfl rfl (by decide +kernel) ⟨Nat.le_of_ble_eq_true rfl, Nat.le_of_ble_eq_true rfl⟩) (by decide) rfl rfl rfl hl.1 rfl (Nat.le_of_ble_eq_true rfl) dX12_behind_72 ⟨Nat.zero_le _, Nat.zero_le _⟩ (fun H locs Z => ?_)
          refine uret_i S hK Z hre hlk dX12_behind_75 ?_
          refine ⟨Or.inr (Or.inr ⟨u_inn0 (by omega) (by decide), (show inr _ 0 2 from ⟨by decide, by decide⟩), Or.inr ⟨-3, _, hx, ?_⟩⟩), hsm⟩
          exact (if_pos rfl).symm
      · skip
        obtain ⟨j, hj, rfl⟩ := u_in0 (n := 11) (show inr t 0 11 by assumption) (by decide)
        refine lv_aload_n S.1 S.2.1 dX12_behind_24 rfl (lv_at hl 0 rfl) ?_
        refine uc_Vi (As := []) (rest := []) S hK hA Z (c_X12_refusal l G M w s n hr hw hs80 hn ho) (cwV 0 S.2.2.2.2 gX12_behind_X12_refusal rfl rfl rfl (by decide +kernel) ⟨Nat.le_of_ble_eq_true rfl, Nat.le_of_ble_eq_true rfl⟩) (by decide) rfl rfl rfl hl.1 rfl (Nat.le_of_ble_eq_true rfl) dX12_behind_25 ⟨Nat.zero_le _, Nat.zero_le _⟩ (fun r_22 M_22 H locs hp Z => ?_)
        obtain ⟨B, w1, hd, sl, cm, ba, wy, fs, ft, hM, hB, ⟨rfl, hf⟩ | ⟨a, hx, rfl, h17⟩ | ⟨a, hx, rfl⟩⟩ := hp
        · skip
          rw [hM] at Z
          have hw1 := hB.2.2.2.1
          have hsm := mSm_Mn hB.2.2.2.2 sl cm ba wy fs ft
          refine lv_istore_n (lv' := [(3, .int (-5)), (0, .ref (G.2.2 71)), (1, .int (nI j)), (2, .int 2)]) S.1 S.2.1 dX12_behind_28 rfl hl (by decide) rfl (fun ls hl => ?_)
          refine lv_aload_n S.1 S.2.1 dX12_behind_29 rfl (lv_at hl 1 rfl) ?_
          refine lv_iload_n S.1 S.2.1 dX12_behind_30 rfl (lv_at hl 0 rfl) ?_
          refine lv_bipush (v := (-6)) S.1 S.2.1 dX12_behind_31 (by decide) ?_
          refine lv_icmp_eq (tgt := 40) S.1 S.2.1 dX12_behind_33 (by decide) (fun c => absurd c (by decide)) (fun _ => ?_)
          refine lv_iload_n S.1 S.2.1 dX12_behind_36 rfl (lv_at hl 0 rfl) ?_
          refine lv_goto (tgt := 72) S.1 S.2.1 dX12_behind_37 (by decide) ?_
          refine ud_Vi (As := [.int (-5)]) (rest := []) S hK hA Z (c_X12_back l G (-5) (uMn B sl cm ba wy fs ft) w1 w hd (fun i => (uMn_o _ _ _ _ _ _ _ _ (by decide)).trans (hB.1 i)) hB.2.1 hB.2.2.1 (wOk_z hw1) (wOk_z hw)) (cwV 1 S.2.2.2.2 gX12_behind_X12_back rfl rfl rfl (by decide +kernel) ⟨Nat.le_of_ble_eq_true rfl, Nat.le_of_ble_eq_true rfl⟩) (by decide) rfl rfl rfl hl.1 rfl (Nat.le_of_ble_eq_true rfl) dX12_behind_72 ⟨Nat.zero_le _, Nat.zero_le _⟩ (fun H locs Z => ?_)
          refine uret_i S hK Z hre hlk dX12_behind_75 ?_
          exact ⟨Or.inr (Or.inr ⟨u_inn0 (by omega) (by decide), (show inr _ 0 2 from ⟨by decide, by decide⟩), Or.inl ⟨hf, rfl⟩⟩), hsm⟩
        · skip
          rw [hM] at Z
          have hw1 := hB.2.2.2.1
          have hsm := mSm_Mn hB.2.2.2.2 sl cm ba wy fs ft
          refine lv_istore_n (lv' := [(3, .int (-6)), (0, .ref (G.2.2 71)), (1, .int (nI j)), (2, .int 2)]) S.1 S.2.1 dX12_behind_28 rfl hl (by decide) rfl (fun ls hl => ?_)
          refine lv_aload_n S.1 S.2.1 dX12_behind_29 rfl (lv_at hl 1 rfl) ?_
          refine lv_iload_n S.1 S.2.1 dX12_behind_30 rfl (lv_at hl 0 rfl) ?_
          refine lv_bipush (v := (-6)) S.1 S.2.1 dX12_behind_31 (by decide) ?_
          refine lv_icmp_eq (tgt := 40) S.1 S.2.1 dX12_behind_33 (by decide) (fun _ => ?_) (fun c => absurd c (by decide))
          refine lv_iload_n S.1 S.2.1 dX12_behind_40 rfl (lv_at hl 3 rfl) ?_
          refine lv_if_ne (tgt := 53) S.1 S.2.1 dX12_behind_41 (by decide) (fun _ => ?_) (fun c => absurd c (by decide))
          refine lv_iload_n S.1 S.2.1 dX12_behind_53 rfl (lv_at hl 3 rfl) ?_
          refine lv_iconst (v := 1) S.1 S.2.1 dX12_behind_54 (by decide) ?_
          refine lv_icmp_ne (tgt := 67) S.1 S.2.1 dX12_behind_55 (by decide) (fun _ => ?_) (fun c => absurd c (by decide))
          refine lv_aload_n S.1 S.2.1 dX12_behind_67 rfl (lv_at hl 1 rfl) ?_
          refine lv_iload_n S.1 S.2.1 dX12_behind_68 rfl (lv_at hl 2 rfl) ?_
          refine ud_Vi (As := [.int (nI j)]) (rest := [.ref (G.2.2 71)]) S hK hA Z (c_X12_price l G j (by omega) (uPM (uMn B sl cm ba wy fs ft) w1) w1 (uPM_md _ _) hw1) (cwV 1 S.2.2.2.2 gX12_behind_X12_price rfl rfl rfl (by decide +kernel) ⟨Nat.le_of_ble_eq_true rfl, Nat.le_of_ble_eq_true rfl⟩) (by decide) rfl rfl rfl hl.1 rfl (Nat.le_of_ble_eq_true rfl) dX12_behind_69 ⟨Nat.zero_le _, Nat.zero_le _⟩ (fun H locs Z => ?_)
          have b8 := wPrice_l2 hw1 (show j < 12 by omega)
          refine ud_Vi (As := [.int (nI (wPrice w1 j))]) (rest := []) S hK hA Z (c_X12_back l G (nI (wPrice w1 j)) (uMn B sl cm ba wy fs ft) w1 w hd (fun i => (uMn_o _ _ _ _ _ _ _ _ (by decide)).trans (hB.1 i)) hB.2.1 hB.2.2.1 (wOk_z hw1) (wOk_z hw)) (cwV 1 S.2.2.2.2 gX12_behind_X12_back rfl rfl rfl (by decide +kernel) ⟨Nat.le_of_ble_eq_true rfl, Nat.le_of_ble_eq_true rfl⟩) (by decide) rfl rfl rfl hl.1 rfl (Nat.le_of_ble_eq_true rfl) dX12_behind_72 ⟨Nat.zero_le _, Nat.zero_le _⟩ (fun H locs Z => ?_)
          refine uret_i S hK Z hre hlk dX12_behind_75 ?_
          refine ⟨Or.inr (Or.inr ⟨u_inn0 (by omega) (by decide), (show inr _ 0 2 from ⟨by decide, by decide⟩), Or.inr ⟨0, _, hx, ?_⟩⟩), hsm⟩
          dsimp only
          rw [if_neg (show ¬ (0 : Int32) = -3 by decide), if_neg (by decide), if_neg (by decide), nI_clamp (show j < 2 ^ 31 by omega)]
        · skip
          rw [hM] at Z
          have hw1 := hB.2.2.2.1
          have hsm := mSm_Mn hB.2.2.2.2 sl cm ba wy fs ft
          refine lv_istore_n (lv' := [(3, .int (-3)), (0, .ref (G.2.2 71)), (1, .int (nI j)), (2, .int 2)]) S.1 S.2.1 dX12_behind_28 rfl hl (by decide) rfl (fun ls hl => ?_)
          refine lv_aload_n S.1 S.2.1 dX12_behind_29 rfl (lv_at hl 1 rfl) ?_
          refine lv_iload_n S.1 S.2.1 dX12_behind_30 rfl (lv_at hl 0 rfl) ?_
          refine lv_bipush (v := (-6)) S.1 S.2.1 dX12_behind_31 (by decide) ?_
          refine lv_icmp_eq (tgt := 40) S.1 S.2.1 dX12_behind_33 (by decide) (fun c => absurd c (by decide)) (fun _ => ?_)
          refine lv_iload_n S.1 S.2.1 dX12_behind_36 rfl (lv_at hl 0 rfl) ?_
          refine lv_goto (tgt := 72) S.1 S.2.1 dX12_behind_37 (by decide) ?_
          refine ud_Vi (As := [.int (-3)]) (rest := []) S hK hA Z (c_X12_back l G (-3) (uMn B sl cm ba wy fs ft) w1 w hd (fun i => (uMn_o _ _ _ _ _ _ _ _ (by decide)).trans (hB.1 i)) hB.2.1 hB.2.2.1 (wOk_z hw1) (wOk_z hw)) (cwV 1 S.2.2.2.2 gX12_behind_X12_back rfl rfl rfl (by decide +kernel) ⟨Nat.le_of_ble_eq_true rfl, Nat.le_of_ble_eq_true rfl⟩) (by decide) rfl rfl rfl hl.1 rfl (Nat.le_of_ble_eq_true rfl) dX12_behind_72 ⟨Nat.zero_le _, Nat.zero_le _⟩ (fun H locs Z => ?_)
          refine uret_i S hK Z hre hlk dX12_behind_75 ?_
          refine ⟨Or.inr (Or.inr ⟨u_inn0 (by omega) (by decide), (show inr _ 0 2 from ⟨by decide, by decide⟩), Or.inr ⟨-3, _, hx, ?_⟩⟩), hsm⟩
          exact (if_pos rfl).symm
    · skip
      rw [hM_3] at Z
      refine lv_if_ne (tgt := 24) S.1 S.2.1 dX12_behind_18 (by decide) (fun c => absurd c (by decide)) (fun _ => ?_)
      refine lv_bipush (v := (-2)) S.1 S.2.1 dX12_behind_21 (by decide) ?_
      refine uret_i S hK Z hre hlk dX12_behind_23 ?_
      exact ⟨Or.inr (Or.inl ⟨by assumption, by assumption, rfl⟩), mSm_rf _⟩
  · skip
    rw [hM_1] at Z
    refine lv_if_ne (tgt := 9) S.1 S.2.1 dX12_behind_4 (by decide) (fun c => absurd c (by decide)) (fun _ => ?_)
    refine lv_iconst (v := (-1)) S.1 S.2.1 dX12_behind_7 (by decide) ?_
    refine uret_i S hK Z hre hlk dX12_behind_8 ?_
    exact ⟨Or.inl ⟨by assumption, rfl⟩, mSm_rf _⟩
set_option maxHeartbeats 4000000 in
set_option maxRecDepth 100000 in
theorem c_X12_purse (l : Launch) (G : uG) (k h : Int32) (M : uM) (w : Nat → Nat → Nat) (s : Nat → Nat) (n : Nat) (hr : uMd M w) (hw : wOk w) (hs80 : ∀ i, M.1 80 i = nI (s i)) (hn : M.1 71 12 = nI n) (ho : pdOk s n) : CTi l G yX12_purse wsX12_purse 7 151 [.ref (G.2.2 71), .int k, .int h] M (fun r M2 => SpPurse s n w k h r ∧ mSm M M2) := by
  refine ustart_i (cc := cX12_purse) (maxL := 4) (ret := (some .int)) (own := RX12) rfl (by decide) rfl (Nat.le_of_ble_eq_true rfl) ?_
  intro xp xe xs xm xa xb xt xc xA ls S hK hA Z hre hlk hl
  have hl : lv_has ls 4 [(0, .ref (G.2.2 71)), (1, .int k), (2, .int h)] := hl
  refine lv_iload_n S.1 S.2.1 dX12_purse_0 rfl (lv_at hl 1 rfl) ?_
  refine uc_Si (As := [.int k]) (rest := []) S hK hA Z (c_X12_isOne l G k M) (va_cwS 1 S.2.2.2.2 gX12_purse_X12_isOne rfl rfl rfl (by decide +kernel) ⟨Nat.le_of_ble_eq_true rfl, Nat.le_of_ble_eq_true rfl⟩) rfl hl.1 rfl (Nat.le_of_ble_eq_true rfl) dX12_purse_1 ⟨Nat.zero_le _, Nat.zero_le _⟩ (fun r_1 M_1 H locs hp Z => ?_)
  obtain ⟨⟨rfl, w_1⟩ | ⟨rfl, w_1⟩, hM_1⟩ := hp
  · skip
    rw [hM_1] at Z
    refine lv_if_ne (tgt := 9) S.1 S.2.1 dX12_purse_4 (by decide) (fun _ => ?_) (fun c => absurd c (by decide))
    refine lv_iload_n S.1 S.2.1 dX12_purse_9 rfl (lv_at hl 2 rfl) ?_
    refine lv_i2l (v := h.toInt64) S.1 S.2.1 dX12_purse_10 rfl ?_
    refine lv_lconst (v := 0) S.1 S.2.1 dX12_purse_11 (by decide) ?_
    refine lv_ldc2 (v := 2) S.1 S.2.1 S.2.2.2.1 (S.2.2.2.2 _ qX12_purse_237) dX12_purse_12 ?_
    refine uc_Si (As := [.long h.toInt64, .long 0, .long 2]) (rest := []) S hK hA Z (c_X12_in l G h 0 2 _ _ _ rfl (by decide) (by decide) M) (va_cwS 3 S.2.2.2.2 gX12_purse_X12_in rfl rfl rfl (by decide +kernel) ⟨Nat.le_of_ble_eq_true rfl, Nat.le_of_ble_eq_true rfl⟩) rfl hl.1 rfl (Nat.le_of_ble_eq_true rfl) dX12_purse_15 ⟨Nat.zero_le _, Nat.zero_le _⟩ (fun r_3 M_3 H locs hp Z => ?_)
    obtain ⟨⟨rfl, w_3⟩ | ⟨rfl, w_3⟩, hM_3⟩ := hp
    · skip
      rw [hM_3] at Z
      refine lv_if_ne (tgt := 24) S.1 S.2.1 dX12_purse_18 (by decide) (fun _ => ?_) (fun c => absurd c (by decide))
      rcases in3 (show inr h 0 2 by assumption) with rfl | rfl | rfl
      · skip
        obtain ⟨j, hj, rfl⟩ := u_in0 (n := 7) (show inr k 0 7 by assumption) (by decide)
        refine lv_aload_n S.1 S.2.1 dX12_purse_24 rfl (lv_at hl 0 rfl) ?_
        refine uc_Vi (As := []) (rest := []) S hK hA Z (c_X12_refusal l G M w s n hr hw hs80 hn ho) (cwV 0 S.2.2.2.2 gX12_purse_X12_refusal rfl rfl rfl (by decide +kernel) ⟨Nat.le_of_ble_eq_true rfl, Nat.le_of_ble_eq_true rfl⟩) (by decide) rfl rfl rfl hl.1 rfl (Nat.le_of_ble_eq_true rfl) dX12_purse_25 ⟨Nat.zero_le _, Nat.zero_le _⟩ (fun r_5 M_5 H locs hp Z => ?_)
        obtain ⟨B, w1, hd, sl, cm, ba, wy, fs, ft, hM, hB, ⟨rfl, hf⟩ | ⟨a, hx, rfl, h17⟩ | ⟨a, hx, rfl⟩⟩ := hp
        · skip
          rw [hM] at Z
          have hw1 := hB.2.2.2.1
          have hsm := mSm_Mn hB.2.2.2.2 sl cm ba wy fs ft
          refine lv_istore_n (lv' := [(3, .int (-5)), (0, .ref (G.2.2 71)), (1, .int (nI j)), (2, .int 0)]) S.1 S.2.1 dX12_purse_28 rfl hl (by decide) rfl (fun ls hl => ?_)
          refine lv_aload_n S.1 S.2.1 dX12_purse_29 rfl (lv_at hl 1 rfl) ?_
          refine lv_iload_n S.1 S.2.1 dX12_purse_30 rfl (lv_at hl 0 rfl) ?_
          refine lv_bipush (v := (-6)) S.1 S.2.1 dX12_purse_31 (by decide) ?_
          refine lv_icmp_eq (tgt := 40) S.1 S.2.1 dX12_purse_33 (by decide) (fun c => absurd c (by decide)) (fun _ => ?_)
          refine lv_iload_n S.1 S.2.1 dX12_purse_36 rfl (lv_at hl 0 rfl) ?_
          refine lv_goto (tgt := 74) S.1 S.2.1 dX12_purse_37 (by decide) ?_
          refine ud_Vi (As := [.int (-5)]) (rest := []) S hK hA Z (c_X12_back l G (-5) (uMn B sl cm ba wy fs ft) w1 w hd (fun i => (uMn_o _ _ _ _ _ _ _ _ (by decide)).trans (hB.1 i)) hB.2.1 hB.2.2.1 (wOk_z hw1) (wOk_z hw)) (cwV 1 S.2.2.2.2 gX12_purse_X12_back rfl rfl rfl (by decide +kernel) ⟨Nat.le_of_ble_eq_true rfl, Nat.le_of_ble_eq_true rfl⟩) (by decide) rfl rfl rfl hl.1 rfl (Nat.le_of_ble_eq_true rfl) dX12_purse_74 ⟨Nat.zero_le _, Nat.zero_le _⟩ (fun H locs Z => ?_)
          refine uret_i S hK Z hre hlk dX12_purse_77 ?_
          exact ⟨Or.inr (Or.inr ⟨u_inn0 (by omega) (by decide), (show inr _ 0 2 from ⟨by decide, by decide⟩), Or.inl ⟨hf, rfl⟩⟩), hsm⟩
        · skip
          rw [hM] at Z
          have hw1 := hB.2.2.2.1
          have hsm := mSm_Mn hB.2.2.2.2 sl cm ba wy fs ft
          refine lv_istore_n (lv' := [(3, .int (-6)), (0, .ref (G.2.2 71)), (1, .int (nI j)), (2, .int 0)]) S.1 S.2.1 dX12_purse_28 rfl hl (by decide) rfl (fun ls hl => ?_)
          refine lv_aload_n S.1 S.2.1 dX12_purse_29 rfl (lv_at hl 1 rfl) ?_
          refine lv_iload_n S.1 S.2.1 dX12_purse_30 rfl (lv_at hl 0 rfl) ?_
          refine lv_bipush (v := (-6)) S.1 S.2.1 dX12_purse_31 (by decide) ?_
          refine lv_icmp_eq (tgt := 40) S.1 S.2.1 dX12_purse_33 (by decide) (fun _ => ?_) (fun c => absurd c (by decide))
          refine lv_iload_n S.1 S.2.1 dX12_purse_40 rfl (lv_at hl 3 rfl) ?_
          refine lv_if_ne (tgt := 53) S.1 S.2.1 dX12_purse_41 (by decide) (fun c => absurd c (by decide)) (fun _ => ?_)
          refine lv_aload_n S.1 S.2.1 dX12_purse_44 rfl (lv_at hl 1 rfl) ?_
          refine ug_r S hK Z (j := 4) 76 (by decide) rfl rfl rfl (by decide) iX12_purse_X12 qX12_purse_22 dX12_purse_45 ?_
          refine lv_iload_n S.1 S.2.1 dX12_purse_48 rfl (lv_at hl 2 rfl) ?_
          refine ua_ild S hK Z j (by decide) rfl rfl (by omega) dX12_purse_49 ?_
          refine utop (y := (nI (w1 5 j))) (uPM_r (uMn B sl cm ba wy fs ft) w1 j (j := 5) (by decide)) ?_
          refine lv_goto (tgt := 74) S.1 S.2.1 dX12_purse_50 (by decide) ?_
          refine ud_Vi (As := [.int (nI (w1 5 j))]) (rest := []) S hK hA Z (c_X12_back l G (nI (w1 5 j)) (uMn B sl cm ba wy fs ft) w1 w hd (fun i => (uMn_o _ _ _ _ _ _ _ _ (by decide)).trans (hB.1 i)) hB.2.1 hB.2.2.1 (wOk_z hw1) (wOk_z hw)) (cwV 1 S.2.2.2.2 gX12_purse_X12_back rfl rfl rfl (by decide +kernel) ⟨Nat.le_of_ble_eq_true rfl, Nat.le_of_ble_eq_true rfl⟩) (by decide) rfl rfl rfl hl.1 rfl (Nat.le_of_ble_eq_true rfl) dX12_purse_74 ⟨Nat.zero_le _, Nat.zero_le _⟩ (fun H locs Z => ?_)
          refine uret_i S hK Z hre hlk dX12_purse_77 ?_
          refine ⟨Or.inr (Or.inr ⟨u_inn0 (by omega) (by decide), (show inr _ 0 2 from ⟨by decide, by decide⟩), Or.inr ⟨0, _, hx, ?_⟩⟩), hsm⟩
          dsimp only
          rw [if_neg (show ¬ (0 : Int32) = -3 by decide), if_pos rfl, nI_clamp (show j < 2 ^ 31 by omega)]
        · skip
          rw [hM] at Z
          have hw1 := hB.2.2.2.1
          have hsm := mSm_Mn hB.2.2.2.2 sl cm ba wy fs ft
          refine lv_istore_n (lv' := [(3, .int (-3)), (0, .ref (G.2.2 71)), (1, .int (nI j)), (2, .int 0)]) S.1 S.2.1 dX12_purse_28 rfl hl (by decide) rfl (fun ls hl => ?_)
          refine lv_aload_n S.1 S.2.1 dX12_purse_29 rfl (lv_at hl 1 rfl) ?_
          refine lv_iload_n S.1 S.2.1 dX12_purse_30 rfl (lv_at hl 0 rfl) ?_
          refine lv_bipush (v := (-6)) S.1 S.2.1 dX12_purse_31 (by decide) ?_
          refine lv_icmp_eq (tgt := 40) S.1 S.2.1 dX12_purse_33 (by decide) (fun c => absurd c (by decide)) (fun _ => ?_)
          refine lv_iload_n S.1 S.2.1 dX12_purse_36 rfl (lv_at hl 0 rfl) ?_
          refine lv_goto (tgt := 74) S.1 S.2.1 dX12_purse_37 (by decide) ?_
          refine ud_Vi (As := [.int (-3)]) (rest := []) S hK hA Z (c_X12_back l G (-3) (uMn B sl cm ba wy fs ft) w1 w hd (fun i => (uMn_o _ _ _ _ _ _ _ _ (by decide)).trans (hB.1 i)) hB.2.1 hB.2.2.1 (wOk_z hw1) (wOk_z hw)) (cwV 1 S.2.2.2.2 gX12_purse_X12_back rfl rfl rfl (by decide +kernel) ⟨Nat.le_of_ble_eq_true rfl, Nat.le_of_ble_eq_true rfl⟩) (by decide) rfl rfl rfl hl.1 rfl (Nat.le_of_ble_eq_true rfl) dX12_purse_74 ⟨Nat.zero_le _, Nat.zero_le _⟩ (fun H locs Z => ?_)
          refine uret_i S hK Z hre hlk dX12_purse_77 ?_
          refine ⟨Or.inr (Or.inr ⟨u_inn0 (by omega) (by decide), (show inr _ 0 2 from ⟨by decide, by decide⟩), Or.inr ⟨-3, _, hx, ?_⟩⟩), hsm⟩
          exact (if_pos rfl).symm
      · skip
        obtain ⟨j, hj, rfl⟩ := u_in0 (n := 7) (show inr k 0 7 by assumption) (by decide)
        refine lv_aload_n S.1 S.2.1 dX12_purse_24 rfl (lv_at hl 0 rfl) ?_
        refine uc_Vi (As := []) (rest := []) S hK hA Z (c_X12_refusal l G M w s n hr hw hs80 hn ho) (cwV 0 S.2.2.2.2 gX12_purse_X12_refusal rfl rfl rfl (by decide +kernel) ⟨Nat.le_of_ble_eq_true rfl, Nat.le_of_ble_eq_true rfl⟩) (by decide) rfl rfl rfl hl.1 rfl (Nat.le_of_ble_eq_true rfl) dX12_purse_25 ⟨Nat.zero_le _, Nat.zero_le _⟩ (fun r_13 M_13 H locs hp Z => ?_)
        obtain ⟨B, w1, hd, sl, cm, ba, wy, fs, ft, hM, hB, ⟨rfl, hf⟩ | ⟨a, hx, rfl, h17⟩ | ⟨a, hx, rfl⟩⟩ := hp
        · skip
          rw [hM] at Z
          have hw1 := hB.2.2.2.1
          have hsm := mSm_Mn hB.2.2.2.2 sl cm ba wy fs ft
          refine lv_istore_n (lv' := [(3, .int (-5)), (0, .ref (G.2.2 71)), (1, .int (nI j)), (2, .int 1)]) S.1 S.2.1 dX12_purse_28 rfl hl (by decide) rfl (fun ls hl => ?_)
          refine lv_aload_n S.1 S.2.1 dX12_purse_29 rfl (lv_at hl 1 rfl) ?_
          refine lv_iload_n S.1 S.2.1 dX12_purse_30 rfl (lv_at hl 0 rfl) ?_
          refine lv_bipush (v := (-6)) S.1 S.2.1 dX12_purse_31 (by decide) ?_
          refine lv_icmp_eq (tgt := 40) S.1 S.2.1 dX12_purse_33 (by decide) (fun c => absurd c (by decide)) (fun _ => ?_)
          refine lv_iload_n S.1 S.2.1 dX12_purse_36 rfl (lv_at hl 0 rfl) ?_
          refine lv_goto (tgt := 74) S.1 S.2.1 dX12_purse_37 (by decide) ?_
          refine ud_Vi (As := [.int (-5)]) (rest := []) S hK hA Z (c_X12_back l G (-5) (uMn B sl cm ba wy fs ft) w1 w hd (fun i => (uMn_o _ _ _ _ _ _ _ _ (by decide)).trans (hB.1 i)) hB.2.1 hB.2.2.1 (wOk_z hw1) (wOk_z hw)) (cwV 1 S.2.2.2.2 gX12_purse_X12_back rfl rfl rfl (by decide +kernel) ⟨Nat.le_of_ble_eq_true rfl, Nat.le_of_ble_eq_true rfl⟩) (by decide) rfl rfl rfl hl.1 rfl (Nat.le_of_ble_eq_true rfl) dX12_purse_74 ⟨Nat.zero_le _, Nat.zero_le _⟩ (fun H locs Z => ?_)
          refine uret_i S hK Z hre hlk dX12_purse_77 ?_
          exact ⟨Or.inr (Or.inr ⟨u_inn0 (by omega) (by decide), (show inr _ 0 2 from ⟨by decide, by decide⟩), Or.inl ⟨hf, rfl⟩⟩), hsm⟩
        · skip
          rw [hM] at Z
          have hw1 := hB.2.2.2.1
          have hsm := mSm_Mn hB.2.2.2.2 sl cm ba wy fs ft
          refine lv_istore_n (lv' := [(3, .int (-6)), (0, .ref (G.2.2 71)), (1, .int (nI j)), (2, .int 1)]) S.1 S.2.1 dX12_purse_28 rfl hl (by decide) rfl (fun ls hl => ?_)
          refine lv_aload_n S.1 S.2.1 dX12_purse_29 rfl (lv_at hl 1 rfl) ?_
          refine lv_iload_n S.1 S.2.1 dX12_purse_30 rfl (lv_at hl 0 rfl) ?_
          refine lv_bipush (v := (-6)) S.1 S.2.1 dX12_purse_31 (by decide) ?_
          refine lv_icmp_eq (tgt := 40) S.1 S.2.1 dX12_purse_33 (by decide) (fun _ => ?_) (fun c => absurd c (by decide))
          refine lv_iload_n S.1 S.2.1 dX12_purse_40 rfl (lv_at hl 3 rfl) ?_
          refine lv_if_ne (tgt := 53) S.1 S.2.1 dX12_purse_41 (by decide) (fun _ => ?_) (fun c => absurd c (by decide))
          refine lv_iload_n S.1 S.2.1 dX12_purse_53 rfl (lv_at hl 3 rfl) ?_
          refine lv_iconst (v := 1) S.1 S.2.1 dX12_purse_54 (by decide) ?_
          refine lv_icmp_ne (tgt := 66) S.1 S.2.1 dX12_purse_55 (by decide) (fun c => absurd c (by decide)) (fun _ => ?_)
          refine lv_aload_n S.1 S.2.1 dX12_purse_58 rfl (lv_at hl 1 rfl) ?_
          refine lv_iload_n S.1 S.2.1 dX12_purse_59 rfl (lv_at hl 2 rfl) ?_
          refine ud_Vi (As := [.int (nI j)]) (rest := [.ref (G.2.2 71)]) S hK hA Z (c_X12_manyOf l G j (by omega) (uPM (uMn B sl cm ba wy fs ft) w1) w1 (uPM_md _ _) hw1) (cwV 1 S.2.2.2.2 gX12_purse_X12_manyOf rfl rfl rfl (by decide +kernel) ⟨Nat.le_of_ble_eq_true rfl, Nat.le_of_ble_eq_true rfl⟩) (by decide) rfl rfl rfl hl.1 rfl (Nat.le_of_ble_eq_true rfl) dX12_purse_60 ⟨Nat.zero_le _, Nat.zero_le _⟩ (fun H locs Z => ?_)
          refine lv_goto (tgt := 74) S.1 S.2.1 dX12_purse_63 (by decide) ?_
          refine ud_Vi (As := [.int (nI (wMany w1 j 12))]) (rest := []) S hK hA Z (c_X12_back l G (nI (wMany w1 j 12)) (uMn B sl cm ba wy fs ft) w1 w hd (fun i => (uMn_o _ _ _ _ _ _ _ _ (by decide)).trans (hB.1 i)) hB.2.1 hB.2.2.1 (wOk_z hw1) (wOk_z hw)) (cwV 1 S.2.2.2.2 gX12_purse_X12_back rfl rfl rfl (by decide +kernel) ⟨Nat.le_of_ble_eq_true rfl, Nat.le_of_ble_eq_true rfl⟩) (by decide) rfl rfl rfl hl.1 rfl (Nat.le_of_ble_eq_true rfl) dX12_purse_74 ⟨Nat.zero_le _, Nat.zero_le _⟩ (fun H locs Z => ?_)
          refine uret_i S hK Z hre hlk dX12_purse_77 ?_
          refine ⟨Or.inr (Or.inr ⟨u_inn0 (by omega) (by decide), (show inr _ 0 2 from ⟨by decide, by decide⟩), Or.inr ⟨0, _, hx, ?_⟩⟩), hsm⟩
          dsimp only
          rw [if_neg (show ¬ (0 : Int32) = -3 by decide), if_neg (by decide), if_pos rfl, nI_clamp (show j < 2 ^ 31 by omega)]
        · skip
          rw [hM] at Z
          have hw1 := hB.2.2.2.1
          have hsm := mSm_Mn hB.2.2.2.2 sl cm ba wy fs ft
          refine lv_istore_n (lv' := [(3, .int (-3)), (0, .ref (G.2.2 71)), (1, .int (nI j)), (2, .int 1)]) S.1 S.2.1 dX12_purse_28 rfl hl (by decide) rfl (fun ls hl => ?_)
          refine lv_aload_n S.1 S.2.1 dX12_purse_29 rfl (lv_at hl 1 rfl) ?_
          refine lv_iload_n S.1 S.2.1 dX12_purse_30 rfl (lv_at hl 0 rfl) ?_
          refine lv_bipush (v := (-6)) S.1 S.2.1 dX12_purse_31 (by decide) ?_
          refine lv_icmp_eq (tgt := 40) S.1 S.2.1 dX12_purse_33 (by decide) (fun c => absurd c (by decide)) (fun _ => ?_)
          refine lv_iload_n S.1 S.2.1 dX12_purse_36 rfl (lv_at hl 0 rfl) ?_
          refine lv_goto (tgt := 74) S.1 S.2.1 dX12_purse_37 (by decide) ?_
          refine ud_Vi (As := [.int (-3)]) (rest := []) S hK hA Z (c_X12_back l G (-3) (uMn B sl cm ba wy fs ft) w1 w hd (fun i => (uMn_o _ _ _ _ _ _ _ _ (by decide)).trans (hB.1 i)) hB.2.1 hB.2.2.1 (wOk_z hw1) (wOk_z hw)) (cwV 1 S.2.2.2.2 gX12_purse_X12_back rfl rfl rfl (by decide +kernel) ⟨Nat.le_of_ble_eq_true rfl, Nat.le_of_ble_eq_true rfl⟩) (by decide) rfl rfl rfl hl.1 rfl (Nat.le_of_ble_eq_true rfl) dX12_purse_74 ⟨Nat.zero_le _, Nat.zero_le _⟩ (fun H locs Z => ?_)
          refine uret_i S hK Z hre hlk dX12_purse_77 ?_
          refine ⟨Or.inr (Or.inr ⟨u_inn0 (by omega) (by decide), (show inr _ 0 2 from ⟨by decide, by decide⟩), Or.inr ⟨-3, _, hx, ?_⟩⟩), hsm⟩
          exact (if_pos rfl).symm
      · skip
        obtain ⟨j, hj, rfl⟩ := u_in0 (n := 7) (show inr k 0 7 by assumption) (by decide)
        refine lv_aload_n S.1 S.2.1 dX12_purse_24 rfl (lv_at hl 0 rfl) ?_
        refine uc_Vi (As := []) (rest := []) S hK hA Z (c_X12_refusal l G M w s n hr hw hs80 hn ho) (cwV 0 S.2.2.2.2 gX12_purse_X12_refusal rfl rfl rfl (by decide +kernel) ⟨Nat.le_of_ble_eq_true rfl, Nat.le_of_ble_eq_true rfl⟩) (by decide) rfl rfl rfl hl.1 rfl (Nat.le_of_ble_eq_true rfl) dX12_purse_25 ⟨Nat.zero_le _, Nat.zero_le _⟩ (fun r_23 M_23 H locs hp Z => ?_)
        obtain ⟨B, w1, hd, sl, cm, ba, wy, fs, ft, hM, hB, ⟨rfl, hf⟩ | ⟨a, hx, rfl, h17⟩ | ⟨a, hx, rfl⟩⟩ := hp
        · skip
          rw [hM] at Z
          have hw1 := hB.2.2.2.1
          have hsm := mSm_Mn hB.2.2.2.2 sl cm ba wy fs ft
          refine lv_istore_n (lv' := [(3, .int (-5)), (0, .ref (G.2.2 71)), (1, .int (nI j)), (2, .int 2)]) S.1 S.2.1 dX12_purse_28 rfl hl (by decide) rfl (fun ls hl => ?_)
          refine lv_aload_n S.1 S.2.1 dX12_purse_29 rfl (lv_at hl 1 rfl) ?_
          refine lv_iload_n S.1 S.2.1 dX12_purse_30 rfl (lv_at hl 0 rfl) ?_
          refine lv_bipush (v := (-6)) S.1 S.2.1 dX12_purse_31 (by decide) ?_
          refine lv_icmp_eq (tgt := 40) S.1 S.2.1 dX12_purse_33 (by decide) (fun c => absurd c (by decide)) (fun _ => ?_)
          refine lv_iload_n S.1 S.2.1 dX12_purse_36 rfl (lv_at hl 0 rfl) ?_
          refine lv_goto (tgt := 74) S.1 S.2.1 dX12_purse_37 (by decide) ?_
          refine ud_Vi (As := [.int (-5)]) (rest := []) S hK hA Z (c_X12_back l G (-5) (uMn B sl cm ba wy fs ft) w1 w hd (fun i => (uMn_o _ _ _ _ _ _ _ _ (by decide)).trans (hB.1 i)) hB.2.1 hB.2.2.1 (wOk_z hw1) (wOk_z hw)) (cwV 1 S.2.2.2.2 gX12_purse_X12_back rfl rfl rfl (by decide +kernel) ⟨Nat.le_of_ble_eq_true rfl, Nat.le_of_ble_eq_true rfl⟩) (by decide) rfl rfl rfl hl.1 rfl (Nat.le_of_ble_eq_true rfl) dX12_purse_74 ⟨Nat.zero_le _, Nat.zero_le _⟩ (fun H locs Z => ?_)
          refine uret_i S hK Z hre hlk dX12_purse_77 ?_
          exact ⟨Or.inr (Or.inr ⟨u_inn0 (by omega) (by decide), (show inr _ 0 2 from ⟨by decide, by decide⟩), Or.inl ⟨hf, rfl⟩⟩), hsm⟩
        · skip
          rw [hM] at Z
          have hw1 := hB.2.2.2.1
          have hsm := mSm_Mn hB.2.2.2.2 sl cm ba wy fs ft
          refine lv_istore_n (lv' := [(3, .int (-6)), (0, .ref (G.2.2 71)), (1, .int (nI j)), (2, .int 2)]) S.1 S.2.1 dX12_purse_28 rfl hl (by decide) rfl (fun ls hl => ?_)
          refine lv_aload_n S.1 S.2.1 dX12_purse_29 rfl (lv_at hl 1 rfl) ?_
          refine lv_iload_n S.1 S.2.1 dX12_purse_30 rfl (lv_at hl 0 rfl) ?_
          refine lv_bipush (v := (-6)) S.1 S.2.1 dX12_purse_31 (by decide) ?_
          refine lv_icmp_eq (tgt := 40) S.1 S.2.1 dX12_purse_33 (by decide) (fun _ => ?_) (fun c => absurd c (by decide))
          refine lv_iload_n S.1 S.2.1 dX12_purse_40 rfl (lv_at hl 3 rfl) ?_
          refine lv_if_ne (tgt := 53) S.1 S.2.1 dX12_purse_41 (by decide) (fun _ => ?_) (fun c => absurd c (by decide))
          refine lv_iload_n S.1 S.2.1 dX12_purse_53 rfl (lv_at hl 3 rfl) ?_
          refine lv_iconst (v := 1) S.1 S.2.1 dX12_purse_54 (by decide) ?_
          refine lv_icmp_ne (tgt := 66) S.1 S.2.1 dX12_purse_55 (by decide) (fun _ => ?_) (fun c => absurd c (by decide))
          have h7x := hw1.2.2.1
          refine lv_aload_n S.1 S.2.1 dX12_purse_66 rfl (lv_at hl 1 rfl) ?_
          refine ug_i S hK Z (j := 6) (by decide) rfl rfl rfl (by decide) iX12_purse_X12 qX12_purse_84 dX12_purse_67 ?_
          refine utop (y := (nI (w1 0 7))) (uPM_6 (uMn B sl cm ba wy fs ft) w1) ?_
          refine lv_iload_n S.1 S.2.1 dX12_purse_70 rfl (lv_at hl 2 rfl) ?_
          refine lv_ishr S.1 S.2.1 dX12_purse_71 ?_
          refine lv_iconst (v := 1) S.1 S.2.1 dX12_purse_72 (by decide) ?_
          refine lv_iand S.1 S.2.1 dX12_purse_73 ?_
          refine utop (u_bit (a := (w1 0 7)) (k := j) (by omega) (by omega)) ?_
          refine ud_Vi (As := [.int (nI ((w1 0 7) / 2 ^ j % 2))]) (rest := []) S hK hA Z (c_X12_back l G (nI ((w1 0 7) / 2 ^ j % 2)) (uMn B sl cm ba wy fs ft) w1 w hd (fun i => (uMn_o _ _ _ _ _ _ _ _ (by decide)).trans (hB.1 i)) hB.2.1 hB.2.2.1 (wOk_z hw1) (wOk_z hw)) (cwV 1 S.2.2.2.2 gX12_purse_X12_back rfl rfl rfl (by decide +kernel) ⟨Nat.le_of_ble_eq_true rfl, Nat.le_of_ble_eq_true rfl⟩) (by decide) rfl rfl rfl hl.1 rfl (Nat.le_of_ble_eq_true rfl) dX12_purse_74 ⟨Nat.zero_le _, Nat.zero_le _⟩ (fun H locs Z => ?_)
          refine uret_i S hK Z hre hlk dX12_purse_77 ?_
          refine ⟨Or.inr (Or.inr ⟨u_inn0 (by omega) (by decide), (show inr _ 0 2 from ⟨by decide, by decide⟩), Or.inr ⟨0, _, hx, ?_⟩⟩), hsm⟩
          dsimp only
          rw [if_neg (show ¬ (0 : Int32) = -3 by decide), if_neg (by decide), if_neg (by decide), nI_clamp (show j < 2 ^ 31 by omega)]
        · skip
          rw [hM] at Z
          have hw1 := hB.2.2.2.1
          have hsm := mSm_Mn hB.2.2.2.2 sl cm ba wy fs ft
          refine lv_istore_n (lv' := [(3, .int (-3)), (0, .ref (G.2.2 71)), (1, .int (nI j)), (2, .int 2)]) S.1 S.2.1 dX12_purse_28 rfl hl (by decide) rfl (fun ls hl => ?_)
          refine lv_aload_n S.1 S.2.1 dX12_purse_29 rfl (lv_at hl 1 rfl) ?_
          refine lv_iload_n S.1 S.2.1 dX12_purse_30 rfl (lv_at hl 0 rfl) ?_
          refine lv_bipush (v := (-6)) S.1 S.2.1 dX12_purse_31 (by decide) ?_
          refine lv_icmp_eq (tgt := 40) S.1 S.2.1 dX12_purse_33 (by decide) (fun c => absurd c (by decide)) (fun _ => ?_)
          refine lv_iload_n S.1 S.2.1 dX12_purse_36 rfl (lv_at hl 0 rfl) ?_
          refine lv_goto (tgt := 74) S.1 S.2.1 dX12_purse_37 (by decide) ?_
          refine ud_Vi (As := [.int (-3)]) (rest := []) S hK hA Z (c_X12_back l G (-3) (uMn B sl cm ba wy fs ft) w1 w hd (fun i => (uMn_o _ _ _ _ _ _ _ _ (by decide)).trans (hB.1 i)) hB.2.1 hB.2.2.1 (wOk_z hw1) (wOk_z hw)) (cwV 1 S.2.2.2.2 gX12_purse_X12_back rfl rfl rfl (by decide +kernel) ⟨Nat.le_of_ble_eq_true rfl, Nat.le_of_ble_eq_true rfl⟩) (by decide) rfl rfl rfl hl.1 rfl (Nat.le_of_ble_eq_true rfl) dX12_purse_74 ⟨Nat.zero_le _, Nat.zero_le _⟩ (fun H locs Z => ?_)
          refine uret_i S hK Z hre hlk dX12_purse_77 ?_
          refine ⟨Or.inr (Or.inr ⟨u_inn0 (by omega) (by decide), (show inr _ 0 2 from ⟨by decide, by decide⟩), Or.inr ⟨-3, _, hx, ?_⟩⟩), hsm⟩
          exact (if_pos rfl).symm
    · skip
      rw [hM_3] at Z
      refine lv_if_ne (tgt := 24) S.1 S.2.1 dX12_purse_18 (by decide) (fun c => absurd c (by decide)) (fun _ => ?_)
      refine lv_bipush (v := (-2)) S.1 S.2.1 dX12_purse_21 (by decide) ?_
      refine uret_i S hK Z hre hlk dX12_purse_23 ?_
      exact ⟨Or.inr (Or.inl ⟨by assumption, by assumption, rfl⟩), mSm_rf _⟩
  · skip
    rw [hM_1] at Z
    refine lv_if_ne (tgt := 9) S.1 S.2.1 dX12_purse_4 (by decide) (fun c => absurd c (by decide)) (fun _ => ?_)
    refine lv_iconst (v := (-1)) S.1 S.2.1 dX12_purse_7 (by decide) ?_
    refine uret_i S hK Z hre hlk dX12_purse_8 ?_
    exact ⟨Or.inl ⟨by assumption, rfl⟩, mSm_rf _⟩
set_option maxHeartbeats 4000000 in
set_option maxRecDepth 100000 in
theorem c_X12_sold (l : Launch) (G : uG) (h : Int32) (M : uM) (w : Nat → Nat → Nat) (s : Nat → Nat) (n : Nat) (hr : uMd M w) (hw : wOk w) (hs80 : ∀ i, M.1 80 i = nI (s i)) (hn : M.1 71 12 = nI n) (ho : pdOk s n) : CTi l G yX12_sold wsX12_sold 7 151 [.ref (G.2.2 71), .int h] M (fun r M2 => SpSold s n w h r ∧ mSm M M2) := by
  refine ustart_i (cc := cX12_sold) (maxL := 3) (ret := (some .int)) (own := RX12) rfl (by decide) rfl (Nat.le_of_ble_eq_true rfl) ?_
  intro xp xe xs xm xa xb xt xc xA ls S hK hA Z hre hlk hl
  have hl : lv_has ls 3 [(0, .ref (G.2.2 71)), (1, .int h)] := hl
  refine lv_iload_n S.1 S.2.1 dX12_sold_0 rfl (lv_at hl 1 rfl) ?_
  refine lv_i2l (v := h.toInt64) S.1 S.2.1 dX12_sold_1 rfl ?_
  refine lv_lconst (v := 0) S.1 S.2.1 dX12_sold_2 (by decide) ?_
  refine lv_ldc2 (v := 2) S.1 S.2.1 S.2.2.2.1 (S.2.2.2.2 _ qX12_sold_237) dX12_sold_3 ?_
  refine uc_Si (As := [.long h.toInt64, .long 0, .long 2]) (rest := []) S hK hA Z (c_X12_in l G h 0 2 _ _ _ rfl (by decide) (by decide) M) (va_cwS 3 S.2.2.2.2 gX12_sold_X12_in rfl rfl rfl (by decide +kernel) ⟨Nat.le_of_ble_eq_true rfl, Nat.le_of_ble_eq_true rfl⟩) rfl hl.1 rfl (Nat.le_of_ble_eq_true rfl) dX12_sold_6 ⟨Nat.zero_le _, Nat.zero_le _⟩ (fun r_1 M_1 H locs hp Z => ?_)
  obtain ⟨⟨rfl, w_1⟩ | ⟨rfl, w_1⟩, hM_1⟩ := hp
  · skip
    rw [hM_1] at Z
    refine lv_if_ne (tgt := 15) S.1 S.2.1 dX12_sold_9 (by decide) (fun _ => ?_) (fun c => absurd c (by decide))
    rcases in3 (show inr h 0 2 by assumption) with rfl | rfl | rfl
    · skip
      refine lv_aload_n S.1 S.2.1 dX12_sold_15 rfl (lv_at hl 0 rfl) ?_
      refine lv_aload_n S.1 S.2.1 dX12_sold_16 rfl (lv_at hl 0 rfl) ?_
      refine uc_Vi (As := []) (rest := [.ref (G.2.2 71)]) S hK hA Z (c_X12_refusal l G M w s n hr hw hs80 hn ho) (cwV 0 S.2.2.2.2 gX12_sold_X12_refusal rfl rfl rfl (by decide +kernel) ⟨Nat.le_of_ble_eq_true rfl, Nat.le_of_ble_eq_true rfl⟩) (by decide) rfl rfl rfl hl.1 rfl (Nat.le_of_ble_eq_true rfl) dX12_sold_17 ⟨Nat.zero_le _, Nat.zero_le _⟩ (fun r_3 M_3 H locs hp Z => ?_)
      obtain ⟨B, w1, hd, sl, cm, ba, wy, fs, ft, hM, hB, ⟨rfl, hf⟩ | ⟨a, hx, rfl, h17⟩ | ⟨a, hx, rfl⟩⟩ := hp
      · skip
        rw [hM] at Z
        have hw1 := hB.2.2.2.1
        have hsm := mSm_Mn hB.2.2.2.2 sl cm ba wy fs ft
        refine ud_Vi (As := [.int (-5)]) (rest := []) S hK hA Z (c_X12_back l G (-5) (uMn B sl cm ba wy fs ft) w1 w hd (fun i => (uMn_o _ _ _ _ _ _ _ _ (by decide)).trans (hB.1 i)) hB.2.1 hB.2.2.1 (wOk_z hw1) (wOk_z hw)) (cwV 1 S.2.2.2.2 gX12_sold_X12_back rfl rfl rfl (by decide +kernel) ⟨Nat.le_of_ble_eq_true rfl, Nat.le_of_ble_eq_true rfl⟩) (by decide) rfl rfl rfl hl.1 rfl (Nat.le_of_ble_eq_true rfl) dX12_sold_20 ⟨Nat.zero_le _, Nat.zero_le _⟩ (fun H locs Z => ?_)
        refine lv_istore_n (lv' := [(2, .int (-5)), (0, .ref (G.2.2 71)), (1, .int 0)]) S.1 S.2.1 dX12_sold_23 rfl hl (by decide) rfl (fun ls hl => ?_)
        refine lv_iload_n S.1 S.2.1 dX12_sold_24 rfl (lv_at hl 0 rfl) ?_
        refine lv_bipush (v := (-6)) S.1 S.2.1 dX12_sold_25 (by decide) ?_
        refine lv_icmp_eq (tgt := 34) S.1 S.2.1 dX12_sold_27 (by decide) (fun c => absurd c (by decide)) (fun _ => ?_)
        refine lv_iload_n S.1 S.2.1 dX12_sold_30 rfl (lv_at hl 0 rfl) ?_
        refine lv_goto (tgt := 61) S.1 S.2.1 dX12_sold_31 (by decide) ?_
        refine uret_i S hK Z hre hlk dX12_sold_61 ?_
        exact ⟨Or.inr ⟨(show inr _ 0 2 from ⟨by decide, by decide⟩), Or.inl ⟨hf, rfl⟩⟩, hsm⟩
      · skip
        rw [hM] at Z
        have hw1 := hB.2.2.2.1
        have hsm := mSm_Mn hB.2.2.2.2 sl cm ba wy fs ft
        refine ud_Vi (As := [.int (-6)]) (rest := []) S hK hA Z (c_X12_back l G (-6) (uMn B sl cm ba wy fs ft) w1 w hd (fun i => (uMn_o _ _ _ _ _ _ _ _ (by decide)).trans (hB.1 i)) hB.2.1 hB.2.2.1 (wOk_z hw1) (wOk_z hw)) (cwV 1 S.2.2.2.2 gX12_sold_X12_back rfl rfl rfl (by decide +kernel) ⟨Nat.le_of_ble_eq_true rfl, Nat.le_of_ble_eq_true rfl⟩) (by decide) rfl rfl rfl hl.1 rfl (Nat.le_of_ble_eq_true rfl) dX12_sold_20 ⟨Nat.zero_le _, Nat.zero_le _⟩ (fun H locs Z => ?_)
        refine lv_istore_n (lv' := [(2, .int (-6)), (0, .ref (G.2.2 71)), (1, .int 0)]) S.1 S.2.1 dX12_sold_23 rfl hl (by decide) rfl (fun ls hl => ?_)
        refine lv_iload_n S.1 S.2.1 dX12_sold_24 rfl (lv_at hl 0 rfl) ?_
        refine lv_bipush (v := (-6)) S.1 S.2.1 dX12_sold_25 (by decide) ?_
        refine lv_icmp_eq (tgt := 34) S.1 S.2.1 dX12_sold_27 (by decide) (fun _ => ?_) (fun c => absurd c (by decide))
        refine lv_iload_n S.1 S.2.1 dX12_sold_34 rfl (lv_at hl 2 rfl) ?_
        refine lv_if_ne (tgt := 45) S.1 S.2.1 dX12_sold_35 (by decide) (fun c => absurd c (by decide)) (fun _ => ?_)
        refine lv_aload_n S.1 S.2.1 dX12_sold_38 rfl (lv_at hl 1 rfl) ?_
        refine ug_i S hK Z (j := 23) (by decide) rfl rfl rfl (by decide) iX12_sold_X12 qX12_sold_207 dX12_sold_39 ?_
        refine utop (y := fs) ((uPM_o (uMn B sl cm ba wy fs ft) w (a := 71) (i := 23) (by unfold mO; omega)).trans rfl) ?_
        refine lv_goto (tgt := 61) S.1 S.2.1 dX12_sold_42 (by decide) ?_
        refine uret_i S hK Z hre hlk dX12_sold_61 ?_
        refine ⟨Or.inr ⟨(show inr _ 0 2 from ⟨by decide, by decide⟩), Or.inr ⟨0, _, hx, ?_⟩⟩, hsm⟩
        dsimp only
        rw [if_neg (show ¬ (0 : Int32) = -3 by decide), if_pos rfl]
      · skip
        rw [hM] at Z
        have hw1 := hB.2.2.2.1
        have hsm := mSm_Mn hB.2.2.2.2 sl cm ba wy fs ft
        refine ud_Vi (As := [.int (-3)]) (rest := []) S hK hA Z (c_X12_back l G (-3) (uMn B sl cm ba wy fs ft) w1 w hd (fun i => (uMn_o _ _ _ _ _ _ _ _ (by decide)).trans (hB.1 i)) hB.2.1 hB.2.2.1 (wOk_z hw1) (wOk_z hw)) (cwV 1 S.2.2.2.2 gX12_sold_X12_back rfl rfl rfl (by decide +kernel) ⟨Nat.le_of_ble_eq_true rfl, Nat.le_of_ble_eq_true rfl⟩) (by decide) rfl rfl rfl hl.1 rfl (Nat.le_of_ble_eq_true rfl) dX12_sold_20 ⟨Nat.zero_le _, Nat.zero_le _⟩ (fun H locs Z => ?_)
        refine lv_istore_n (lv' := [(2, .int (-3)), (0, .ref (G.2.2 71)), (1, .int 0)]) S.1 S.2.1 dX12_sold_23 rfl hl (by decide) rfl (fun ls hl => ?_)
        refine lv_iload_n S.1 S.2.1 dX12_sold_24 rfl (lv_at hl 0 rfl) ?_
        refine lv_bipush (v := (-6)) S.1 S.2.1 dX12_sold_25 (by decide) ?_
        refine lv_icmp_eq (tgt := 34) S.1 S.2.1 dX12_sold_27 (by decide) (fun c => absurd c (by decide)) (fun _ => ?_)
        refine lv_iload_n S.1 S.2.1 dX12_sold_30 rfl (lv_at hl 0 rfl) ?_
        refine lv_goto (tgt := 61) S.1 S.2.1 dX12_sold_31 (by decide) ?_
        refine uret_i S hK Z hre hlk dX12_sold_61 ?_
        refine ⟨Or.inr ⟨(show inr _ 0 2 from ⟨by decide, by decide⟩), Or.inr ⟨-3, _, hx, ?_⟩⟩, hsm⟩
        exact (if_pos rfl).symm
    · skip
      refine lv_aload_n S.1 S.2.1 dX12_sold_15 rfl (lv_at hl 0 rfl) ?_
      refine lv_aload_n S.1 S.2.1 dX12_sold_16 rfl (lv_at hl 0 rfl) ?_
      refine uc_Vi (As := []) (rest := [.ref (G.2.2 71)]) S hK hA Z (c_X12_refusal l G M w s n hr hw hs80 hn ho) (cwV 0 S.2.2.2.2 gX12_sold_X12_refusal rfl rfl rfl (by decide +kernel) ⟨Nat.le_of_ble_eq_true rfl, Nat.le_of_ble_eq_true rfl⟩) (by decide) rfl rfl rfl hl.1 rfl (Nat.le_of_ble_eq_true rfl) dX12_sold_17 ⟨Nat.zero_le _, Nat.zero_le _⟩ (fun r_11 M_11 H locs hp Z => ?_)
      obtain ⟨B, w1, hd, sl, cm, ba, wy, fs, ft, hM, hB, ⟨rfl, hf⟩ | ⟨a, hx, rfl, h17⟩ | ⟨a, hx, rfl⟩⟩ := hp
      · skip
        rw [hM] at Z
        have hw1 := hB.2.2.2.1
        have hsm := mSm_Mn hB.2.2.2.2 sl cm ba wy fs ft
        refine ud_Vi (As := [.int (-5)]) (rest := []) S hK hA Z (c_X12_back l G (-5) (uMn B sl cm ba wy fs ft) w1 w hd (fun i => (uMn_o _ _ _ _ _ _ _ _ (by decide)).trans (hB.1 i)) hB.2.1 hB.2.2.1 (wOk_z hw1) (wOk_z hw)) (cwV 1 S.2.2.2.2 gX12_sold_X12_back rfl rfl rfl (by decide +kernel) ⟨Nat.le_of_ble_eq_true rfl, Nat.le_of_ble_eq_true rfl⟩) (by decide) rfl rfl rfl hl.1 rfl (Nat.le_of_ble_eq_true rfl) dX12_sold_20 ⟨Nat.zero_le _, Nat.zero_le _⟩ (fun H locs Z => ?_)
        refine lv_istore_n (lv' := [(2, .int (-5)), (0, .ref (G.2.2 71)), (1, .int 1)]) S.1 S.2.1 dX12_sold_23 rfl hl (by decide) rfl (fun ls hl => ?_)
        refine lv_iload_n S.1 S.2.1 dX12_sold_24 rfl (lv_at hl 0 rfl) ?_
        refine lv_bipush (v := (-6)) S.1 S.2.1 dX12_sold_25 (by decide) ?_
        refine lv_icmp_eq (tgt := 34) S.1 S.2.1 dX12_sold_27 (by decide) (fun c => absurd c (by decide)) (fun _ => ?_)
        refine lv_iload_n S.1 S.2.1 dX12_sold_30 rfl (lv_at hl 0 rfl) ?_
        refine lv_goto (tgt := 61) S.1 S.2.1 dX12_sold_31 (by decide) ?_
        refine uret_i S hK Z hre hlk dX12_sold_61 ?_
        exact ⟨Or.inr ⟨(show inr _ 0 2 from ⟨by decide, by decide⟩), Or.inl ⟨hf, rfl⟩⟩, hsm⟩
      · skip
        rw [hM] at Z
        have hw1 := hB.2.2.2.1
        have hsm := mSm_Mn hB.2.2.2.2 sl cm ba wy fs ft
        refine ud_Vi (As := [.int (-6)]) (rest := []) S hK hA Z (c_X12_back l G (-6) (uMn B sl cm ba wy fs ft) w1 w hd (fun i => (uMn_o _ _ _ _ _ _ _ _ (by decide)).trans (hB.1 i)) hB.2.1 hB.2.2.1 (wOk_z hw1) (wOk_z hw)) (cwV 1 S.2.2.2.2 gX12_sold_X12_back rfl rfl rfl (by decide +kernel) ⟨Nat.le_of_ble_eq_true rfl, Nat.le_of_ble_eq_true rfl⟩) (by decide) rfl rfl rfl hl.1 rfl (Nat.le_of_ble_eq_true rfl) dX12_sold_20 ⟨Nat.zero_le _, Nat.zero_le _⟩ (fun H locs Z => ?_)
        refine lv_istore_n (lv' := [(2, .int (-6)), (0, .ref (G.2.2 71)), (1, .int 1)]) S.1 S.2.1 dX12_sold_23 rfl hl (by decide) rfl (fun ls hl => ?_)
        refine lv_iload_n S.1 S.2.1 dX12_sold_24 rfl (lv_at hl 0 rfl) ?_
        refine lv_bipush (v := (-6)) S.1 S.2.1 dX12_sold_25 (by decide) ?_
        refine lv_icmp_eq (tgt := 34) S.1 S.2.1 dX12_sold_27 (by decide) (fun _ => ?_) (fun c => absurd c (by decide))
        refine lv_iload_n S.1 S.2.1 dX12_sold_34 rfl (lv_at hl 2 rfl) ?_
        refine lv_if_ne (tgt := 45) S.1 S.2.1 dX12_sold_35 (by decide) (fun _ => ?_) (fun c => absurd c (by decide))
        refine lv_iload_n S.1 S.2.1 dX12_sold_45 rfl (lv_at hl 2 rfl) ?_
        refine lv_iconst (v := 1) S.1 S.2.1 dX12_sold_46 (by decide) ?_
        refine lv_icmp_ne (tgt := 57) S.1 S.2.1 dX12_sold_47 (by decide) (fun c => absurd c (by decide)) (fun _ => ?_)
        refine lv_aload_n S.1 S.2.1 dX12_sold_50 rfl (lv_at hl 1 rfl) ?_
        refine ug_i S hK Z (j := 24) (by decide) rfl rfl rfl (by decide) iX12_sold_X12 qX12_sold_210 dX12_sold_51 ?_
        refine utop (y := ft) ((uPM_o (uMn B sl cm ba wy fs ft) w (a := 71) (i := 24) (by unfold mO; omega)).trans rfl) ?_
        refine lv_goto (tgt := 61) S.1 S.2.1 dX12_sold_54 (by decide) ?_
        refine uret_i S hK Z hre hlk dX12_sold_61 ?_
        refine ⟨Or.inr ⟨(show inr _ 0 2 from ⟨by decide, by decide⟩), Or.inr ⟨0, _, hx, ?_⟩⟩, hsm⟩
        dsimp only
        rw [if_neg (show ¬ (0 : Int32) = -3 by decide), if_neg (by decide), if_pos rfl]
      · skip
        rw [hM] at Z
        have hw1 := hB.2.2.2.1
        have hsm := mSm_Mn hB.2.2.2.2 sl cm ba wy fs ft
        refine ud_Vi (As := [.int (-3)]) (rest := []) S hK hA Z (c_X12_back l G (-3) (uMn B sl cm ba wy fs ft) w1 w hd (fun i => (uMn_o _ _ _ _ _ _ _ _ (by decide)).trans (hB.1 i)) hB.2.1 hB.2.2.1 (wOk_z hw1) (wOk_z hw)) (cwV 1 S.2.2.2.2 gX12_sold_X12_back rfl rfl rfl (by decide +kernel) ⟨Nat.le_of_ble_eq_true rfl, Nat.le_of_ble_eq_true rfl⟩) (by decide) rfl rfl rfl hl.1 rfl (Nat.le_of_ble_eq_true rfl) dX12_sold_20 ⟨Nat.zero_le _, Nat.zero_le _⟩ (fun H locs Z => ?_)
        refine lv_istore_n (lv' := [(2, .int (-3)), (0, .ref (G.2.2 71)), (1, .int 1)]) S.1 S.2.1 dX12_sold_23 rfl hl (by decide) rfl (fun ls hl => ?_)
        refine lv_iload_n S.1 S.2.1 dX12_sold_24 rfl (lv_at hl 0 rfl) ?_
        refine lv_bipush (v := (-6)) S.1 S.2.1 dX12_sold_25 (by decide) ?_
        refine lv_icmp_eq (tgt := 34) S.1 S.2.1 dX12_sold_27 (by decide) (fun c => absurd c (by decide)) (fun _ => ?_)
        refine lv_iload_n S.1 S.2.1 dX12_sold_30 rfl (lv_at hl 0 rfl) ?_
        refine lv_goto (tgt := 61) S.1 S.2.1 dX12_sold_31 (by decide) ?_
        refine uret_i S hK Z hre hlk dX12_sold_61 ?_
        refine ⟨Or.inr ⟨(show inr _ 0 2 from ⟨by decide, by decide⟩), Or.inr ⟨-3, _, hx, ?_⟩⟩, hsm⟩
        exact (if_pos rfl).symm
    · skip
      refine lv_aload_n S.1 S.2.1 dX12_sold_15 rfl (lv_at hl 0 rfl) ?_
      refine lv_aload_n S.1 S.2.1 dX12_sold_16 rfl (lv_at hl 0 rfl) ?_
      refine uc_Vi (As := []) (rest := [.ref (G.2.2 71)]) S hK hA Z (c_X12_refusal l G M w s n hr hw hs80 hn ho) (cwV 0 S.2.2.2.2 gX12_sold_X12_refusal rfl rfl rfl (by decide +kernel) ⟨Nat.le_of_ble_eq_true rfl, Nat.le_of_ble_eq_true rfl⟩) (by decide) rfl rfl rfl hl.1 rfl (Nat.le_of_ble_eq_true rfl) dX12_sold_17 ⟨Nat.zero_le _, Nat.zero_le _⟩ (fun r_20 M_20 H locs hp Z => ?_)
      obtain ⟨B, w1, hd, sl, cm, ba, wy, fs, ft, hM, hB, ⟨rfl, hf⟩ | ⟨a, hx, rfl, h17⟩ | ⟨a, hx, rfl⟩⟩ := hp
      · skip
        rw [hM] at Z
        have hw1 := hB.2.2.2.1
        have hsm := mSm_Mn hB.2.2.2.2 sl cm ba wy fs ft
        refine ud_Vi (As := [.int (-5)]) (rest := []) S hK hA Z (c_X12_back l G (-5) (uMn B sl cm ba wy fs ft) w1 w hd (fun i => (uMn_o _ _ _ _ _ _ _ _ (by decide)).trans (hB.1 i)) hB.2.1 hB.2.2.1 (wOk_z hw1) (wOk_z hw)) (cwV 1 S.2.2.2.2 gX12_sold_X12_back rfl rfl rfl (by decide +kernel) ⟨Nat.le_of_ble_eq_true rfl, Nat.le_of_ble_eq_true rfl⟩) (by decide) rfl rfl rfl hl.1 rfl (Nat.le_of_ble_eq_true rfl) dX12_sold_20 ⟨Nat.zero_le _, Nat.zero_le _⟩ (fun H locs Z => ?_)
        refine lv_istore_n (lv' := [(2, .int (-5)), (0, .ref (G.2.2 71)), (1, .int 2)]) S.1 S.2.1 dX12_sold_23 rfl hl (by decide) rfl (fun ls hl => ?_)
        refine lv_iload_n S.1 S.2.1 dX12_sold_24 rfl (lv_at hl 0 rfl) ?_
        refine lv_bipush (v := (-6)) S.1 S.2.1 dX12_sold_25 (by decide) ?_
        refine lv_icmp_eq (tgt := 34) S.1 S.2.1 dX12_sold_27 (by decide) (fun c => absurd c (by decide)) (fun _ => ?_)
        refine lv_iload_n S.1 S.2.1 dX12_sold_30 rfl (lv_at hl 0 rfl) ?_
        refine lv_goto (tgt := 61) S.1 S.2.1 dX12_sold_31 (by decide) ?_
        refine uret_i S hK Z hre hlk dX12_sold_61 ?_
        exact ⟨Or.inr ⟨(show inr _ 0 2 from ⟨by decide, by decide⟩), Or.inl ⟨hf, rfl⟩⟩, hsm⟩
      · skip
        rw [hM] at Z
        have hw1 := hB.2.2.2.1
        have hsm := mSm_Mn hB.2.2.2.2 sl cm ba wy fs ft
        refine ud_Vi (As := [.int (-6)]) (rest := []) S hK hA Z (c_X12_back l G (-6) (uMn B sl cm ba wy fs ft) w1 w hd (fun i => (uMn_o _ _ _ _ _ _ _ _ (by decide)).trans (hB.1 i)) hB.2.1 hB.2.2.1 (wOk_z hw1) (wOk_z hw)) (cwV 1 S.2.2.2.2 gX12_sold_X12_back rfl rfl rfl (by decide +kernel) ⟨Nat.le_of_ble_eq_true rfl, Nat.le_of_ble_eq_true rfl⟩) (by decide) rfl rfl rfl hl.1 rfl (Nat.le_of_ble_eq_true rfl) dX12_sold_20 ⟨Nat.zero_le _, Nat.zero_le _⟩ (fun H locs Z => ?_)
        refine lv_istore_n (lv' := [(2, .int (-6)), (0, .ref (G.2.2 71)), (1, .int 2)]) S.1 S.2.1 dX12_sold_23 rfl hl (by decide) rfl (fun ls hl => ?_)
        refine lv_iload_n S.1 S.2.1 dX12_sold_24 rfl (lv_at hl 0 rfl) ?_
        refine lv_bipush (v := (-6)) S.1 S.2.1 dX12_sold_25 (by decide) ?_
        refine lv_icmp_eq (tgt := 34) S.1 S.2.1 dX12_sold_27 (by decide) (fun _ => ?_) (fun c => absurd c (by decide))
        refine lv_iload_n S.1 S.2.1 dX12_sold_34 rfl (lv_at hl 2 rfl) ?_
        refine lv_if_ne (tgt := 45) S.1 S.2.1 dX12_sold_35 (by decide) (fun _ => ?_) (fun c => absurd c (by decide))
        refine lv_iload_n S.1 S.2.1 dX12_sold_45 rfl (lv_at hl 2 rfl) ?_
        refine lv_iconst (v := 1) S.1 S.2.1 dX12_sold_46 (by decide) ?_
        refine lv_icmp_ne (tgt := 57) S.1 S.2.1 dX12_sold_47 (by decide) (fun _ => ?_) (fun c => absurd c (by decide))
        refine lv_aload_n S.1 S.2.1 dX12_sold_57 rfl (lv_at hl 1 rfl) ?_
        refine ug_i S hK Z (j := 19) (by decide) rfl rfl rfl (by decide) iX12_sold_X12 qX12_sold_186 dX12_sold_58 ?_
        refine utop (y := (nI cm)) ((uPM_o (uMn B sl cm ba wy fs ft) w (a := 71) (i := 19) (by unfold mO; omega)).trans rfl) ?_
        refine uret_i S hK Z hre hlk dX12_sold_61 ?_
        refine ⟨Or.inr ⟨(show inr _ 0 2 from ⟨by decide, by decide⟩), Or.inr ⟨0, _, hx, ?_⟩⟩, hsm⟩
        dsimp only
        rw [if_neg (show ¬ (0 : Int32) = -3 by decide), if_neg (by decide), if_neg (by decide)]
      · skip
        rw [hM] at Z
        have hw1 := hB.2.2.2.1
        have hsm := mSm_Mn hB.2.2.2.2 sl cm ba wy fs ft
        refine ud_Vi (As := [.int (-3)]) (rest := []) S hK hA Z (c_X12_back l G (-3) (uMn B sl cm ba wy fs ft) w1 w hd (fun i => (uMn_o _ _ _ _ _ _ _ _ (by decide)).trans (hB.1 i)) hB.2.1 hB.2.2.1 (wOk_z hw1) (wOk_z hw)) (cwV 1 S.2.2.2.2 gX12_sold_X12_back rfl rfl rfl (by decide +kernel) ⟨Nat.le_of_ble_eq_true rfl, Nat.le_of_ble_eq_true rfl⟩) (by decide) rfl rfl rfl hl.1 rfl (Nat.le_of_ble_eq_true rfl) dX12_sold_20 ⟨Nat.zero_le _, Nat.zero_le _⟩ (fun H locs Z => ?_)
        refine lv_istore_n (lv' := [(2, .int (-3)), (0, .ref (G.2.2 71)), (1, .int 2)]) S.1 S.2.1 dX12_sold_23 rfl hl (by decide) rfl (fun ls hl => ?_)
        refine lv_iload_n S.1 S.2.1 dX12_sold_24 rfl (lv_at hl 0 rfl) ?_
        refine lv_bipush (v := (-6)) S.1 S.2.1 dX12_sold_25 (by decide) ?_
        refine lv_icmp_eq (tgt := 34) S.1 S.2.1 dX12_sold_27 (by decide) (fun c => absurd c (by decide)) (fun _ => ?_)
        refine lv_iload_n S.1 S.2.1 dX12_sold_30 rfl (lv_at hl 0 rfl) ?_
        refine lv_goto (tgt := 61) S.1 S.2.1 dX12_sold_31 (by decide) ?_
        refine uret_i S hK Z hre hlk dX12_sold_61 ?_
        refine ⟨Or.inr ⟨(show inr _ 0 2 from ⟨by decide, by decide⟩), Or.inr ⟨-3, _, hx, ?_⟩⟩, hsm⟩
        exact (if_pos rfl).symm
  · skip
    rw [hM_1] at Z
    refine lv_if_ne (tgt := 15) S.1 S.2.1 dX12_sold_9 (by decide) (fun c => absurd c (by decide)) (fun _ => ?_)
    refine lv_bipush (v := (-2)) S.1 S.2.1 dX12_sold_12 (by decide) ?_
    refine uret_i S hK Z hre hlk dX12_sold_14 ?_
    exact ⟨Or.inl ⟨by assumption, rfl⟩, mSm_rf _⟩
set_option maxHeartbeats 4000000 in
set_option maxRecDepth 100000 in
theorem c_X12_done (l : Launch) (G : uG) (M : uM) (w : Nat → Nat → Nat) (s : Nat → Nat) (n : Nat) (hr : uMd M w) (hw : wOk w) (hs80 : ∀ i, M.1 80 i = nI (s i)) (hn : M.1 71 12 = nI n) (ho : pdOk s n) : CTi l G yX12_done wsX12_done 7 151 [.ref (G.2.2 71)] M (fun r M2 => (¬ cFault s n = -6 ∧ r = -5 ∧ mSm M M2) ∨ (∃ x, rnOf s n w (-3) x ∧ r = -3 ∧ mSm M M2) ∨ (∃ x, rnOf s n w 0 x ∧ r = nI x.2.1 ∧ uMd M2 x.1 ∧ M2.1 71 12 = 0 ∧ mOut M M2)) := by
  refine ustart_i (cc := cX12_done) (maxL := 2) (ret := (some .int)) (own := RX12) rfl (by decide) rfl (Nat.le_of_ble_eq_true rfl) ?_
  intro xp xe xs xm xa xb xt xc xA ls S hK hA Z hre hlk hl
  have hl : lv_has ls 2 [(0, .ref (G.2.2 71))] := hl
  refine lv_aload_n S.1 S.2.1 dX12_done_0 rfl (lv_at hl 0 rfl) ?_
  refine uc_Vi (As := []) (rest := []) S hK hA Z (c_X12_refusal l G M w s n hr hw hs80 hn ho) (cwV 0 S.2.2.2.2 gX12_done_X12_refusal rfl rfl rfl (by decide +kernel) ⟨Nat.le_of_ble_eq_true rfl, Nat.le_of_ble_eq_true rfl⟩) (by decide) rfl rfl rfl hl.1 rfl (Nat.le_of_ble_eq_true rfl) dX12_done_1 ⟨Nat.zero_le _, Nat.zero_le _⟩ (fun r_1 M_1 H locs hp Z => ?_)
  obtain ⟨B, w1, hd, sl, cm, ba, wy, fs, ft, hM, hB, ⟨rfl, hf⟩ | ⟨a, hx, rfl, h17⟩ | ⟨a, hx, rfl⟩⟩ := hp
  · skip
    rw [hM] at Z
    have hw1 := hB.2.2.2.1
    have hsm := mSm_Mn hB.2.2.2.2 sl cm ba wy fs ft
    refine lv_istore_n (lv' := [(1, .int (-5)), (0, .ref (G.2.2 71))]) S.1 S.2.1 dX12_done_4 rfl hl (by decide) rfl (fun ls hl => ?_)
    refine lv_iload_n S.1 S.2.1 dX12_done_5 rfl (lv_at hl 0 rfl) ?_
    refine lv_bipush (v := (-6)) S.1 S.2.1 dX12_done_6 (by decide) ?_
    refine lv_icmp_eq (tgt := 17) S.1 S.2.1 dX12_done_8 (by decide) (fun c => absurd c (by decide)) (fun _ => ?_)
    refine lv_aload_n S.1 S.2.1 dX12_done_11 rfl (lv_at hl 1 rfl) ?_
    refine lv_iload_n S.1 S.2.1 dX12_done_12 rfl (lv_at hl 0 rfl) ?_
    refine ud_Vi (As := [.int (-5)]) (rest := []) S hK hA Z (c_X12_back l G (-5) (uMn B sl cm ba wy fs ft) w1 w hd (fun i => (uMn_o _ _ _ _ _ _ _ _ (by decide)).trans (hB.1 i)) hB.2.1 hB.2.2.1 (wOk_z hw1) (wOk_z hw)) (cwV 1 S.2.2.2.2 gX12_done_X12_back rfl rfl rfl (by decide +kernel) ⟨Nat.le_of_ble_eq_true rfl, Nat.le_of_ble_eq_true rfl⟩) (by decide) rfl rfl rfl hl.1 rfl (Nat.le_of_ble_eq_true rfl) dX12_done_13 ⟨Nat.zero_le _, Nat.zero_le _⟩ (fun H locs Z => ?_)
    refine uret_i S hK Z hre hlk dX12_done_16 ?_
    exact Or.inl ⟨hf, rfl, hsm⟩
  · skip
    rw [hM] at Z
    have hw1 := hB.2.2.2.1
    have hsm := mSm_Mn hB.2.2.2.2 sl cm ba wy fs ft
    refine lv_istore_n (lv' := [(1, .int (-6)), (0, .ref (G.2.2 71))]) S.1 S.2.1 dX12_done_4 rfl hl (by decide) rfl (fun ls hl => ?_)
    refine lv_iload_n S.1 S.2.1 dX12_done_5 rfl (lv_at hl 0 rfl) ?_
    refine lv_bipush (v := (-6)) S.1 S.2.1 dX12_done_6 (by decide) ?_
    refine lv_icmp_eq (tgt := 17) S.1 S.2.1 dX12_done_8 (by decide) (fun _ => ?_) (fun c => absurd c (by decide))
    refine lv_aload_n S.1 S.2.1 dX12_done_17 rfl (lv_at hl 1 rfl) ?_
    refine lv_iconst (v := 0) S.1 S.2.1 dX12_done_18 (by decide) ?_
    refine up_i S hK Z (j := 12) (by decide) rfl rfl rfl (by decide) iX12_done_X12 tyX12_ok nmX12 qX12_done_121 rfl rfl rfl dX12_done_19 (fun H locs Z => ?_)
    refine lv_aload_n S.1 S.2.1 dX12_done_22 rfl (lv_at hl 1 rfl) ?_
    refine ug_i S hK Z (j := 17) (by decide) rfl rfl rfl (by decide) iX12_done_X12 qX12_done_124 dX12_done_23 ?_
    refine uret_i S hK Z hre hlk dX12_done_26 ?_
    refine Or.inr (Or.inr ⟨_, hx, ?_, ?_, ?_, ?_⟩)
    · rw [u1_1, if_neg (by decide)]
      exact (uPM_o _ _ (by unfold mO; omega)).trans ((uMn_p _ _ _ _ _ _ _ (by omega)).trans h17)
    · rw [uPM_c _ _ _ (by unfold mO; omega)]
      exact uPM_md _ _
    · rw [u1_1, if_pos ⟨rfl, rfl⟩]
    · intro a i q
      rw [u1_1, if_neg (by omega), uPM_o _ _ (by unfold mO; omega), uMn_o _ _ _ _ _ _ _ _ (by omega)]
      exact mOut_sm hB.2.2.2.2 a i q
  · skip
    rw [hM] at Z
    have hw1 := hB.2.2.2.1
    have hsm := mSm_Mn hB.2.2.2.2 sl cm ba wy fs ft
    refine lv_istore_n (lv' := [(1, .int (-3)), (0, .ref (G.2.2 71))]) S.1 S.2.1 dX12_done_4 rfl hl (by decide) rfl (fun ls hl => ?_)
    refine lv_iload_n S.1 S.2.1 dX12_done_5 rfl (lv_at hl 0 rfl) ?_
    refine lv_bipush (v := (-6)) S.1 S.2.1 dX12_done_6 (by decide) ?_
    refine lv_icmp_eq (tgt := 17) S.1 S.2.1 dX12_done_8 (by decide) (fun c => absurd c (by decide)) (fun _ => ?_)
    refine lv_aload_n S.1 S.2.1 dX12_done_11 rfl (lv_at hl 1 rfl) ?_
    refine lv_iload_n S.1 S.2.1 dX12_done_12 rfl (lv_at hl 0 rfl) ?_
    refine ud_Vi (As := [.int (-3)]) (rest := []) S hK hA Z (c_X12_back l G (-3) (uMn B sl cm ba wy fs ft) w1 w hd (fun i => (uMn_o _ _ _ _ _ _ _ _ (by decide)).trans (hB.1 i)) hB.2.1 hB.2.2.1 (wOk_z hw1) (wOk_z hw)) (cwV 1 S.2.2.2.2 gX12_done_X12_back rfl rfl rfl (by decide +kernel) ⟨Nat.le_of_ble_eq_true rfl, Nat.le_of_ble_eq_true rfl⟩) (by decide) rfl rfl rfl hl.1 rfl (Nat.le_of_ble_eq_true rfl) dX12_done_13 ⟨Nat.zero_le _, Nat.zero_le _⟩ (fun H locs Z => ?_)
    refine uret_i S hK Z hre hlk dX12_done_16 ?_
    exact Or.inr (Or.inl ⟨_, hx, rfl, hsm⟩)
