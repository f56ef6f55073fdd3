theorem u_inn {c lo hi : Nat} (h : inr (nI c) (nI lo) (nI hi)) (hc : c < 2147483648) (hl : lo < 2147483648) (hh : hi < 2147483648) : lo ≤ c ∧ c ≤ hi := ⟨(nI_leI (a := lo) (b := c) hl hc).mp h.1, (nI_leI (a := c) (b := hi) hc hh).mp h.2⟩
theorem u_inn' {c lo hi : Nat} (h : lo ≤ c ∧ c ≤ hi) (hh : hi < 2147483648) : inr (nI c) (nI lo) (nI hi) := ⟨(nI_leI (a := lo) (b := c) (by omega) (by omega)).mpr h.1, (nI_leI (a := c) (b := hi) (by omega) hh).mpr h.2⟩
/-! the reference reads the pad: acts laid out below `e`, and what is read of the next -/
def gd (s A W T Q : Nat → Nat) (e : Nat) : Prop := ∀ j, j < e → A j = pKind s (pPos s j) ∧ (pKind s (pPos s j) < 4 → W j = s (pPos s j) - 65) ∧ (pKind s (pPos s j) < 3 → T j = pThing s (pPos s j)) ∧ (pKind s (pPos s j) = 1 ∨ pKind s (pPos s j) = 2 → Q j = s (pPos s j + 3) - 65)
def fD (d : Nat) : Nat := if d = 0 then 0 else if d = 1 then 1 else if d ≤ 3 then 2 else 3
def pSt (s : Nat → Nat) (i d e : Nat) (A W T Q : Nat → Nat) : Prop := e ≤ i ∧ gd s A W T Q e ∧ d ≤ 5 ∧
  (d = 0 → i = pPos s e) ∧ (1 ≤ d → 65 ≤ s (pPos s e) ∧ s (pPos s e) ≤ 72 ∧ W e = s (pPos s e) - 65) ∧ (d = 1 → i = pPos s e + 1) ∧
  (d = 2 ∨ d = 3 → i = pPos s e + 2) ∧ (d = 4 ∨ d = 5 → i = pPos s e + 3 ∧ T e = s (pPos s e + 2) - 97) ∧ (d = 2 ∨ d = 4 → s (pPos s e + 1) = 36) ∧ (d = 3 ∨ d = 5 → s (pPos s e + 1) = 42)
theorem gd_up {s A W T Q A' W' T' Q' : Nat → Nat} {e : Nat} (h : gd s A W T Q e) (hA : ∀ j, j < e → A' j = A j) (hW : ∀ j, j < e → W' j = W j) (hT : ∀ j, j < e → T' j = T j) (hQ : ∀ j, j < e → Q' j = Q j) : gd s A' W' T' Q' e := fun j hj => by
  rw [hA j hj, hW j hj, hT j hj, hQ j hj]
  exact h j hj
theorem gd_s {s A W T Q : Nat → Nat} {e : Nat} (h : gd s A W T Q e) (h1 : A e = pKind s (pPos s e)) (h2 : pKind s (pPos s e) < 4 → W e = s (pPos s e) - 65) (h3 : pKind s (pPos s e) < 3 → T e = pThing s (pPos s e)) (h4 : pKind s (pPos s e) = 1 ∨ pKind s (pPos s e) = 2 → Q e = s (pPos s e + 3) - 65) : gd s A W T Q (e + 1) := fun j hj => by
  rcases Nat.lt_or_ge j e with q | q
  · exact h j q
  · obtain rfl : j = e := by omega
    exact ⟨h1, h2, h3, h4⟩
theorem pSt_end {s A W T Q : Nat → Nat} {i e k : Nat} (he : e ≤ i) (h : gd s A W T Q (e + 1)) (hk : pKind s (pPos s e) = k) (hi : i + 1 = pPos s e + pLen k) : pSt s (i + 1) 0 (e + 1) A W T Q :=
  ⟨by omega, h, by omega, fun _ => by rw [pPos, hk]; exact hi, fun q => by omega, fun q => by omega, fun q => by omega, fun q => by omega, fun q => by omega, fun q => by omega⟩
theorem st_dot {s A W T Q : Nat → Nat} {i e : Nat} (h : pSt s i 0 e A W T Q) (hc : s i = 46) : pSt s (i + 1) 0 (e + 1) (fu A e 4) (fu W e 0) (fu T e 0) (fu Q e 0) ∧ cDue (fD 0) (s i) = fD 0 := by
  obtain ⟨h1, h2, -, h3, -⟩ := h
  have hi := h3 rfl
  have hk : pKind s (pPos s e) = 4 := by
    unfold pKind
    rw [if_pos (by rw [← hi]; exact hc)]
  refine ⟨pSt_end h1 (gd_s (gd_up h2 (fun j hj => fu_ne (by omega)) (fun j hj => fu_ne (by omega)) (fun j hj => fu_ne (by omega)) (fun j hj => fu_ne (by omega))) ?_ (fun q => by omega) (fun q => by omega) (fun q => by omega)) hk (by rw [hi]; rfl), by rw [hc]; rfl⟩
  rw [fu_eq, hk]
theorem st_name {s A W T Q : Nat → Nat} {i e : Nat} (h : pSt s i 0 e A W T Q) (hc : 65 ≤ s i ∧ s i ≤ 72) : pSt s (i + 1) 1 e A (fu W e (s i - 65)) (fu T e 0) (fu Q e 0) ∧ cDue (fD 0) (s i) = fD 1 := by
  obtain ⟨h1, h2, -, h3, -⟩ := h
  have hi := h3 rfl
  refine ⟨⟨by omega, gd_up h2 (fun j hj => rfl) (fun j hj => fu_ne (by omega)) (fun j hj => fu_ne (by omega)) (fun j hj => fu_ne (by omega)), by omega, fun q => by omega, fun _ => ?_, fun _ => by omega, fun q => by omega, fun q => by omega, fun q => by omega, fun q => by omega⟩, ?_⟩
  · rw [fu_eq, ← hi]
    exact ⟨hc.1, hc.2, rfl⟩
  · show cDue 0 (s i) = 1
    unfold cDue
    rw [if_pos rfl, if_neg (by omega), if_pos hc]
theorem st_bad0 {s : Nat → Nat} {i : Nat} (hc : ¬ (65 ≤ s i ∧ s i ≤ 72)) (h2 : ¬ s i = 46) : cDue (fD 0) (s i) = 4 := by
  show cDue 0 (s i) = 4
  unfold cDue
  rw [if_pos rfl, if_neg h2, if_neg hc]
theorem st_sign {s A W T Q : Nat → Nat} {i e d : Nat} (h : pSt s i 1 e A W T Q) (hc : (s i = 36 ∧ d = 2) ∨ (s i = 42 ∧ d = 3)) : pSt s (i + 1) d e A W T Q ∧ cDue (fD 1) (s i) = fD d := by
  obtain ⟨h1, h2, -, -, h4, h5, -⟩ := h
  have hi := h5 rfl
  refine ⟨⟨by omega, h2, by omega, fun q => by omega, fun _ => h4 (by omega), fun q => by omega, fun _ => by omega, fun q => by omega, fun q => ?_, fun q => ?_⟩, ?_⟩
  · rw [← hi]; omega
  · rw [← hi]; omega
  · rcases hc with ⟨hc, rfl⟩ | ⟨hc, rfl⟩
    · show cDue 1 (s i) = 2
      unfold cDue
      rw [if_neg (by decide), if_pos rfl, if_pos (Or.inl hc)]
    · show cDue 1 (s i) = 2
      unfold cDue
      rw [if_neg (by decide), if_pos rfl, if_pos (Or.inr hc)]
theorem st_door {s A W T Q : Nat → Nat} {i e : Nat} (h : pSt s i 1 e A W T Q) (hc : s i = 35) : pSt s (i + 1) 0 (e + 1) (fu A e 3) W T Q ∧ cDue (fD 1) (s i) = fD 0 := by
  obtain ⟨h1, h2, -, -, h4, h5, -⟩ := h
  have hi := h5 rfl
  obtain ⟨w1, w2, w3⟩ := h4 (by omega)
  have hk : pKind s (pPos s e) = 3 := by
    unfold pKind
    rw [if_neg (by omega), if_pos (by rw [← hi]; exact hc)]
  refine ⟨pSt_end h1 (gd_s (gd_up h2 (fun j hj => fu_ne (by omega)) (fun j hj => rfl) (fun j hj => rfl) (fun j hj => rfl)) ?_ (fun _ => w3) (fun q => by omega) (fun q => by omega)) hk (by rw [hi]; rfl), ?_⟩
  · rw [fu_eq, hk]
  · show cDue 1 (s i) = 0
    unfold cDue
    rw [if_neg (by decide), if_pos rfl, if_neg (by omega), if_pos (Or.inr hc)]
theorem st_take {s A W T Q : Nat → Nat} {i e : Nat} (h : pSt s i 1 e A W T Q) (hc : 97 ≤ s i ∧ s i ≤ 108) : pSt s (i + 1) 0 (e + 1) (fu A e 0) W (fu T e (s i - 97)) Q ∧ cDue (fD 1) (s i) = fD 0 := by
  obtain ⟨h1, h2, -, -, h4, h5, -⟩ := h
  have hi := h5 rfl
  obtain ⟨w1, w2, w3⟩ := h4 (by omega)
  have hk : pKind s (pPos s e) = 0 := by
    unfold pKind
    rw [if_neg (by omega), ← hi, if_neg (by omega), if_neg (by omega), if_neg (by omega)]
  refine ⟨pSt_end h1 (gd_s (gd_up h2 (fun j hj => fu_ne (by omega)) (fun j hj => rfl) (fun j hj => fu_ne (by omega)) (fun j hj => rfl)) ?_ (fun _ => w3) (fun q => ?_) (fun q => by omega)) hk (by rw [hi]; rfl), ?_⟩
  · rw [fu_eq, hk]
  · unfold pThing
    rw [fu_eq, if_pos hk, ← hi]
  · show cDue 1 (s i) = 0
    unfold cDue
    rw [if_neg (by decide), if_pos rfl, if_neg (by omega), if_pos (Or.inl hc)]
theorem st_bad1 {s : Nat → Nat} {i : Nat} (h1 : ¬ s i = 35) (h2 : ¬ s i = 36) (h3 : ¬ s i = 42) (h4 : ¬ (97 ≤ s i ∧ s i ≤ 108)) : cDue (fD 1) (s i) = 4 := by
  show cDue 1 (s i) = 4
  unfold cDue
  rw [if_neg (by decide), if_pos rfl, if_neg (by omega), if_neg (by omega)]
theorem st_piece {s A W T Q : Nat → Nat} {i e d : Nat} (h : pSt s i d e A W T Q) (hd : d = 2 ∨ d = 3) (hc : 97 ≤ s i ∧ s i ≤ 108) : pSt s (i + 1) (d + 2) e A W (fu T e (s i - 97)) Q ∧ cDue (fD d) (s i) = fD (d + 2) := by
  obtain ⟨h1, h2, -, -, h4, -, h6, -, h8, h9⟩ := h
  have hi := h6 hd
  refine ⟨⟨by omega, gd_up h2 (fun j hj => rfl) (fun j hj => rfl) (fun j hj => fu_ne (by omega)) (fun j hj => rfl), by omega, fun q => by omega, fun _ => h4 (by omega), fun q => by omega, fun q => by omega, fun _ => ⟨by omega, by rw [fu_eq, ← hi]⟩, fun q => h8 (by omega), fun q => h9 (by omega)⟩, ?_⟩
  rcases hd with rfl | rfl
  all_goals
    show cDue 2 (s i) = 3
    unfold cDue
    rw [if_neg (by decide), if_neg (by decide), if_pos rfl, if_pos hc]
theorem st_bad2 {s : Nat → Nat} {i d : Nat} (hd : d = 2 ∨ d = 3) (h4 : ¬ (97 ≤ s i ∧ s i ≤ 108)) : cDue (fD d) (s i) = 4 := by
  rcases hd with rfl | rfl
  all_goals
    show cDue 2 (s i) = 4
    unfold cDue
    rw [if_neg (by decide), if_neg (by decide), if_pos rfl, if_neg h4]
theorem st_whom {s A W T Q : Nat → Nat} {i e d : Nat} (h : pSt s i d e A W T Q) (hd : d = 4 ∨ d = 5) (hc : 65 ≤ s i ∧ s i ≤ 72) : pSt s (i + 1) 0 (e + 1) (fu A e (if d = 4 then 1 else 2)) W T (fu Q e (s i - 65)) ∧ cDue (fD d) (s i) = fD 0 := by
  obtain ⟨h1, h2, -, -, h4, -, -, h7, h8, h9⟩ := h
  obtain ⟨hi, ht⟩ := h7 hd
  obtain ⟨w1, w2, w3⟩ := h4 (by omega)
  have hk : pKind s (pPos s e) = if d = 4 then 1 else 2 := by
    unfold pKind
    rcases hd with rfl | rfl
    · have := h8 (by omega)
      rw [if_neg (by omega), if_neg (by omega), if_pos this, if_pos rfl]
    · have := h9 (by omega)
      rw [if_neg (by omega), if_neg (by omega), if_neg (by omega), if_pos this, if_neg (by decide)]
  have hk2 : (if d = 4 then 1 else 2) = 1 ∨ (if d = 4 then 1 else 2) = 2 := by split <;> omega
  refine ⟨pSt_end h1 (gd_s (gd_up h2 (fun j hj => fu_ne (by omega)) (fun j hj => rfl) (fun j hj => rfl) (fun j hj => fu_ne (by omega))) ?_ (fun _ => w3) (fun _ => ?_) (fun _ => ?_)) hk ?_, ?_⟩
  · rw [fu_eq, hk]
  · unfold pThing
    rw [ht, if_neg (by rw [hk]; omega)]
  · rw [fu_eq, ← hi]
  · unfold pLen
    rw [hi, if_neg (by omega), if_pos hk2]
  · rcases hd with rfl | rfl
    all_goals
      show cDue 3 (s i) = 0
      unfold cDue
      rw [if_neg (by decide), if_neg (by decide), if_neg (by decide), if_pos rfl, if_pos hc]
theorem st_bad4 {s : Nat → Nat} {i d : Nat} (hd : d = 4 ∨ d = 5) (h4 : ¬ (65 ≤ s i ∧ s i ≤ 72)) : cDue (fD d) (s i) = 4 := by
  rcases hd with rfl | rfl
  all_goals
    show cDue 3 (s i) = 4
    unfold cDue
    rw [if_neg (by decide), if_neg (by decide), if_neg (by decide), if_pos rfl, if_neg h4]
def pM (M : uM) (f A W T Q : Nat → Nat) : uM := uAr (uAr (uAr (uAr (uAr M 71 f) 81 A) 82 W) 83 T) 84 Q
/-- what reading one sign comes to -/
def rdOn (M : uM) (s : Nat → Nat) (i d : Nat) (f : Nat → Nat) (r : Int32) (M2 : uM) : Prop :=
  (cDue (fD d) (s i) = 4 ∧ r = -6 ∧ ∃ A W T Q, M2 = pM M f A W T Q) ∨ ∃ d2 e2 A W T Q, r = nI d2 ∧ M2 = pM M (fu f 17 e2) A W T Q ∧ pSt s (i + 1) d2 e2 A W T Q ∧ cDue (fD d) (s i) = fD d2
theorem fu_id (f : Nat → Nat) (i : Nat) : fu f i (f i) = f := funext fun x => by
  by_cases h : x = i
  · subst h; exact fu_eq _ _ _
  · exact fu_ne h
theorem fu_fu (f : Nat → Nat) (i a b : Nat) : fu (fu f i a) i b = fu f i b := funext fun x => by
  by_cases h : x = i
  · subst h; rw [fu_eq, fu_eq]
  · rw [fu_ne h, fu_ne h, fu_ne h]
theorem qX12_close_37 : Cond.fieldLink RX12 37 (TX12 13).1 (TX12 13).2.1 (TX12 13).2.2.1 ∈ wsX12_close := List.mem_of_getElem? (i := 1) rfl
theorem iX12_close_X12 : ∀ w ∈ wsX120, w ∈ wsX12_close := fun _ h => List.mem_cons_of_mem _ (List.mem_append_right _ h)
theorem qX12_close_124 : Cond.fieldLink RX12 124 (TX12 17).1 (TX12 17).2.1 (TX12 17).2.2.1 ∈ wsX12_close := List.mem_of_getElem? (i := 2) rfl
theorem qX12_begin_40 : Cond.fieldLink RX12 40 (TX12 14).1 (TX12 14).2.1 (TX12 14).2.2.1 ∈ wsX12_begin := List.mem_of_getElem? (i := 1) rfl
theorem iX12_begin_X12 : ∀ w ∈ wsX120, w ∈ wsX12_begin := fun _ h => List.mem_cons_of_mem _ (List.mem_append_right _ h)
theorem qX12_begin_124 : Cond.fieldLink RX12 124 (TX12 17).1 (TX12 17).2.1 (TX12 17).2.2.1 ∈ wsX12_begin := List.mem_of_getElem? (i := 2) rfl
theorem qX12_begin_43 : Cond.fieldLink RX12 43 (TX12 15).1 (TX12 15).2.1 (TX12 15).2.2.1 ∈ wsX12_begin := List.mem_of_getElem? (i := 3) rfl
theorem qX12_begin_46 : Cond.fieldLink RX12 46 (TX12 16).1 (TX12 16).2.1 (TX12 16).2.2.1 ∈ wsX12_begin := List.mem_of_getElem? (i := 4) rfl
theorem qX12_takeIt_43 : Cond.fieldLink RX12 43 (TX12 15).1 (TX12 15).2.1 (TX12 15).2.2.1 ∈ wsX12_takeIt := List.mem_of_getElem? (i := 1) rfl
theorem iX12_takeIt_X12 : ∀ w ∈ wsX120, w ∈ wsX12_takeIt := fun _ h => List.mem_cons_of_mem _ (List.mem_append_right _ h)
theorem qX12_takeIt_124 : Cond.fieldLink RX12 124 (TX12 17).1 (TX12 17).2.1 (TX12 17).2.2.1 ∈ wsX12_takeIt := List.mem_of_getElem? (i := 2) rfl
theorem qX12_piece_43 : Cond.fieldLink RX12 43 (TX12 15).1 (TX12 15).2.1 (TX12 15).2.2.1 ∈ wsX12_piece := List.mem_of_getElem? (i := 1) rfl
theorem iX12_piece_X12 : ∀ w ∈ wsX120, w ∈ wsX12_piece := fun _ h => List.mem_cons_of_mem _ (List.mem_append_right _ h)
theorem qX12_piece_124 : Cond.fieldLink RX12 124 (TX12 17).1 (TX12 17).2.1 (TX12 17).2.2.1 ∈ wsX12_piece := List.mem_of_getElem? (i := 2) rfl
theorem qX12_toWhom_46 : Cond.fieldLink RX12 46 (TX12 16).1 (TX12 16).2.1 (TX12 16).2.2.1 ∈ wsX12_toWhom := List.mem_of_getElem? (i := 1) rfl
theorem iX12_toWhom_X12 : ∀ w ∈ wsX120, w ∈ wsX12_toWhom := fun _ h => List.mem_cons_of_mem _ (List.mem_append_right _ h)
theorem qX12_toWhom_124 : Cond.fieldLink RX12 124 (TX12 17).1 (TX12 17).2.1 (TX12 17).2.2.1 ∈ wsX12_toWhom := List.mem_of_getElem? (i := 2) rfl
set_option maxHeartbeats 4000000 in
set_option maxRecDepth 100000 in
theorem c_X12_close (l : Launch) (G : uG) (d : Nat) (M : uM) (f A W T Q : Nat → Nat) (he : f 17 < 60) : CTi l G yX12_close wsX12_close 0 0 [.ref (G.2.2 71), .int (nI d)] (uAr (uAr (uAr (uAr (uAr M 71 f) 81 A) 82 W) 83 T) 84 Q) (fun r M2 => r = 0 ∧ M2 = (uAr (uAr (uAr (uAr (uAr M 71 (fu f 17 (f 17 + 1))) 81 (fu A (f 17) d)) 82 W) 83 T) 84 Q)) := by
  refine ustart_i (cc := cX12_close) (maxL := 2) (ret := (some .int)) (own := RX12) rfl (by decide) rfl (Nat.le_of_ble_eq_true rfl) ?_
  intro xp xe xs xm xa xb xt xc xA ls S hK hA Z hre hlk hl
  have hl : lv_has ls 2 [(0, .ref (G.2.2 71)), (1, .int (nI d))] := hl
  refine lv_aload_n S.1 S.2.1 dX12_close_0 rfl (lv_at hl 0 rfl) ?_
  refine ug_r S hK Z (j := 13) 81 (by decide) rfl rfl rfl (by decide) iX12_close_X12 qX12_close_37 dX12_close_1 ?_
  refine lv_aload_n S.1 S.2.1 dX12_close_4 rfl (lv_at hl 0 rfl) ?_
  refine ug_i S hK Z (j := 17) (by decide) rfl rfl rfl (by decide) iX12_close_X12 qX12_close_124 dX12_close_5 ?_
  refine utop (y := (nI (f 17))) ((uAr_o (uAr (uAr (uAr (uAr M 71 f) 81 A) 82 W) 83 T) 84 Q 17 (a := 71) (by decide)).trans ((uAr_o (uAr (uAr (uAr M 71 f) 81 A) 82 W) 83 T 17 (a := 71) (by decide)).trans ((uAr_o (uAr (uAr M 71 f) 81 A) 82 W 17 (a := 71) (by decide)).trans ((uAr_o (uAr M 71 f) 81 A 17 (a := 71) (by decide)).trans (uAr_g M 71 f 17))))) ?_
  refine lv_iload_n S.1 S.2.1 dX12_close_8 rfl (lv_at hl 1 rfl) ?_
  refine ua_ist S hK Z (f 17) (by decide) rfl rfl (by omega) dX12_close_9 (fun H locs Z => ?_)
  have Z := uZ_eq ((uAr_c (uAr (uAr (uAr (uAr M 71 f) 81 A) 82 W) 83 T) 84 Q (a := 81) (f 17) (nI d) (by decide)).trans (congrArg (fun X => uAr X 84 Q) ((uAr_c (uAr (uAr (uAr M 71 f) 81 A) 82 W) 83 T (a := 81) (f 17) (nI d) (by decide)).trans (congrArg (fun X => uAr X 83 T) ((uAr_c (uAr (uAr M 71 f) 81 A) 82 W (a := 81) (f 17) (nI d) (by decide)).trans (congrArg (fun X => uAr X 82 W) (uAr_s (uAr M 71 f) 81 A (f 17) d))))))) Z
  refine lv_aload_n S.1 S.2.1 dX12_close_10 rfl (lv_at hl 0 rfl) ?_
  refine lv_dup S.1 S.2.1 dX12_close_11 rfl ?_
  refine ug_i S hK Z (j := 17) (by decide) rfl rfl rfl (by decide) iX12_close_X12 qX12_close_124 dX12_close_12 ?_
  refine utop (y := (nI (f 17))) ((uAr_o (uAr (uAr (uAr (uAr M 71 f) 81 (fu A (f 17) d)) 82 W) 83 T) 84 Q 17 (a := 71) (by decide)).trans ((uAr_o (uAr (uAr (uAr M 71 f) 81 (fu A (f 17) d)) 82 W) 83 T 17 (a := 71) (by decide)).trans ((uAr_o (uAr (uAr M 71 f) 81 (fu A (f 17) d)) 82 W 17 (a := 71) (by decide)).trans ((uAr_o (uAr M 71 f) 81 (fu A (f 17) d) 17 (a := 71) (by decide)).trans (uAr_g M 71 f 17))))) ?_
  refine lv_iconst (v := 1) S.1 S.2.1 dX12_close_15 (by decide) ?_
  refine lv_iadd S.1 S.2.1 dX12_close_16 ?_
  refine utop (nI_add (f 17) 1) ?_
  refine up_i S hK Z (j := 17) (by decide) rfl rfl rfl (by decide) iX12_close_X12 tyX12_ok nmX12 qX12_close_124 rfl rfl rfl dX12_close_17 (fun H locs Z => ?_)
  have Z := uZ_eq ((uAr_c (uAr (uAr (uAr (uAr M 71 f) 81 (fu A (f 17) d)) 82 W) 83 T) 84 Q (a := 71) 17 (nI ((f 17) + 1)) (by decide)).trans (congrArg (fun X => uAr X 84 Q) ((uAr_c (uAr (uAr (uAr M 71 f) 81 (fu A (f 17) d)) 82 W) 83 T (a := 71) 17 (nI ((f 17) + 1)) (by decide)).trans (congrArg (fun X => uAr X 83 T) ((uAr_c (uAr (uAr M 71 f) 81 (fu A (f 17) d)) 82 W (a := 71) 17 (nI ((f 17) + 1)) (by decide)).trans (congrArg (fun X => uAr X 82 W) ((uAr_c (uAr M 71 f) 81 (fu A (f 17) d) (a := 71) 17 (nI ((f 17) + 1)) (by decide)).trans (congrArg (fun X => uAr X 81 (fu A (f 17) d)) (uAr_s M 71 f 17 ((f 17) + 1)))))))))) Z
  refine lv_iconst (v := 0) S.1 S.2.1 dX12_close_20 (by decide) ?_
  refine uret_i S hK Z hre hlk dX12_close_21 ?_
  exact ⟨rfl, rfl⟩
set_option maxHeartbeats 4000000 in
set_option maxRecDepth 100000 in
theorem c_X12_beginY (l : Launch) (G : uG) (c0 : Nat) (hc : 65 ≤ c0 ∧ c0 ≤ 72) (M : uM) (f A W T Q : Nat → Nat) (he : f 17 < 60) : CTi l G yX12_begin wsX12_begin 2 45 [.ref (G.2.2 71), .int (nI c0)] (uAr (uAr (uAr (uAr (uAr M 71 f) 81 A) 82 W) 83 T) 84 Q) (fun r M2 => r = 1 ∧ M2 = (uAr (uAr (uAr (uAr (uAr M 71 f) 81 A) 82 (fu W (f 17) (c0 - 65))) 83 (fu T (f 17) 0)) 84 (fu Q (f 17) 0))) := by
  refine ustart_i (cc := cX12_begin) (maxL := 2) (ret := (some .int)) (own := RX12) rfl (by decide) rfl (Nat.le_of_ble_eq_true rfl) ?_
  intro xp xe xs xm xa xb xt xc xA ls S hK hA Z hre hlk hl
  have hl : lv_has ls 2 [(0, .ref (G.2.2 71)), (1, .int (nI c0))] := hl
  refine lv_aload_n S.1 S.2.1 dX12_begin_0 rfl (lv_at hl 0 rfl) ?_
  refine ug_r S hK Z (j := 14) 82 (by decide) rfl rfl rfl (by decide) iX12_begin_X12 qX12_begin_40 dX12_begin_1 ?_
  refine lv_aload_n S.1 S.2.1 dX12_begin_4 rfl (lv_at hl 0 rfl) ?_
  refine ug_i S hK Z (j := 17) (by decide) rfl rfl rfl (by decide) iX12_begin_X12 qX12_begin_124 dX12_begin_5 ?_
  refine utop (y := (nI (f 17))) ((uAr_o (uAr (uAr (uAr (uAr M 71 f) 81 A) 82 W) 83 T) 84 Q 17 (a := 71) (by decide)).trans ((uAr_o (uAr (uAr (uAr M 71 f) 81 A) 82 W) 83 T 17 (a := 71) (by decide)).trans ((uAr_o (uAr (uAr M 71 f) 81 A) 82 W 17 (a := 71) (by decide)).trans ((uAr_o (uAr M 71 f) 81 A 17 (a := 71) (by decide)).trans (uAr_g M 71 f 17))))) ?_
  refine lv_iload_n S.1 S.2.1 dX12_begin_8 rfl (lv_at hl 1 rfl) ?_
  refine uc_Si (As := [.int (nI c0)]) (rest := [.int (nI (f 17)), .ref (G.2.2 82)]) S hK hA Z (c_X12_isName l G (nI c0) (uAr (uAr (uAr (uAr (uAr M 71 f) 81 A) 82 W) 83 T) 84 Q)) (va_cwS 1 S.2.2.2.2 gX12_begin_X12_isName rfl rfl rfl (by decide +kernel) ⟨Nat.le_of_ble_eq_true rfl, Nat.le_of_ble_eq_true rfl⟩) rfl hl.1 rfl (Nat.le_of_ble_eq_true rfl) dX12_begin_9 ⟨Nat.zero_le _, Nat.zero_le _⟩ (fun r_1 M_1 H locs hp Z => ?_)
  obtain ⟨⟨rfl, w_1⟩ | ⟨rfl, w_1⟩, hM_1⟩ := hp
  · skip
    rw [hM_1] at Z
    refine lv_if_eq (tgt := 22) S.1 S.2.1 dX12_begin_12 (by decide) (fun c => absurd c (by decide)) (fun _ => ?_)
    refine lv_iload_n S.1 S.2.1 dX12_begin_15 rfl (lv_at hl 1 rfl) ?_
    refine lv_bipush (v := 65) S.1 S.2.1 dX12_begin_16 (by decide) ?_
    refine lv_isub S.1 S.2.1 dX12_begin_18 ?_
    refine utop (pk_sub (a := c0) (b := 65) (by omega)) ?_
    refine lv_goto (tgt := 23) S.1 S.2.1 dX12_begin_19 (by decide) ?_
    refine ua_ist S hK Z (f 17) (by decide) rfl rfl (by omega) dX12_begin_23 (fun H locs Z => ?_)
    have Z := uZ_eq ((uAr_c (uAr (uAr (uAr (uAr M 71 f) 81 A) 82 W) 83 T) 84 Q (a := 82) (f 17) (nI (c0 - 65)) (by decide)).trans (congrArg (fun X => uAr X 84 Q) ((uAr_c (uAr (uAr (uAr M 71 f) 81 A) 82 W) 83 T (a := 82) (f 17) (nI (c0 - 65)) (by decide)).trans (congrArg (fun X => uAr X 83 T) (uAr_s (uAr (uAr M 71 f) 81 A) 82 W (f 17) (c0 - 65)))))) Z
    refine lv_aload_n S.1 S.2.1 dX12_begin_24 rfl (lv_at hl 0 rfl) ?_
    refine ug_r S hK Z (j := 15) 83 (by decide) rfl rfl rfl (by decide) iX12_begin_X12 qX12_begin_43 dX12_begin_25 ?_
    refine lv_aload_n S.1 S.2.1 dX12_begin_28 rfl (lv_at hl 0 rfl) ?_
    refine ug_i S hK Z (j := 17) (by decide) rfl rfl rfl (by decide) iX12_begin_X12 qX12_begin_124 dX12_begin_29 ?_
    refine utop (y := (nI (f 17))) ((uAr_o (uAr (uAr (uAr (uAr M 71 f) 81 A) 82 (fu W (f 17) (c0 - 65))) 83 T) 84 Q 17 (a := 71) (by decide)).trans ((uAr_o (uAr (uAr (uAr M 71 f) 81 A) 82 (fu W (f 17) (c0 - 65))) 83 T 17 (a := 71) (by decide)).trans ((uAr_o (uAr (uAr M 71 f) 81 A) 82 (fu W (f 17) (c0 - 65)) 17 (a := 71) (by decide)).trans ((uAr_o (uAr M 71 f) 81 A 17 (a := 71) (by decide)).trans (uAr_g M 71 f 17))))) ?_
    refine lv_iconst (v := 0) S.1 S.2.1 dX12_begin_32 (by decide) ?_
    refine ua_ist S hK Z (f 17) (by decide) rfl rfl (by omega) dX12_begin_33 (fun H locs Z => ?_)
    have Z := uZ_eq ((uAr_c (uAr (uAr (uAr (uAr M 71 f) 81 A) 82 (fu W (f 17) (c0 - 65))) 83 T) 84 Q (a := 83) (f 17) (nI 0) (by decide)).trans (congrArg (fun X => uAr X 84 Q) (uAr_s (uAr (uAr (uAr M 71 f) 81 A) 82 (fu W (f 17) (c0 - 65))) 83 T (f 17) 0))) Z
    refine lv_aload_n S.1 S.2.1 dX12_begin_34 rfl (lv_at hl 0 rfl) ?_
    refine ug_r S hK Z (j := 16) 84 (by decide) rfl rfl rfl (by decide) iX12_begin_X12 qX12_begin_46 dX12_begin_35 ?_
    refine lv_aload_n S.1 S.2.1 dX12_begin_38 rfl (lv_at hl 0 rfl) ?_
    refine ug_i S hK Z (j := 17) (by decide) rfl rfl rfl (by decide) iX12_begin_X12 qX12_begin_124 dX12_begin_39 ?_
    refine utop (y := (nI (f 17))) ((uAr_o (uAr (uAr (uAr (uAr M 71 f) 81 A) 82 (fu W (f 17) (c0 - 65))) 83 (fu T (f 17) 0)) 84 Q 17 (a := 71) (by decide)).trans ((uAr_o (uAr (uAr (uAr M 71 f) 81 A) 82 (fu W (f 17) (c0 - 65))) 83 (fu T (f 17) 0) 17 (a := 71) (by decide)).trans ((uAr_o (uAr (uAr M 71 f) 81 A) 82 (fu W (f 17) (c0 - 65)) 17 (a := 71) (by decide)).trans ((uAr_o (uAr M 71 f) 81 A 17 (a := 71) (by decide)).trans (uAr_g M 71 f 17))))) ?_
    refine lv_iconst (v := 0) S.1 S.2.1 dX12_begin_42 (by decide) ?_
    refine ua_ist S hK Z (f 17) (by decide) rfl rfl (by omega) dX12_begin_43 (fun H locs Z => ?_)
    have Z := uZ_eq (uAr_s (uAr (uAr (uAr (uAr M 71 f) 81 A) 82 (fu W (f 17) (c0 - 65))) 83 (fu T (f 17) 0)) 84 Q (f 17) 0) Z
    refine lv_iload_n S.1 S.2.1 dX12_begin_44 rfl (lv_at hl 1 rfl) ?_
    refine uc_Si (As := [.int (nI c0)]) (rest := []) S hK hA Z (c_X12_isName l G (nI c0) (uAr (uAr (uAr (uAr (uAr M 71 f) 81 A) 82 (fu W (f 17) (c0 - 65))) 83 (fu T (f 17) 0)) 84 (fu Q (f 17) 0))) (va_cwS 1 S.2.2.2.2 gX12_begin_X12_isName rfl rfl rfl (by decide +kernel) ⟨Nat.le_of_ble_eq_true rfl, Nat.le_of_ble_eq_true rfl⟩) rfl hl.1 rfl (Nat.le_of_ble_eq_true rfl) dX12_begin_45 ⟨Nat.zero_le _, Nat.zero_le _⟩ (fun r_3 M_3 H locs hp Z => ?_)
    obtain ⟨⟨rfl, w_3⟩ | ⟨rfl, w_3⟩, hM_3⟩ := hp
    · skip
      rw [hM_3] at Z
      refine lv_if_eq (tgt := 55) S.1 S.2.1 dX12_begin_48 (by decide) (fun c => absurd c (by decide)) (fun _ => ?_)
      refine lv_iconst (v := 1) S.1 S.2.1 dX12_begin_51 (by decide) ?_
      refine lv_goto (tgt := 71) S.1 S.2.1 dX12_begin_52 (by decide) ?_
      refine uret_i S hK Z hre hlk dX12_begin_71 ?_
      exact ⟨rfl, rfl⟩
    · skip
      rw [hM_3] at Z
      refine lv_if_eq (tgt := 55) S.1 S.2.1 dX12_begin_48 (by decide) (fun _ => ?_) (fun c => absurd c (by decide))
      exact absurd (u_inn' hc (by decide)) (by assumption)
  · skip
    rw [hM_1] at Z
    refine lv_if_eq (tgt := 22) S.1 S.2.1 dX12_begin_12 (by decide) (fun _ => ?_) (fun c => absurd c (by decide))
    exact absurd (u_inn' hc (by decide)) (by assumption)
set_option maxHeartbeats 4000000 in
set_option maxRecDepth 100000 in
theorem c_X12_beginN (l : Launch) (G : uG) (c0 : Nat) (hc0 : c0 < 127) (hc : ¬ (65 ≤ c0 ∧ c0 ≤ 72)) (M : uM) (f A W T Q : Nat → Nat) (he : f 17 < 60) : CTi l G yX12_begin wsX12_begin 2 45 [.ref (G.2.2 71), .int (nI c0)] (uAr (uAr (uAr (uAr (uAr M 71 f) 81 A) 82 W) 83 T) 84 Q) (fun r M2 => (c0 = 46 ∧ r = 0 ∧ M2 = (uAr (uAr (uAr (uAr (uAr M 71 (fu f 17 (f 17 + 1))) 81 (fu A (f 17) 4)) 82 (fu W (f 17) 0)) 83 (fu T (f 17) 0)) 84 (fu Q (f 17) 0))) ∨ (¬ c0 = 46 ∧ r = -6 ∧ M2 = (uAr (uAr (uAr (uAr (uAr M 71 f) 81 A) 82 (fu W (f 17) 0)) 83 (fu T (f 17) 0)) 84 (fu Q (f 17) 0)))) := by
  refine ustart_i (cc := cX12_begin) (maxL := 2) (ret := (some .int)) (own := RX12) rfl (by decide) rfl (Nat.le_of_ble_eq_true rfl) ?_
  intro xp xe xs xm xa xb xt xc xA ls S hK hA Z hre hlk hl
  have hl : lv_has ls 2 [(0, .ref (G.2.2 71)), (1, .int (nI c0))] := hl
  refine lv_aload_n S.1 S.2.1 dX12_begin_0 rfl (lv_at hl 0 rfl) ?_
  refine ug_r S hK Z (j := 14) 82 (by decide) rfl rfl rfl (by decide) iX12_begin_X12 qX12_begin_40 dX12_begin_1 ?_
  refine lv_aload_n S.1 S.2.1 dX12_begin_4 rfl (lv_at hl 0 rfl) ?_
  refine ug_i S hK Z (j := 17) (by decide) rfl rfl rfl (by decide) iX12_begin_X12 qX12_begin_124 dX12_begin_5 ?_
  refine utop (y := (nI (f 17))) ((uAr_o (uAr (uAr (uAr (uAr M 71 f) 81 A) 82 W) 83 T) 84 Q 17 (a := 71) (by decide)).trans ((uAr_o (uAr (uAr (uAr M 71 f) 81 A) 82 W) 83 T 17 (a := 71) (by decide)).trans ((uAr_o (uAr (uAr M 71 f) 81 A) 82 W 17 (a := 71) (by decide)).trans ((uAr_o (uAr M 71 f) 81 A 17 (a := 71) (by decide)).trans (uAr_g M 71 f 17))))) ?_
  refine lv_iload_n S.1 S.2.1 dX12_begin_8 rfl (lv_at hl 1 rfl) ?_
  refine uc_Si (As := [.int (nI c0)]) (rest := [.int (nI (f 17)), .ref (G.2.2 82)]) S hK hA Z (c_X12_isName l G (nI c0) (uAr (uAr (uAr (uAr (uAr M 71 f) 81 A) 82 W) 83 T) 84 Q)) (va_cwS 1 S.2.2.2.2 gX12_begin_X12_isName rfl rfl rfl (by decide +kernel) ⟨Nat.le_of_ble_eq_true rfl, Nat.le_of_ble_eq_true rfl⟩) rfl hl.1 rfl (Nat.le_of_ble_eq_true rfl) dX12_begin_9 ⟨Nat.zero_le _, Nat.zero_le _⟩ (fun r_1 M_1 H locs hp Z => ?_)
  obtain ⟨⟨rfl, w_1⟩ | ⟨rfl, w_1⟩, hM_1⟩ := hp
  · skip
    rw [hM_1] at Z
    refine lv_if_eq (tgt := 22) S.1 S.2.1 dX12_begin_12 (by decide) (fun c => absurd c (by decide)) (fun _ => ?_)
    exact absurd (u_inn (lo := 65) (hi := 72) (by assumption) (by omega) (by decide) (by decide)) hc
  · skip
    rw [hM_1] at Z
    refine lv_if_eq (tgt := 22) S.1 S.2.1 dX12_begin_12 (by decide) (fun _ => ?_) (fun c => absurd c (by decide))
    refine lv_iconst (v := 0) S.1 S.2.1 dX12_begin_22 (by decide) ?_
    refine ua_ist S hK Z (f 17) (by decide) rfl rfl (by omega) dX12_begin_23 (fun H locs Z => ?_)
    have Z := uZ_eq ((uAr_c (uAr (uAr (uAr (uAr M 71 f) 81 A) 82 W) 83 T) 84 Q (a := 82) (f 17) (nI 0) (by decide)).trans (congrArg (fun X => uAr X 84 Q) ((uAr_c (uAr (uAr (uAr M 71 f) 81 A) 82 W) 83 T (a := 82) (f 17) (nI 0) (by decide)).trans (congrArg (fun X => uAr X 83 T) (uAr_s (uAr (uAr M 71 f) 81 A) 82 W (f 17) 0))))) Z
    refine lv_aload_n S.1 S.2.1 dX12_begin_24 rfl (lv_at hl 0 rfl) ?_
    refine ug_r S hK Z (j := 15) 83 (by decide) rfl rfl rfl (by decide) iX12_begin_X12 qX12_begin_43 dX12_begin_25 ?_
    refine lv_aload_n S.1 S.2.1 dX12_begin_28 rfl (lv_at hl 0 rfl) ?_
    refine ug_i S hK Z (j := 17) (by decide) rfl rfl rfl (by decide) iX12_begin_X12 qX12_begin_124 dX12_begin_29 ?_
    refine utop (y := (nI (f 17))) ((uAr_o (uAr (uAr (uAr (uAr M 71 f) 81 A) 82 (fu W (f 17) 0)) 83 T) 84 Q 17 (a := 71) (by decide)).trans ((uAr_o (uAr (uAr (uAr M 71 f) 81 A) 82 (fu W (f 17) 0)) 83 T 17 (a := 71) (by decide)).trans ((uAr_o (uAr (uAr M 71 f) 81 A) 82 (fu W (f 17) 0) 17 (a := 71) (by decide)).trans ((uAr_o (uAr M 71 f) 81 A 17 (a := 71) (by decide)).trans (uAr_g M 71 f 17))))) ?_
    refine lv_iconst (v := 0) S.1 S.2.1 dX12_begin_32 (by decide) ?_
    refine ua_ist S hK Z (f 17) (by decide) rfl rfl (by omega) dX12_begin_33 (fun H locs Z => ?_)
    have Z := uZ_eq ((uAr_c (uAr (uAr (uAr (uAr M 71 f) 81 A) 82 (fu W (f 17) 0)) 83 T) 84 Q (a := 83) (f 17) (nI 0) (by decide)).trans (congrArg (fun X => uAr X 84 Q) (uAr_s (uAr (uAr (uAr M 71 f) 81 A) 82 (fu W (f 17) 0)) 83 T (f 17) 0))) Z
    refine lv_aload_n S.1 S.2.1 dX12_begin_34 rfl (lv_at hl 0 rfl) ?_
    refine ug_r S hK Z (j := 16) 84 (by decide) rfl rfl rfl (by decide) iX12_begin_X12 qX12_begin_46 dX12_begin_35 ?_
    refine lv_aload_n S.1 S.2.1 dX12_begin_38 rfl (lv_at hl 0 rfl) ?_
    refine ug_i S hK Z (j := 17) (by decide) rfl rfl rfl (by decide) iX12_begin_X12 qX12_begin_124 dX12_begin_39 ?_
    refine utop (y := (nI (f 17))) ((uAr_o (uAr (uAr (uAr (uAr M 71 f) 81 A) 82 (fu W (f 17) 0)) 83 (fu T (f 17) 0)) 84 Q 17 (a := 71) (by decide)).trans ((uAr_o (uAr (uAr (uAr M 71 f) 81 A) 82 (fu W (f 17) 0)) 83 (fu T (f 17) 0) 17 (a := 71) (by decide)).trans ((uAr_o (uAr (uAr M 71 f) 81 A) 82 (fu W (f 17) 0) 17 (a := 71) (by decide)).trans ((uAr_o (uAr M 71 f) 81 A 17 (a := 71) (by decide)).trans (uAr_g M 71 f 17))))) ?_
    refine lv_iconst (v := 0) S.1 S.2.1 dX12_begin_42 (by decide) ?_
    refine ua_ist S hK Z (f 17) (by decide) rfl rfl (by omega) dX12_begin_43 (fun H locs Z => ?_)
    have Z := uZ_eq (uAr_s (uAr (uAr (uAr (uAr M 71 f) 81 A) 82 (fu W (f 17) 0)) 83 (fu T (f 17) 0)) 84 Q (f 17) 0) Z
    refine lv_iload_n S.1 S.2.1 dX12_begin_44 rfl (lv_at hl 1 rfl) ?_
    refine uc_Si (As := [.int (nI c0)]) (rest := []) S hK hA Z (c_X12_isName l G (nI c0) (uAr (uAr (uAr (uAr (uAr M 71 f) 81 A) 82 (fu W (f 17) 0)) 83 (fu T (f 17) 0)) 84 (fu Q (f 17) 0))) (va_cwS 1 S.2.2.2.2 gX12_begin_X12_isName rfl rfl rfl (by decide +kernel) ⟨Nat.le_of_ble_eq_true rfl, Nat.le_of_ble_eq_true rfl⟩) rfl hl.1 rfl (Nat.le_of_ble_eq_true rfl) dX12_begin_45 ⟨Nat.zero_le _, Nat.zero_le _⟩ (fun r_4 M_4 H locs hp Z => ?_)
    obtain ⟨⟨rfl, w_4⟩ | ⟨rfl, w_4⟩, hM_4⟩ := hp
    · skip
      rw [hM_4] at Z
      refine lv_if_eq (tgt := 55) S.1 S.2.1 dX12_begin_48 (by decide) (fun c => absurd c (by decide)) (fun _ => ?_)
      exact absurd (u_inn (lo := 65) (hi := 72) (by assumption) (by omega) (by decide) (by decide)) hc
    · skip
      rw [hM_4] at Z
      refine lv_if_eq (tgt := 55) S.1 S.2.1 dX12_begin_48 (by decide) (fun _ => ?_) (fun c => absurd c (by decide))
      refine lv_iload_n S.1 S.2.1 dX12_begin_55 rfl (lv_at hl 1 rfl) ?_
      refine lv_bipush (v := 46) S.1 S.2.1 dX12_begin_56 (by decide) ?_
      refine lv_icmp_ne (tgt := 69) S.1 S.2.1 dX12_begin_58 (by decide) (fun c_7 => ?_) (fun c_7 => ?_)
      · skip
        have c_7 : ¬ c0 = 46 := fun z9 => c_7 ((nI_eq (a := c0) (b := 46) (by omega) (by omega)).mpr z9)
        refine lv_bipush (v := (-6)) S.1 S.2.1 dX12_begin_69 (by decide) ?_
        refine uret_i S hK Z hre hlk dX12_begin_71 ?_
        exact Or.inr ⟨by omega, rfl, rfl⟩
      · skip
        have c_7 : c0 = 46 := (nI_eq (a := c0) (b := 46) (by omega) (by omega)).mp c_7
        refine lv_aload_n S.1 S.2.1 dX12_begin_61 rfl (lv_at hl 0 rfl) ?_
        refine lv_iconst (v := 4) S.1 S.2.1 dX12_begin_62 (by decide) ?_
        refine ud_Vi (As := [.int 4]) (rest := []) S hK hA Z (c_X12_close l G 4 M f A (fu W (f 17) 0) (fu T (f 17) 0) (fu Q (f 17) 0) he) (cwV 1 S.2.2.2.2 gX12_begin_X12_close rfl rfl rfl (by decide +kernel) ⟨Nat.le_of_ble_eq_true rfl, Nat.le_of_ble_eq_true rfl⟩) (by decide) rfl rfl rfl hl.1 rfl (Nat.le_of_ble_eq_true rfl) dX12_begin_63 ⟨Nat.zero_le _, Nat.zero_le _⟩ (fun H locs Z => ?_)
        refine lv_goto (tgt := 71) S.1 S.2.1 dX12_begin_66 (by decide) ?_
        refine uret_i S hK Z hre hlk dX12_begin_71 ?_
        exact Or.inl ⟨by omega, rfl, rfl⟩
set_option maxHeartbeats 4000000 in
set_option maxRecDepth 100000 in
theorem c_X12_takeItY (l : Launch) (G : uG) (c0 : Nat) (hc : 97 ≤ c0 ∧ c0 ≤ 108) (M : uM) (f A W T Q : Nat → Nat) (he : f 17 < 60) : CTi l G yX12_takeIt wsX12_takeIt 2 45 [.ref (G.2.2 71), .int (nI c0)] (uAr (uAr (uAr (uAr (uAr M 71 f) 81 A) 82 W) 83 T) 84 Q) (fun r M2 => r = 0 ∧ M2 = (uAr (uAr (uAr (uAr (uAr M 71 (fu f 17 (f 17 + 1))) 81 (fu A (f 17) 0)) 82 W) 83 (fu T (f 17) (c0 - 97))) 84 Q)) := by
  refine ustart_i (cc := cX12_takeIt) (maxL := 2) (ret := (some .int)) (own := RX12) rfl (by decide) rfl (Nat.le_of_ble_eq_true rfl) ?_
  intro xp xe xs xm xa xb xt xc xA ls S hK hA Z hre hlk hl
  have hl : lv_has ls 2 [(0, .ref (G.2.2 71)), (1, .int (nI c0))] := hl
  refine lv_aload_n S.1 S.2.1 dX12_takeIt_0 rfl (lv_at hl 0 rfl) ?_
  refine ug_r S hK Z (j := 15) 83 (by decide) rfl rfl rfl (by decide) iX12_takeIt_X12 qX12_takeIt_43 dX12_takeIt_1 ?_
  refine lv_aload_n S.1 S.2.1 dX12_takeIt_4 rfl (lv_at hl 0 rfl) ?_
  refine ug_i S hK Z (j := 17) (by decide) rfl rfl rfl (by decide) iX12_takeIt_X12 qX12_takeIt_124 dX12_takeIt_5 ?_
  refine utop (y := (nI (f 17))) ((uAr_o (uAr (uAr (uAr (uAr M 71 f) 81 A) 82 W) 83 T) 84 Q 17 (a := 71) (by decide)).trans ((uAr_o (uAr (uAr (uAr M 71 f) 81 A) 82 W) 83 T 17 (a := 71) (by decide)).trans ((uAr_o (uAr (uAr M 71 f) 81 A) 82 W 17 (a := 71) (by decide)).trans ((uAr_o (uAr M 71 f) 81 A 17 (a := 71) (by decide)).trans (uAr_g M 71 f 17))))) ?_
  refine lv_iload_n S.1 S.2.1 dX12_takeIt_8 rfl (lv_at hl 1 rfl) ?_
  refine lv_bipush (v := 97) S.1 S.2.1 dX12_takeIt_9 (by decide) ?_
  refine lv_isub S.1 S.2.1 dX12_takeIt_11 ?_
  refine utop (pk_sub (a := c0) (b := 97) (by omega)) ?_
  refine ua_ist S hK Z (f 17) (by decide) rfl rfl (by omega) dX12_takeIt_12 (fun H locs Z => ?_)
  have Z := uZ_eq ((uAr_c (uAr (uAr (uAr (uAr M 71 f) 81 A) 82 W) 83 T) 84 Q (a := 83) (f 17) (nI (c0 - 97)) (by decide)).trans (congrArg (fun X => uAr X 84 Q) (uAr_s (uAr (uAr (uAr M 71 f) 81 A) 82 W) 83 T (f 17) (c0 - 97)))) Z
  refine lv_iload_n S.1 S.2.1 dX12_takeIt_13 rfl (lv_at hl 1 rfl) ?_
  refine uc_Si (As := [.int (nI c0)]) (rest := []) S hK hA Z (c_X12_isPiece l G (nI c0) (uAr (uAr (uAr (uAr (uAr M 71 f) 81 A) 82 W) 83 (fu T (f 17) (c0 - 97))) 84 Q)) (va_cwS 1 S.2.2.2.2 gX12_takeIt_X12_isPiece rfl rfl rfl (by decide +kernel) ⟨Nat.le_of_ble_eq_true rfl, Nat.le_of_ble_eq_true rfl⟩) rfl hl.1 rfl (Nat.le_of_ble_eq_true rfl) dX12_takeIt_14 ⟨Nat.zero_le _, Nat.zero_le _⟩ (fun r_1 M_1 H locs hp Z => ?_)
  obtain ⟨⟨rfl, w_1⟩ | ⟨rfl, w_1⟩, hM_1⟩ := hp
  · skip
    rw [hM_1] at Z
    refine lv_if_eq (tgt := 28) S.1 S.2.1 dX12_takeIt_17 (by decide) (fun c => absurd c (by decide)) (fun _ => ?_)
    refine lv_aload_n S.1 S.2.1 dX12_takeIt_20 rfl (lv_at hl 0 rfl) ?_
    refine lv_iconst (v := 0) S.1 S.2.1 dX12_takeIt_21 (by decide) ?_
    refine ud_Vi (As := [.int 0]) (rest := []) S hK hA Z (c_X12_close l G 0 M f A W (fu T (f 17) (c0 - 97)) Q he) (cwV 1 S.2.2.2.2 gX12_takeIt_X12_close rfl rfl rfl (by decide +kernel) ⟨Nat.le_of_ble_eq_true rfl, Nat.le_of_ble_eq_true rfl⟩) (by decide) rfl rfl rfl hl.1 rfl (Nat.le_of_ble_eq_true rfl) dX12_takeIt_22 ⟨Nat.zero_le _, Nat.zero_le _⟩ (fun H locs Z => ?_)
    refine lv_goto (tgt := 30) S.1 S.2.1 dX12_takeIt_25 (by decide) ?_
    refine uret_i S hK Z hre hlk dX12_takeIt_30 ?_
    exact ⟨rfl, rfl⟩
  · skip
    rw [hM_1] at Z
    refine lv_if_eq (tgt := 28) S.1 S.2.1 dX12_takeIt_17 (by decide) (fun _ => ?_) (fun c => absurd c (by decide))
    exact absurd (u_inn' hc (by decide)) (by assumption)
set_option maxHeartbeats 4000000 in
set_option maxRecDepth 100000 in
theorem c_X12_takeItN (l : Launch) (G : uG) (c0 : Nat) (hc0 : c0 < 127) (hc : ¬ (97 ≤ c0 ∧ c0 ≤ 108)) (M : uM) (f A W T Q : Nat → Nat) (he : f 17 < 60) : CTi l G yX12_takeIt wsX12_takeIt 2 45 [.ref (G.2.2 71), .int (nI c0)] (uAr (uAr (uAr (uAr (uAr M 71 f) 81 A) 82 W) 83 T) 84 Q) (fun r M2 => r = -6 ∧ ∃ T2, M2 = (uAr (uAr (uAr (uAr (uAr M 71 f) 81 A) 82 W) 83 T2) 84 Q)) := by
  refine ustart_i (cc := cX12_takeIt) (maxL := 2) (ret := (some .int)) (own := RX12) rfl (by decide) rfl (Nat.le_of_ble_eq_true rfl) ?_
  intro xp xe xs xm xa xb xt xc xA ls S hK hA Z hre hlk hl
  have hl : lv_has ls 2 [(0, .ref (G.2.2 71)), (1, .int (nI c0))] := hl
  refine lv_aload_n S.1 S.2.1 dX12_takeIt_0 rfl (lv_at hl 0 rfl) ?_
  refine ug_r S hK Z (j := 15) 83 (by decide) rfl rfl rfl (by decide) iX12_takeIt_X12 qX12_takeIt_43 dX12_takeIt_1 ?_
  refine lv_aload_n S.1 S.2.1 dX12_takeIt_4 rfl (lv_at hl 0 rfl) ?_
  refine ug_i S hK Z (j := 17) (by decide) rfl rfl rfl (by decide) iX12_takeIt_X12 qX12_takeIt_124 dX12_takeIt_5 ?_
  refine utop (y := (nI (f 17))) ((uAr_o (uAr (uAr (uAr (uAr M 71 f) 81 A) 82 W) 83 T) 84 Q 17 (a := 71) (by decide)).trans ((uAr_o (uAr (uAr (uAr M 71 f) 81 A) 82 W) 83 T 17 (a := 71) (by decide)).trans ((uAr_o (uAr (uAr M 71 f) 81 A) 82 W 17 (a := 71) (by decide)).trans ((uAr_o (uAr M 71 f) 81 A 17 (a := 71) (by decide)).trans (uAr_g M 71 f 17))))) ?_
  refine lv_iload_n S.1 S.2.1 dX12_takeIt_8 rfl (lv_at hl 1 rfl) ?_
  refine lv_bipush (v := 97) S.1 S.2.1 dX12_takeIt_9 (by decide) ?_
  refine lv_isub S.1 S.2.1 dX12_takeIt_11 ?_
  obtain ⟨tq, htq⟩ := nI_ex (((nI c0) - 97))
  refine utop htq ?_
  refine ua_ist S hK Z (f 17) (by decide) rfl rfl (by omega) dX12_takeIt_12 (fun H locs Z => ?_)
  have Z := uZ_eq ((uAr_c (uAr (uAr (uAr (uAr M 71 f) 81 A) 82 W) 83 T) 84 Q (a := 83) (f 17) (nI tq) (by decide)).trans (congrArg (fun X => uAr X 84 Q) (uAr_s (uAr (uAr (uAr M 71 f) 81 A) 82 W) 83 T (f 17) tq))) Z
  refine lv_iload_n S.1 S.2.1 dX12_takeIt_13 rfl (lv_at hl 1 rfl) ?_
  refine uc_Si (As := [.int (nI c0)]) (rest := []) S hK hA Z (c_X12_isPiece l G (nI c0) (uAr (uAr (uAr (uAr (uAr M 71 f) 81 A) 82 W) 83 (fu T (f 17) tq)) 84 Q)) (va_cwS 1 S.2.2.2.2 gX12_takeIt_X12_isPiece rfl rfl rfl (by decide +kernel) ⟨Nat.le_of_ble_eq_true rfl, Nat.le_of_ble_eq_true rfl⟩) rfl hl.1 rfl (Nat.le_of_ble_eq_true rfl) dX12_takeIt_14 ⟨Nat.zero_le _, Nat.zero_le _⟩ (fun r_1 M_1 H locs hp Z => ?_)
  obtain ⟨⟨rfl, w_1⟩ | ⟨rfl, w_1⟩, hM_1⟩ := hp
  · skip
    rw [hM_1] at Z
    refine lv_if_eq (tgt := 28) S.1 S.2.1 dX12_takeIt_17 (by decide) (fun c => absurd c (by decide)) (fun _ => ?_)
    exact absurd (u_inn (lo := 97) (hi := 108) (by assumption) (by omega) (by decide) (by decide)) hc
  · skip
    rw [hM_1] at Z
    refine lv_if_eq (tgt := 28) S.1 S.2.1 dX12_takeIt_17 (by decide) (fun _ => ?_) (fun c => absurd c (by decide))
    refine lv_bipush (v := (-6)) S.1 S.2.1 dX12_takeIt_28 (by decide) ?_
    refine uret_i S hK Z hre hlk dX12_takeIt_30 ?_
    exact ⟨rfl, _, rfl⟩
theorem c_X12_takeIt (l : Launch) (G : uG) (c0 : Nat) (hc0 : c0 < 127) (M : uM) (f A W T Q : Nat → Nat) (he : f 17 < 60) : CTi l G yX12_takeIt wsX12_takeIt 2 45 [.ref (G.2.2 71), .int (nI c0)] (uAr (uAr (uAr (uAr (uAr M 71 f) 81 A) 82 W) 83 T) 84 Q) (fun r M2 => (97 ≤ c0 ∧ c0 ≤ 108 ∧ r = 0 ∧ M2 = (uAr (uAr (uAr (uAr (uAr M 71 (fu f 17 (f 17 + 1))) 81 (fu A (f 17) 0)) 82 W) 83 (fu T (f 17) (c0 - 97))) 84 Q)) ∨ (¬ (97 ≤ c0 ∧ c0 ≤ 108) ∧ r = -6 ∧ ∃ T2, M2 = (uAr (uAr (uAr (uAr (uAr M 71 f) 81 A) 82 W) 83 T2) 84 Q))) := by
  by_cases hc : 97 ≤ c0 ∧ c0 ≤ 108
  · exact CTi_mono (c_X12_takeItY l G c0 hc M f A W T Q he) (fun r M2 h => Or.inl ⟨hc.1, hc.2, h⟩)
  · exact CTi_mono (c_X12_takeItN l G c0 hc0 hc M f A W T Q he) (fun r M2 h => Or.inr ⟨hc, h⟩)
set_option maxHeartbeats 4000000 in
set_option maxRecDepth 100000 in
theorem c_X12_deed (l : Launch) (G : uG) (c0 : Nat) (hc0 : c0 < 127) (M : uM) (f A W T Q : Nat → Nat) (he : f 17 < 60) : CTi l G yX12_deed wsX12_deed 3 66 [.ref (G.2.2 71), .int (nI c0)] (uAr (uAr (uAr (uAr (uAr M 71 f) 81 A) 82 W) 83 T) 84 Q) (fun r M2 => (c0 = 36 ∧ r = 2 ∧ M2 = (uAr (uAr (uAr (uAr (uAr M 71 f) 81 A) 82 W) 83 T) 84 Q)) ∨ (c0 = 42 ∧ r = 3 ∧ M2 = (uAr (uAr (uAr (uAr (uAr M 71 f) 81 A) 82 W) 83 T) 84 Q)) ∨ (c0 = 35 ∧ r = 0 ∧ M2 = (uAr (uAr (uAr (uAr (uAr M 71 (fu f 17 (f 17 + 1))) 81 (fu A (f 17) 3)) 82 W) 83 T) 84 Q)) ∨ (97 ≤ c0 ∧ c0 ≤ 108 ∧ r = 0 ∧ M2 = (uAr (uAr (uAr (uAr (uAr M 71 (fu f 17 (f 17 + 1))) 81 (fu A (f 17) 0)) 82 W) 83 (fu T (f 17) (c0 - 97))) 84 Q)) ∨ ((¬ c0 = 35 ∧ ¬ c0 = 36 ∧ ¬ c0 = 42 ∧ ¬ (97 ≤ c0 ∧ c0 ≤ 108)) ∧ r = -6 ∧ ∃ T2, M2 = (uAr (uAr (uAr (uAr (uAr M 71 f) 81 A) 82 W) 83 T2) 84 Q))) := by
  refine ustart_i (cc := cX12_deed) (maxL := 2) (ret := (some .int)) (own := RX12) rfl (by decide) rfl (Nat.le_of_ble_eq_true rfl) ?_
  intro xp xe xs xm xa xb xt xc xA ls S hK hA Z hre hlk hl
  have hl : lv_has ls 2 [(0, .ref (G.2.2 71)), (1, .int (nI c0))] := hl
  refine lv_iload_n S.1 S.2.1 dX12_deed_0 rfl (lv_at hl 1 rfl) ?_
  by_cases k_1 : (nI c0) = 35
  · skip
    refine utop k_1 ?_
    have k_1 : c0 = 35 := (nI_eq (a := c0) (b := 35) (by omega) (by omega)).mp k_1
    refine lv_lookup (tgt := 40) (off := 39) S.1 S.2.1 dX12_deed_1 (by decide) (by decide) (by decide) ?_
    refine lv_aload_n S.1 S.2.1 dX12_deed_40 rfl (lv_at hl 0 rfl) ?_
    refine lv_iconst (v := 3) S.1 S.2.1 dX12_deed_41 (by decide) ?_
    refine ud_Vi (As := [.int 3]) (rest := []) S hK hA Z (c_X12_close l G 3 M f A W T Q he) (cwV 1 S.2.2.2.2 gX12_deed_X12_close rfl rfl rfl (by decide +kernel) ⟨Nat.le_of_ble_eq_true rfl, Nat.le_of_ble_eq_true rfl⟩) (by decide) rfl rfl rfl hl.1 rfl (Nat.le_of_ble_eq_true rfl) dX12_deed_42 ⟨Nat.zero_le _, Nat.zero_le _⟩ (fun H locs Z => ?_)
    refine uret_i S hK Z hre hlk dX12_deed_45 ?_
    exact Or.inr (Or.inr (Or.inl ⟨by omega, rfl, rfl⟩))
  · skip
    have jk_1 : ¬ c0 = 35 := fun z9 => k_1 ((nI_eq (a := c0) (b := 35) (by omega) (by omega)).mpr z9)
    by_cases k_3 : (nI c0) = 36
    · skip
      refine utop k_3 ?_
      have k_3 : c0 = 36 := (nI_eq (a := c0) (b := 36) (by omega) (by omega)).mp k_3
      refine lv_lookup (tgt := 36) (off := 35) S.1 S.2.1 dX12_deed_1 (by decide) (by decide) (by decide) ?_
      refine lv_iconst (v := 2) S.1 S.2.1 dX12_deed_36 (by decide) ?_
      refine uret_i S hK Z hre hlk dX12_deed_37 ?_
      exact Or.inl ⟨by omega, rfl, rfl⟩
    · skip
      have jk_3 : ¬ c0 = 36 := fun z9 => k_3 ((nI_eq (a := c0) (b := 36) (by omega) (by omega)).mpr z9)
      by_cases k_4 : (nI c0) = 42
      · skip
        refine utop k_4 ?_
        have k_4 : c0 = 42 := (nI_eq (a := c0) (b := 42) (by omega) (by omega)).mp k_4
        refine lv_lookup (tgt := 38) (off := 37) S.1 S.2.1 dX12_deed_1 (by decide) (by decide) (by decide) ?_
        refine lv_iconst (v := 3) S.1 S.2.1 dX12_deed_38 (by decide) ?_
        refine uret_i S hK Z hre hlk dX12_deed_39 ?_
        exact Or.inr (Or.inl ⟨by omega, rfl, rfl⟩)
      · skip
        have jk_4 : ¬ c0 = 42 := fun z9 => k_4 ((nI_eq (a := c0) (b := 42) (by omega) (by omega)).mpr z9)
        have tk_1 := lv_neT k_1 (show (35 : Int32).toInt = 35 from by decide)
        have tk_3 := lv_neT k_3 (show (36 : Int32).toInt = 36 from by decide)
        have tk_4 := lv_neT k_4 (show (42 : Int32).toInt = 42 from by decide)
        refine lv_lookup (tgt := 46) (off := 45) S.1 S.2.1 dX12_deed_1 (by decide) ((lv_osw k_1 (by decide)).trans ((lv_osw k_3 (by decide)).trans ((lv_osw k_4 (by decide)).trans rfl))) (by decide) ?_
        refine lv_aload_n S.1 S.2.1 dX12_deed_46 rfl (lv_at hl 0 rfl) ?_
        refine lv_iload_n S.1 S.2.1 dX12_deed_47 rfl (lv_at hl 1 rfl) ?_
        refine uc_Vi (As := [.int (nI c0)]) (rest := []) S hK hA Z (c_X12_takeIt l G c0 hc0 M f A W T Q he) (cwV 1 S.2.2.2.2 gX12_deed_X12_takeIt rfl rfl rfl (by decide +kernel) ⟨Nat.le_of_ble_eq_true rfl, Nat.le_of_ble_eq_true rfl⟩) (by decide) rfl rfl rfl hl.1 rfl (Nat.le_of_ble_eq_true rfl) dX12_deed_48 ⟨Nat.zero_le _, Nat.zero_le _⟩ (fun r_5 M_5 H locs hp Z => ?_)
        have htk := hp
        refine uret_i S hK Z hre hlk dX12_deed_51 ?_
        rcases htk with ⟨h1, h2, h3⟩ | ⟨h1, h3⟩
        · exact Or.inr (Or.inr (Or.inr (Or.inl ⟨h1, h2, h3⟩)))
        · exact Or.inr (Or.inr (Or.inr (Or.inr ⟨⟨by omega, by omega, by omega, h1⟩, h3⟩)))
set_option maxHeartbeats 4000000 in
set_option maxRecDepth 100000 in
theorem c_X12_pieceY (l : Launch) (G : uG) (d c0 : Nat) (hd : d < 10) (hc : 97 ≤ c0 ∧ c0 ≤ 108) (M : uM) (f A W T Q : Nat → Nat) (he : f 17 < 60) : CTi l G yX12_piece wsX12_piece 2 45 [.ref (G.2.2 71), .int (nI d), .int (nI c0)] (uAr (uAr (uAr (uAr (uAr M 71 f) 81 A) 82 W) 83 T) 84 Q) (fun r M2 => r = nI (d + 2) ∧ M2 = (uAr (uAr (uAr (uAr (uAr M 71 f) 81 A) 82 W) 83 (fu T (f 17) (c0 - 97))) 84 Q)) := by
  refine ustart_i (cc := cX12_piece) (maxL := 3) (ret := (some .int)) (own := RX12) rfl (by decide) rfl (Nat.le_of_ble_eq_true rfl) ?_
  intro xp xe xs xm xa xb xt xc xA ls S hK hA Z hre hlk hl
  have hl : lv_has ls 3 [(0, .ref (G.2.2 71)), (1, .int (nI d)), (2, .int (nI c0))] := hl
  refine lv_aload_n S.1 S.2.1 dX12_piece_0 rfl (lv_at hl 0 rfl) ?_
  refine ug_r S hK Z (j := 15) 83 (by decide) rfl rfl rfl (by decide) iX12_piece_X12 qX12_piece_43 dX12_piece_1 ?_
  refine lv_aload_n S.1 S.2.1 dX12_piece_4 rfl (lv_at hl 0 rfl) ?_
  refine ug_i S hK Z (j := 17) (by decide) rfl rfl rfl (by decide) iX12_piece_X12 qX12_piece_124 dX12_piece_5 ?_
  refine utop (y := (nI (f 17))) ((uAr_o (uAr (uAr (uAr (uAr M 71 f) 81 A) 82 W) 83 T) 84 Q 17 (a := 71) (by decide)).trans ((uAr_o (uAr (uAr (uAr M 71 f) 81 A) 82 W) 83 T 17 (a := 71) (by decide)).trans ((uAr_o (uAr (uAr M 71 f) 81 A) 82 W 17 (a := 71) (by decide)).trans ((uAr_o (uAr M 71 f) 81 A 17 (a := 71) (by decide)).trans (uAr_g M 71 f 17))))) ?_
  refine lv_iload_n S.1 S.2.1 dX12_piece_8 rfl (lv_at hl 2 rfl) ?_
  refine lv_bipush (v := 97) S.1 S.2.1 dX12_piece_9 (by decide) ?_
  refine lv_isub S.1 S.2.1 dX12_piece_11 ?_
  refine utop (pk_sub (a := c0) (b := 97) (by omega)) ?_
  refine ua_ist S hK Z (f 17) (by decide) rfl rfl (by omega) dX12_piece_12 (fun H locs Z => ?_)
  have Z := uZ_eq ((uAr_c (uAr (uAr (uAr (uAr M 71 f) 81 A) 82 W) 83 T) 84 Q (a := 83) (f 17) (nI (c0 - 97)) (by decide)).trans (congrArg (fun X => uAr X 84 Q) (uAr_s (uAr (uAr (uAr M 71 f) 81 A) 82 W) 83 T (f 17) (c0 - 97)))) Z
  refine lv_iload_n S.1 S.2.1 dX12_piece_13 rfl (lv_at hl 2 rfl) ?_
  refine uc_Si (As := [.int (nI c0)]) (rest := []) S hK hA Z (c_X12_isPiece l G (nI c0) (uAr (uAr (uAr (uAr (uAr M 71 f) 81 A) 82 W) 83 (fu T (f 17) (c0 - 97))) 84 Q)) (va_cwS 1 S.2.2.2.2 gX12_piece_X12_isPiece rfl rfl rfl (by decide +kernel) ⟨Nat.le_of_ble_eq_true rfl, Nat.le_of_ble_eq_true rfl⟩) rfl hl.1 rfl (Nat.le_of_ble_eq_true rfl) dX12_piece_14 ⟨Nat.zero_le _, Nat.zero_le _⟩ (fun r_1 M_1 H locs hp Z => ?_)
  obtain ⟨⟨rfl, w_1⟩ | ⟨rfl, w_1⟩, hM_1⟩ := hp
  · skip
    rw [hM_1] at Z
    refine lv_if_eq (tgt := 26) S.1 S.2.1 dX12_piece_17 (by decide) (fun c => absurd c (by decide)) (fun _ => ?_)
    refine lv_iload_n S.1 S.2.1 dX12_piece_20 rfl (lv_at hl 1 rfl) ?_
    refine lv_iconst (v := 2) S.1 S.2.1 dX12_piece_21 (by decide) ?_
    refine lv_iadd S.1 S.2.1 dX12_piece_22 ?_
    refine utop (nI_add d 2) ?_
    refine lv_goto (tgt := 28) S.1 S.2.1 dX12_piece_23 (by decide) ?_
    refine uret_i S hK Z hre hlk dX12_piece_28 ?_
    exact ⟨rfl, rfl⟩
  · skip
    rw [hM_1] at Z
    refine lv_if_eq (tgt := 26) S.1 S.2.1 dX12_piece_17 (by decide) (fun _ => ?_) (fun c => absurd c (by decide))
    exact absurd (u_inn' hc (by decide)) (by assumption)
set_option maxHeartbeats 4000000 in
set_option maxRecDepth 100000 in
theorem c_X12_pieceN (l : Launch) (G : uG) (d c0 : Nat) (hd : d < 10) (hc0 : c0 < 127) (hc : ¬ (97 ≤ c0 ∧ c0 ≤ 108)) (M : uM) (f A W T Q : Nat → Nat) (he : f 17 < 60) : CTi l G yX12_piece wsX12_piece 2 45 [.ref (G.2.2 71), .int (nI d), .int (nI c0)] (uAr (uAr (uAr (uAr (uAr M 71 f) 81 A) 82 W) 83 T) 84 Q) (fun r M2 => r = -6 ∧ ∃ T2, M2 = (uAr (uAr (uAr (uAr (uAr M 71 f) 81 A) 82 W) 83 T2) 84 Q)) := by
  refine ustart_i (cc := cX12_piece) (maxL := 3) (ret := (some .int)) (own := RX12) rfl (by decide) rfl (Nat.le_of_ble_eq_true rfl) ?_
  intro xp xe xs xm xa xb xt xc xA ls S hK hA Z hre hlk hl
  have hl : lv_has ls 3 [(0, .ref (G.2.2 71)), (1, .int (nI d)), (2, .int (nI c0))] := hl
  refine lv_aload_n S.1 S.2.1 dX12_piece_0 rfl (lv_at hl 0 rfl) ?_
  refine ug_r S hK Z (j := 15) 83 (by decide) rfl rfl rfl (by decide) iX12_piece_X12 qX12_piece_43 dX12_piece_1 ?_
  refine lv_aload_n S.1 S.2.1 dX12_piece_4 rfl (lv_at hl 0 rfl) ?_
  refine ug_i S hK Z (j := 17) (by decide) rfl rfl rfl (by decide) iX12_piece_X12 qX12_piece_124 dX12_piece_5 ?_
  refine utop (y := (nI (f 17))) ((uAr_o (uAr (uAr (uAr (uAr M 71 f) 81 A) 82 W) 83 T) 84 Q 17 (a := 71) (by decide)).trans ((uAr_o (uAr (uAr (uAr M 71 f) 81 A) 82 W) 83 T 17 (a := 71) (by decide)).trans ((uAr_o (uAr (uAr M 71 f) 81 A) 82 W 17 (a := 71) (by decide)).trans ((uAr_o (uAr M 71 f) 81 A 17 (a := 71) (by decide)).trans (uAr_g M 71 f 17))))) ?_
  refine lv_iload_n S.1 S.2.1 dX12_piece_8 rfl (lv_at hl 2 rfl) ?_
  refine lv_bipush (v := 97) S.1 S.2.1 dX12_piece_9 (by decide) ?_
  refine lv_isub S.1 S.2.1 dX12_piece_11 ?_
  obtain ⟨tq, htq⟩ := nI_ex (((nI c0) - 97))
  refine utop htq ?_
  refine ua_ist S hK Z (f 17) (by decide) rfl rfl (by omega) dX12_piece_12 (fun H locs Z => ?_)
  have Z := uZ_eq ((uAr_c (uAr (uAr (uAr (uAr M 71 f) 81 A) 82 W) 83 T) 84 Q (a := 83) (f 17) (nI tq) (by decide)).trans (congrArg (fun X => uAr X 84 Q) (uAr_s (uAr (uAr (uAr M 71 f) 81 A) 82 W) 83 T (f 17) tq))) Z
  refine lv_iload_n S.1 S.2.1 dX12_piece_13 rfl (lv_at hl 2 rfl) ?_
  refine uc_Si (As := [.int (nI c0)]) (rest := []) S hK hA Z (c_X12_isPiece l G (nI c0) (uAr (uAr (uAr (uAr (uAr M 71 f) 81 A) 82 W) 83 (fu T (f 17) tq)) 84 Q)) (va_cwS 1 S.2.2.2.2 gX12_piece_X12_isPiece rfl rfl rfl (by decide +kernel) ⟨Nat.le_of_ble_eq_true rfl, Nat.le_of_ble_eq_true rfl⟩) rfl hl.1 rfl (Nat.le_of_ble_eq_true rfl) dX12_piece_14 ⟨Nat.zero_le _, Nat.zero_le _⟩ (fun r_1 M_1 H locs hp Z => ?_)
  obtain ⟨⟨rfl, w_1⟩ | ⟨rfl, w_1⟩, hM_1⟩ := hp
  · skip
    rw [hM_1] at Z
    refine lv_if_eq (tgt := 26) S.1 S.2.1 dX12_piece_17 (by decide) (fun c => absurd c (by decide)) (fun _ => ?_)
    exact absurd (u_inn (lo := 97) (hi := 108) (by assumption) (by omega) (by decide) (by decide)) hc
  · skip
    rw [hM_1] at Z
    refine lv_if_eq (tgt := 26) S.1 S.2.1 dX12_piece_17 (by decide) (fun _ => ?_) (fun c => absurd c (by decide))
    refine lv_bipush (v := (-6)) S.1 S.2.1 dX12_piece_26 (by decide) ?_
    refine uret_i S hK Z hre hlk dX12_piece_28 ?_
    exact ⟨rfl, _, rfl⟩
set_option maxHeartbeats 4000000 in
set_option maxRecDepth 100000 in
theorem c_X12_toWhomY (l : Launch) (G : uG) (d c0 : Nat) (hd : d < 10) (hc : 65 ≤ c0 ∧ c0 ≤ 72) (M : uM) (f A W T Q : Nat → Nat) (he : f 17 < 60) : CTi l G yX12_toWhom wsX12_toWhom 2 45 [.ref (G.2.2 71), .int (nI d), .int (nI c0)] (uAr (uAr (uAr (uAr (uAr M 71 f) 81 A) 82 W) 83 T) 84 Q) (fun r M2 => r = 0 ∧ M2 = (uAr (uAr (uAr (uAr (uAr M 71 (fu f 17 (f 17 + 1))) 81 (fu A (f 17) (if d = 4 then 1 else 2))) 82 W) 83 T) 84 (fu Q (f 17) (c0 - 65)))) := by
  refine ustart_i (cc := cX12_toWhom) (maxL := 3) (ret := (some .int)) (own := RX12) rfl (by decide) rfl (Nat.le_of_ble_eq_true rfl) ?_
  intro xp xe xs xm xa xb xt xc xA ls S hK hA Z hre hlk hl
  have hl : lv_has ls 3 [(0, .ref (G.2.2 71)), (1, .int (nI d)), (2, .int (nI c0))] := hl
  refine lv_aload_n S.1 S.2.1 dX12_toWhom_0 rfl (lv_at hl 0 rfl) ?_
  refine ug_r S hK Z (j := 16) 84 (by decide) rfl rfl rfl (by decide) iX12_toWhom_X12 qX12_toWhom_46 dX12_toWhom_1 ?_
  refine lv_aload_n S.1 S.2.1 dX12_toWhom_4 rfl (lv_at hl 0 rfl) ?_
  refine ug_i S hK Z (j := 17) (by decide) rfl rfl rfl (by decide) iX12_toWhom_X12 qX12_toWhom_124 dX12_toWhom_5 ?_
  refine utop (y := (nI (f 17))) ((uAr_o (uAr (uAr (uAr (uAr M 71 f) 81 A) 82 W) 83 T) 84 Q 17 (a := 71) (by decide)).trans ((uAr_o (uAr (uAr (uAr M 71 f) 81 A) 82 W) 83 T 17 (a := 71) (by decide)).trans ((uAr_o (uAr (uAr M 71 f) 81 A) 82 W 17 (a := 71) (by decide)).trans ((uAr_o (uAr M 71 f) 81 A 17 (a := 71) (by decide)).trans (uAr_g M 71 f 17))))) ?_
  refine lv_iload_n S.1 S.2.1 dX12_toWhom_8 rfl (lv_at hl 2 rfl) ?_
  refine lv_bipush (v := 65) S.1 S.2.1 dX12_toWhom_9 (by decide) ?_
  refine lv_isub S.1 S.2.1 dX12_toWhom_11 ?_
  refine utop (pk_sub (a := c0) (b := 65) (by omega)) ?_
  refine ua_ist S hK Z (f 17) (by decide) rfl rfl (by omega) dX12_toWhom_12 (fun H locs Z => ?_)
  have Z := uZ_eq (uAr_s (uAr (uAr (uAr (uAr M 71 f) 81 A) 82 W) 83 T) 84 Q (f 17) (c0 - 65)) Z
  refine lv_iload_n S.1 S.2.1 dX12_toWhom_13 rfl (lv_at hl 2 rfl) ?_
  refine uc_Si (As := [.int (nI c0)]) (rest := []) S hK hA Z (c_X12_isName l G (nI c0) (uAr (uAr (uAr (uAr (uAr M 71 f) 81 A) 82 W) 83 T) 84 (fu Q (f 17) (c0 - 65)))) (va_cwS 1 S.2.2.2.2 gX12_toWhom_X12_isName rfl rfl rfl (by decide +kernel) ⟨Nat.le_of_ble_eq_true rfl, Nat.le_of_ble_eq_true rfl⟩) rfl hl.1 rfl (Nat.le_of_ble_eq_true rfl) dX12_toWhom_14 ⟨Nat.zero_le _, Nat.zero_le _⟩ (fun r_1 M_1 H locs hp Z => ?_)
  obtain ⟨⟨rfl, w_1⟩ | ⟨rfl, w_1⟩, hM_1⟩ := hp
  · skip
    rw [hM_1] at Z
    refine lv_if_eq (tgt := 37) S.1 S.2.1 dX12_toWhom_17 (by decide) (fun c => absurd c (by decide)) (fun _ => ?_)
    refine lv_aload_n S.1 S.2.1 dX12_toWhom_20 rfl (lv_at hl 0 rfl) ?_
    refine lv_iload_n S.1 S.2.1 dX12_toWhom_21 rfl (lv_at hl 1 rfl) ?_
    refine lv_iconst (v := 4) S.1 S.2.1 dX12_toWhom_22 (by decide) ?_
    refine lv_icmp_ne (tgt := 30) S.1 S.2.1 dX12_toWhom_23 (by decide) (fun c_3 => ?_) (fun c_3 => ?_)
    · skip
      have c_3 : ¬ d = 4 := fun z9 => c_3 ((nI_eq (a := d) (b := 4) (by omega) (by omega)).mpr z9)
      refine lv_iconst (v := 2) S.1 S.2.1 dX12_toWhom_30 (by decide) ?_
      refine ud_Vi (As := [.int 2]) (rest := []) S hK hA Z (c_X12_close l G 2 M f A W T (fu Q (f 17) (c0 - 65)) he) (cwV 1 S.2.2.2.2 gX12_toWhom_X12_close rfl rfl rfl (by decide +kernel) ⟨Nat.le_of_ble_eq_true rfl, Nat.le_of_ble_eq_true rfl⟩) (by decide) rfl rfl rfl hl.1 rfl (Nat.le_of_ble_eq_true rfl) dX12_toWhom_31 ⟨Nat.zero_le _, Nat.zero_le _⟩ (fun H locs Z => ?_)
      refine lv_goto (tgt := 39) S.1 S.2.1 dX12_toWhom_34 (by decide) ?_
      refine uret_i S hK Z hre hlk dX12_toWhom_39 ?_
      refine ⟨rfl, ?_⟩
      rw [if_neg (by omega)]
    · skip
      have c_3 : d = 4 := (nI_eq (a := d) (b := 4) (by omega) (by omega)).mp c_3
      refine lv_iconst (v := 1) S.1 S.2.1 dX12_toWhom_26 (by decide) ?_
      refine lv_goto (tgt := 31) S.1 S.2.1 dX12_toWhom_27 (by decide) ?_
      refine ud_Vi (As := [.int 1]) (rest := []) S hK hA Z (c_X12_close l G 1 M f A W T (fu Q (f 17) (c0 - 65)) he) (cwV 1 S.2.2.2.2 gX12_toWhom_X12_close rfl rfl rfl (by decide +kernel) ⟨Nat.le_of_ble_eq_true rfl, Nat.le_of_ble_eq_true rfl⟩) (by decide) rfl rfl rfl hl.1 rfl (Nat.le_of_ble_eq_true rfl) dX12_toWhom_31 ⟨Nat.zero_le _, Nat.zero_le _⟩ (fun H locs Z => ?_)
      refine lv_goto (tgt := 39) S.1 S.2.1 dX12_toWhom_34 (by decide) ?_
      refine uret_i S hK Z hre hlk dX12_toWhom_39 ?_
      refine ⟨rfl, ?_⟩
      rw [if_pos (by omega)]
  · skip
    rw [hM_1] at Z
    refine lv_if_eq (tgt := 37) S.1 S.2.1 dX12_toWhom_17 (by decide) (fun _ => ?_) (fun c => absurd c (by decide))
    exact absurd (u_inn' hc (by decide)) (by assumption)
set_option maxHeartbeats 4000000 in
set_option maxRecDepth 100000 in
theorem c_X12_toWhomN (l : Launch) (G : uG) (d c0 : Nat) (hd : d < 10) (hc0 : c0 < 127) (hc : ¬ (65 ≤ c0 ∧ c0 ≤ 72)) (M : uM) (f A W T Q : Nat → Nat) (he : f 17 < 60) : CTi l G yX12_toWhom wsX12_toWhom 2 45 [.ref (G.2.2 71), .int (nI d), .int (nI c0)] (uAr (uAr (uAr (uAr (uAr M 71 f) 81 A) 82 W) 83 T) 84 Q) (fun r M2 => r = -6 ∧ ∃ Q2, M2 = (uAr (uAr (uAr (uAr (uAr M 71 f) 81 A) 82 W) 83 T) 84 Q2)) := by
  refine ustart_i (cc := cX12_toWhom) (maxL := 3) (ret := (some .int)) (own := RX12) rfl (by decide) rfl (Nat.le_of_ble_eq_true rfl) ?_
  intro xp xe xs xm xa xb xt xc xA ls S hK hA Z hre hlk hl
  have hl : lv_has ls 3 [(0, .ref (G.2.2 71)), (1, .int (nI d)), (2, .int (nI c0))] := hl
  refine lv_aload_n S.1 S.2.1 dX12_toWhom_0 rfl (lv_at hl 0 rfl) ?_
  refine ug_r S hK Z (j := 16) 84 (by decide) rfl rfl rfl (by decide) iX12_toWhom_X12 qX12_toWhom_46 dX12_toWhom_1 ?_
  refine lv_aload_n S.1 S.2.1 dX12_toWhom_4 rfl (lv_at hl 0 rfl) ?_
  refine ug_i S hK Z (j := 17) (by decide) rfl rfl rfl (by decide) iX12_toWhom_X12 qX12_toWhom_124 dX12_toWhom_5 ?_
  refine utop (y := (nI (f 17))) ((uAr_o (uAr (uAr (uAr (uAr M 71 f) 81 A) 82 W) 83 T) 84 Q 17 (a := 71) (by decide)).trans ((uAr_o (uAr (uAr (uAr M 71 f) 81 A) 82 W) 83 T 17 (a := 71) (by decide)).trans ((uAr_o (uAr (uAr M 71 f) 81 A) 82 W 17 (a := 71) (by decide)).trans ((uAr_o (uAr M 71 f) 81 A 17 (a := 71) (by decide)).trans (uAr_g M 71 f 17))))) ?_
  refine lv_iload_n S.1 S.2.1 dX12_toWhom_8 rfl (lv_at hl 2 rfl) ?_
  refine lv_bipush (v := 65) S.1 S.2.1 dX12_toWhom_9 (by decide) ?_
  refine lv_isub S.1 S.2.1 dX12_toWhom_11 ?_
  obtain ⟨tq, htq⟩ := nI_ex (((nI c0) - 65))
  refine utop htq ?_
  refine ua_ist S hK Z (f 17) (by decide) rfl rfl (by omega) dX12_toWhom_12 (fun H locs Z => ?_)
  have Z := uZ_eq (uAr_s (uAr (uAr (uAr (uAr M 71 f) 81 A) 82 W) 83 T) 84 Q (f 17) tq) Z
  refine lv_iload_n S.1 S.2.1 dX12_toWhom_13 rfl (lv_at hl 2 rfl) ?_
  refine uc_Si (As := [.int (nI c0)]) (rest := []) S hK hA Z (c_X12_isName l G (nI c0) (uAr (uAr (uAr (uAr (uAr M 71 f) 81 A) 82 W) 83 T) 84 (fu Q (f 17) tq))) (va_cwS 1 S.2.2.2.2 gX12_toWhom_X12_isName rfl rfl rfl (by decide +kernel) ⟨Nat.le_of_ble_eq_true rfl, Nat.le_of_ble_eq_true rfl⟩) rfl hl.1 rfl (Nat.le_of_ble_eq_true rfl) dX12_toWhom_14 ⟨Nat.zero_le _, Nat.zero_le _⟩ (fun r_1 M_1 H locs hp Z => ?_)
  obtain ⟨⟨rfl, w_1⟩ | ⟨rfl, w_1⟩, hM_1⟩ := hp
  · skip
    rw [hM_1] at Z
    refine lv_if_eq (tgt := 37) S.1 S.2.1 dX12_toWhom_17 (by decide) (fun c => absurd c (by decide)) (fun _ => ?_)
    exact absurd (u_inn (lo := 65) (hi := 72) (by assumption) (by omega) (by decide) (by decide)) hc
  · skip
    rw [hM_1] at Z
    refine lv_if_eq (tgt := 37) S.1 S.2.1 dX12_toWhom_17 (by decide) (fun _ => ?_) (fun c => absurd c (by decide))
    refine lv_bipush (v := (-6)) S.1 S.2.1 dX12_toWhom_37 (by decide) ?_
    refine uret_i S hK Z hre hlk dX12_toWhom_39 ?_
    exact ⟨rfl, _, rfl⟩
set_option maxHeartbeats 4000000 in
set_option maxRecDepth 100000 in
theorem c_X12_rd0 (l : Launch) (G : uG) (c0 : Nat) (M : uM) (f A W T Q : Nat → Nat) {P : Int32 → uM → Prop} (hcall : CTi l G yX12_begin wsX12_begin 2 45 [.ref (G.2.2 71), .int (nI c0)] (uAr (uAr (uAr (uAr (uAr M 71 f) 81 A) 82 W) 83 T) 84 Q) P) : CTi l G yX12_readOn wsX12_readOn 4 87 [.ref (G.2.2 71), .int (nI 0), .int (nI c0)] (uAr (uAr (uAr (uAr (uAr M 71 f) 81 A) 82 W) 83 T) 84 Q) (fun r M2 => P r M2) := by
  refine ustart_i (cc := cX12_readOn) (maxL := 3) (ret := (some .int)) (own := RX12) rfl (by decide) rfl (Nat.le_of_ble_eq_true rfl) ?_
  intro xp xe xs xm xa xb xt xc xA ls S hK hA Z hre hlk hl
  have hl : lv_has ls 3 [(0, .ref (G.2.2 71)), (1, .int (nI 0)), (2, .int (nI c0))] := hl
  refine lv_iload_n S.1 S.2.1 dX12_readOn_0 rfl (lv_at hl 1 rfl) ?_
  refine lv_tableIn (tgt := 32) S.1 S.2.1 dX12_readOn_1 (by decide) (by decide) rfl (by decide) ?_
  refine lv_aload_n S.1 S.2.1 dX12_readOn_32 rfl (lv_at hl 0 rfl) ?_
  refine lv_iload_n S.1 S.2.1 dX12_readOn_33 rfl (lv_at hl 2 rfl) ?_
  refine uc_Vi (As := [.int (nI c0)]) (rest := []) S hK hA Z (hcall) (cwV 1 S.2.2.2.2 gX12_readOn_X12_begin rfl rfl rfl (by decide +kernel) ⟨Nat.le_of_ble_eq_true rfl, Nat.le_of_ble_eq_true rfl⟩) (by decide) rfl rfl rfl hl.1 rfl (Nat.le_of_ble_eq_true rfl) dX12_readOn_34 ⟨Nat.zero_le _, Nat.zero_le _⟩ (fun r_1 M_1 H locs hp Z => ?_)
  have hq := hp
  refine uret_i S hK Z hre hlk dX12_readOn_37 ?_
  exact hq
theorem c_X12_readOn0 (l : Launch) (G : uG) (s : Nat → Nat) (i : Nat) (hs : s i < 127) (M : uM) (f A W T Q : Nat → Nat) (he : f 17 < 60) (hst : pSt s i 0 (f 17) A W T Q) : CTi l G yX12_readOn wsX12_readOn 4 87 [.ref (G.2.2 71), .int (nI 0), .int (nI (s i))] (pM M f A W T Q) (rdOn M s i 0 f) := by
  by_cases hc : 65 ≤ s i ∧ s i ≤ 72
  · refine CTi_mono (c_X12_rd0 l G (s i) M f A W T Q (c_X12_beginY l G (s i) hc M f A W T Q he)) (fun r M2 h => Or.inr ⟨1, f 17, A, _, _, _, h.1, ?_, st_name hst hc⟩)
    rw [fu_id]
    exact h.2
  · refine CTi_mono (c_X12_rd0 l G (s i) M f A W T Q (c_X12_beginN l G (s i) hs hc M f A W T Q he)) (fun r M2 h => ?_)
    rcases h with ⟨h1, h2, h3⟩ | ⟨h1, h2, h3⟩
    · exact Or.inr ⟨0, f 17 + 1, _, _, _, _, h2, h3, st_dot hst h1⟩
    · exact Or.inl ⟨st_bad0 hc h1, h2, _, _, _, _, h3⟩
set_option maxHeartbeats 4000000 in
set_option maxRecDepth 100000 in
theorem c_X12_rd1 (l : Launch) (G : uG) (c0 : Nat) (M : uM) (f A W T Q : Nat → Nat) {P : Int32 → uM → Prop} (hcall : CTi l G yX12_deed wsX12_deed 3 66 [.ref (G.2.2 71), .int (nI c0)] (uAr (uAr (uAr (uAr (uAr M 71 f) 81 A) 82 W) 83 T) 84 Q) P) : CTi l G yX12_readOn wsX12_readOn 4 87 [.ref (G.2.2 71), .int (nI 1), .int (nI c0)] (uAr (uAr (uAr (uAr (uAr M 71 f) 81 A) 82 W) 83 T) 84 Q) (fun r M2 => P r M2) := by
  refine ustart_i (cc := cX12_readOn) (maxL := 3) (ret := (some .int)) (own := RX12) rfl (by decide) rfl (Nat.le_of_ble_eq_true rfl) ?_
  intro xp xe xs xm xa xb xt xc xA ls S hK hA Z hre hlk hl
  have hl : lv_has ls 3 [(0, .ref (G.2.2 71)), (1, .int (nI 1)), (2, .int (nI c0))] := hl
  refine lv_iload_n S.1 S.2.1 dX12_readOn_0 rfl (lv_at hl 1 rfl) ?_
  refine lv_tableIn (tgt := 38) S.1 S.2.1 dX12_readOn_1 (by decide) (by decide) rfl (by decide) ?_
  refine lv_aload_n S.1 S.2.1 dX12_readOn_38 rfl (lv_at hl 0 rfl) ?_
  refine lv_iload_n S.1 S.2.1 dX12_readOn_39 rfl (lv_at hl 2 rfl) ?_
  refine uc_Vi (As := [.int (nI c0)]) (rest := []) S hK hA Z (hcall) (cwV 1 S.2.2.2.2 gX12_readOn_X12_deed rfl rfl rfl (by decide +kernel) ⟨Nat.le_of_ble_eq_true rfl, Nat.le_of_ble_eq_true rfl⟩) (by decide) rfl rfl rfl hl.1 rfl (Nat.le_of_ble_eq_true rfl) dX12_readOn_40 ⟨Nat.zero_le _, Nat.zero_le _⟩ (fun r_1 M_1 H locs hp Z => ?_)
  have hq := hp
  refine uret_i S hK Z hre hlk dX12_readOn_43 ?_
  exact hq
theorem c_X12_readOn1 (l : Launch) (G : uG) (s : Nat → Nat) (i : Nat) (hs : s i < 127) (M : uM) (f A W T Q : Nat → Nat) (he : f 17 < 60) (hst : pSt s i 1 (f 17) A W T Q) : CTi l G yX12_readOn wsX12_readOn 4 87 [.ref (G.2.2 71), .int (nI 1), .int (nI (s i))] (pM M f A W T Q) (rdOn M s i 1 f) := by
  refine CTi_mono (c_X12_rd1 l G (s i) M f A W T Q (c_X12_deed l G (s i) hs M f A W T Q he)) (fun r M2 h => ?_)
  rcases h with ⟨h1, h2, h3⟩ | ⟨h1, h2, h3⟩ | ⟨h1, h2, h3⟩ | ⟨h1, h1', h2, h3⟩ | ⟨⟨h1, h2, h3, h4⟩, h5, T2, h6⟩
  · exact Or.inr ⟨2, f 17, A, _, _, _, h2, by rw [fu_id]; exact h3, st_sign hst (Or.inl ⟨h1, rfl⟩)⟩
  · exact Or.inr ⟨3, f 17, A, _, _, _, h2, by rw [fu_id]; exact h3, st_sign hst (Or.inr ⟨h1, rfl⟩)⟩
  · exact Or.inr ⟨0, f 17 + 1, _, _, _, _, h2, h3, st_door hst h1⟩
  · exact Or.inr ⟨0, f 17 + 1, _, _, _, _, h2, h3, st_take hst ⟨h1, h1'⟩⟩
  · exact Or.inl ⟨st_bad1 h1 h2 h3 h4, h5, _, _, _, _, h6⟩
set_option maxHeartbeats 4000000 in
set_option maxRecDepth 100000 in
theorem c_X12_rd2 (l : Launch) (G : uG) (c0 : Nat) (M : uM) (f A W T Q : Nat → Nat) {P : Int32 → uM → Prop} (hcall : CTi l G yX12_piece wsX12_piece 2 45 [.ref (G.2.2 71), .int (nI 2), .int (nI c0)] (uAr (uAr (uAr (uAr (uAr M 71 f) 81 A) 82 W) 83 T) 84 Q) P) : CTi l G yX12_readOn wsX12_readOn 4 87 [.ref (G.2.2 71), .int (nI 2), .int (nI c0)] (uAr (uAr (uAr (uAr (uAr M 71 f) 81 A) 82 W) 83 T) 84 Q) (fun r M2 => P r M2) := by
  refine ustart_i (cc := cX12_readOn) (maxL := 3) (ret := (some .int)) (own := RX12) rfl (by decide) rfl (Nat.le_of_ble_eq_true rfl) ?_
  intro xp xe xs xm xa xb xt xc xA ls S hK hA Z hre hlk hl
  have hl : lv_has ls 3 [(0, .ref (G.2.2 71)), (1, .int (nI 2)), (2, .int (nI c0))] := hl
  refine lv_iload_n S.1 S.2.1 dX12_readOn_0 rfl (lv_at hl 1 rfl) ?_
  refine lv_tableIn (tgt := 44) S.1 S.2.1 dX12_readOn_1 (by decide) (by decide) rfl (by decide) ?_
  refine lv_aload_n S.1 S.2.1 dX12_readOn_44 rfl (lv_at hl 0 rfl) ?_
  refine lv_iload_n S.1 S.2.1 dX12_readOn_45 rfl (lv_at hl 1 rfl) ?_
  refine lv_iload_n S.1 S.2.1 dX12_readOn_46 rfl (lv_at hl 2 rfl) ?_
  refine uc_Vi (As := [.int (nI 2), .int (nI c0)]) (rest := []) S hK hA Z (hcall) (cwV 2 S.2.2.2.2 gX12_readOn_X12_piece rfl rfl rfl (by decide +kernel) ⟨Nat.le_of_ble_eq_true rfl, Nat.le_of_ble_eq_true rfl⟩) (by decide) rfl rfl rfl hl.1 rfl (Nat.le_of_ble_eq_true rfl) dX12_readOn_47 ⟨Nat.zero_le _, Nat.zero_le _⟩ (fun r_1 M_1 H locs hp Z => ?_)
  have hq := hp
  refine uret_i S hK Z hre hlk dX12_readOn_50 ?_
  exact hq
theorem c_X12_readOn2 (l : Launch) (G : uG) (s : Nat → Nat) (i : Nat) (hs : s i < 127) (M : uM) (f A W T Q : Nat → Nat) (he : f 17 < 60) (hst : pSt s i 2 (f 17) A W T Q) : CTi l G yX12_readOn wsX12_readOn 4 87 [.ref (G.2.2 71), .int (nI 2), .int (nI (s i))] (pM M f A W T Q) (rdOn M s i 2 f) := by
  by_cases hc : 97 ≤ s i ∧ s i ≤ 108
  · refine CTi_mono (c_X12_rd2 l G (s i) M f A W T Q (c_X12_pieceY l G 2 (s i) (by decide) hc M f A W T Q he)) (fun r M2 h => Or.inr ⟨4, f 17, A, _, _, _, h.1, ?_, st_piece hst (by decide) hc⟩)
    rw [fu_id]
    exact h.2
  · refine CTi_mono (c_X12_rd2 l G (s i) M f A W T Q (c_X12_pieceN l G 2 (s i) (by decide) hs hc M f A W T Q he)) (fun r M2 h => ?_)
    obtain ⟨h1, T2, h2⟩ := h
    exact Or.inl ⟨st_bad2 (by decide) hc, h1, _, _, _, _, h2⟩
set_option maxHeartbeats 4000000 in
set_option maxRecDepth 100000 in
theorem c_X12_rd3 (l : Launch) (G : uG) (c0 : Nat) (M : uM) (f A W T Q : Nat → Nat) {P : Int32 → uM → Prop} (hcall : CTi l G yX12_piece wsX12_piece 2 45 [.ref (G.2.2 71), .int (nI 3), .int (nI c0)] (uAr (uAr (uAr (uAr (uAr M 71 f) 81 A) 82 W) 83 T) 84 Q) P) : CTi l G yX12_readOn wsX12_readOn 4 87 [.ref (G.2.2 71), .int (nI 3), .int (nI c0)] (uAr (uAr (uAr (uAr (uAr M 71 f) 81 A) 82 W) 83 T) 84 Q) (fun r M2 => P r M2) := by
  refine ustart_i (cc := cX12_readOn) (maxL := 3) (ret := (some .int)) (own := RX12) rfl (by decide) rfl (Nat.le_of_ble_eq_true rfl) ?_
  intro xp xe xs xm xa xb xt xc xA ls S hK hA Z hre hlk hl
  have hl : lv_has ls 3 [(0, .ref (G.2.2 71)), (1, .int (nI 3)), (2, .int (nI c0))] := hl
  refine lv_iload_n S.1 S.2.1 dX12_readOn_0 rfl (lv_at hl 1 rfl) ?_
  refine lv_tableIn (tgt := 44) S.1 S.2.1 dX12_readOn_1 (by decide) (by decide) rfl (by decide) ?_
  refine lv_aload_n S.1 S.2.1 dX12_readOn_44 rfl (lv_at hl 0 rfl) ?_
  refine lv_iload_n S.1 S.2.1 dX12_readOn_45 rfl (lv_at hl 1 rfl) ?_
  refine lv_iload_n S.1 S.2.1 dX12_readOn_46 rfl (lv_at hl 2 rfl) ?_
  refine uc_Vi (As := [.int (nI 3), .int (nI c0)]) (rest := []) S hK hA Z (hcall) (cwV 2 S.2.2.2.2 gX12_readOn_X12_piece rfl rfl rfl (by decide +kernel) ⟨Nat.le_of_ble_eq_true rfl, Nat.le_of_ble_eq_true rfl⟩) (by decide) rfl rfl rfl hl.1 rfl (Nat.le_of_ble_eq_true rfl) dX12_readOn_47 ⟨Nat.zero_le _, Nat.zero_le _⟩ (fun r_1 M_1 H locs hp Z => ?_)
  have hq := hp
  refine uret_i S hK Z hre hlk dX12_readOn_50 ?_
  exact hq
theorem c_X12_readOn3 (l : Launch) (G : uG) (s : Nat → Nat) (i : Nat) (hs : s i < 127) (M : uM) (f A W T Q : Nat → Nat) (he : f 17 < 60) (hst : pSt s i 3 (f 17) A W T Q) : CTi l G yX12_readOn wsX12_readOn 4 87 [.ref (G.2.2 71), .int (nI 3), .int (nI (s i))] (pM M f A W T Q) (rdOn M s i 3 f) := by
  by_cases hc : 97 ≤ s i ∧ s i ≤ 108
  · refine CTi_mono (c_X12_rd3 l G (s i) M f A W T Q (c_X12_pieceY l G 3 (s i) (by decide) hc M f A W T Q he)) (fun r M2 h => Or.inr ⟨5, f 17, A, _, _, _, h.1, ?_, st_piece hst (by decide) hc⟩)
    rw [fu_id]
    exact h.2
  · refine CTi_mono (c_X12_rd3 l G (s i) M f A W T Q (c_X12_pieceN l G 3 (s i) (by decide) hs hc M f A W T Q he)) (fun r M2 h => ?_)
    obtain ⟨h1, T2, h2⟩ := h
    exact Or.inl ⟨st_bad2 (by decide) hc, h1, _, _, _, _, h2⟩
set_option maxHeartbeats 4000000 in
set_option maxRecDepth 100000 in
theorem c_X12_rd4 (l : Launch) (G : uG) (c0 : Nat) (M : uM) (f A W T Q : Nat → Nat) {P : Int32 → uM → Prop} (hcall : CTi l G yX12_toWhom wsX12_toWhom 2 45 [.ref (G.2.2 71), .int (nI 4), .int (nI c0)] (uAr (uAr (uAr (uAr (uAr M 71 f) 81 A) 82 W) 83 T) 84 Q) P) : CTi l G yX12_readOn wsX12_readOn 4 87 [.ref (G.2.2 71), .int (nI 4), .int (nI c0)] (uAr (uAr (uAr (uAr (uAr M 71 f) 81 A) 82 W) 83 T) 84 Q) (fun r M2 => P r M2) := by
  refine ustart_i (cc := cX12_readOn) (maxL := 3) (ret := (some .int)) (own := RX12) rfl (by decide) rfl (Nat.le_of_ble_eq_true rfl) ?_
  intro xp xe xs xm xa xb xt xc xA ls S hK hA Z hre hlk hl
  have hl : lv_has ls 3 [(0, .ref (G.2.2 71)), (1, .int (nI 4)), (2, .int (nI c0))] := hl
  refine lv_iload_n S.1 S.2.1 dX12_readOn_0 rfl (lv_at hl 1 rfl) ?_
  refine lv_tableOut (tgt := 51) S.1 S.2.1 dX12_readOn_1 (by decide) (by decide) ?_
  refine lv_aload_n S.1 S.2.1 dX12_readOn_51 rfl (lv_at hl 0 rfl) ?_
  refine lv_iload_n S.1 S.2.1 dX12_readOn_52 rfl (lv_at hl 1 rfl) ?_
  refine lv_iload_n S.1 S.2.1 dX12_readOn_53 rfl (lv_at hl 2 rfl) ?_
  refine uc_Vi (As := [.int (nI 4), .int (nI c0)]) (rest := []) S hK hA Z (hcall) (cwV 2 S.2.2.2.2 gX12_readOn_X12_toWhom rfl rfl rfl (by decide +kernel) ⟨Nat.le_of_ble_eq_true rfl, Nat.le_of_ble_eq_true rfl⟩) (by decide) rfl rfl rfl hl.1 rfl (Nat.le_of_ble_eq_true rfl) dX12_readOn_54 ⟨Nat.zero_le _, Nat.zero_le _⟩ (fun r_1 M_1 H locs hp Z => ?_)
  have hq := hp
  refine uret_i S hK Z hre hlk dX12_readOn_57 ?_
  exact hq
theorem c_X12_readOn4 (l : Launch) (G : uG) (s : Nat → Nat) (i : Nat) (hs : s i < 127) (M : uM) (f A W T Q : Nat → Nat) (he : f 17 < 60) (hst : pSt s i 4 (f 17) A W T Q) : CTi l G yX12_readOn wsX12_readOn 4 87 [.ref (G.2.2 71), .int (nI 4), .int (nI (s i))] (pM M f A W T Q) (rdOn M s i 4 f) := by
  by_cases hc : 65 ≤ s i ∧ s i ≤ 72
  · exact CTi_mono (c_X12_rd4 l G (s i) M f A W T Q (c_X12_toWhomY l G 4 (s i) (by decide) hc M f A W T Q he)) (fun r M2 h => Or.inr ⟨0, f 17 + 1, _, _, _, _, h.1, h.2, st_whom hst (by decide) hc⟩)
  · refine CTi_mono (c_X12_rd4 l G (s i) M f A W T Q (c_X12_toWhomN l G 4 (s i) (by decide) hs hc M f A W T Q he)) (fun r M2 h => ?_)
    obtain ⟨h1, T2, h2⟩ := h
    exact Or.inl ⟨st_bad4 (by decide) hc, h1, _, _, _, _, h2⟩
set_option maxHeartbeats 4000000 in
set_option maxRecDepth 100000 in
theorem c_X12_rd5 (l : Launch) (G : uG) (c0 : Nat) (M : uM) (f A W T Q : Nat → Nat) {P : Int32 → uM → Prop} (hcall : CTi l G yX12_toWhom wsX12_toWhom 2 45 [.ref (G.2.2 71), .int (nI 5), .int (nI c0)] (uAr (uAr (uAr (uAr (uAr M 71 f) 81 A) 82 W) 83 T) 84 Q) P) : CTi l G yX12_readOn wsX12_readOn 4 87 [.ref (G.2.2 71), .int (nI 5), .int (nI c0)] (uAr (uAr (uAr (uAr (uAr M 71 f) 81 A) 82 W) 83 T) 84 Q) (fun r M2 => P r M2) := by
  refine ustart_i (cc := cX12_readOn) (maxL := 3) (ret := (some .int)) (own := RX12) rfl (by decide) rfl (Nat.le_of_ble_eq_true rfl) ?_
  intro xp xe xs xm xa xb xt xc xA ls S hK hA Z hre hlk hl
  have hl : lv_has ls 3 [(0, .ref (G.2.2 71)), (1, .int (nI 5)), (2, .int (nI c0))] := hl
  refine lv_iload_n S.1 S.2.1 dX12_readOn_0 rfl (lv_at hl 1 rfl) ?_
  refine lv_tableOut (tgt := 51) S.1 S.2.1 dX12_readOn_1 (by decide) (by decide) ?_
  refine lv_aload_n S.1 S.2.1 dX12_readOn_51 rfl (lv_at hl 0 rfl) ?_
  refine lv_iload_n S.1 S.2.1 dX12_readOn_52 rfl (lv_at hl 1 rfl) ?_
  refine lv_iload_n S.1 S.2.1 dX12_readOn_53 rfl (lv_at hl 2 rfl) ?_
  refine uc_Vi (As := [.int (nI 5), .int (nI c0)]) (rest := []) S hK hA Z (hcall) (cwV 2 S.2.2.2.2 gX12_readOn_X12_toWhom rfl rfl rfl (by decide +kernel) ⟨Nat.le_of_ble_eq_true rfl, Nat.le_of_ble_eq_true rfl⟩) (by decide) rfl rfl rfl hl.1 rfl (Nat.le_of_ble_eq_true rfl) dX12_readOn_54 ⟨Nat.zero_le _, Nat.zero_le _⟩ (fun r_1 M_1 H locs hp Z => ?_)
  have hq := hp
  refine uret_i S hK Z hre hlk dX12_readOn_57 ?_
  exact hq
theorem c_X12_readOn5 (l : Launch) (G : uG) (s : Nat → Nat) (i : Nat) (hs : s i < 127) (M : uM) (f A W T Q : Nat → Nat) (he : f 17 < 60) (hst : pSt s i 5 (f 17) A W T Q) : CTi l G yX12_readOn wsX12_readOn 4 87 [.ref (G.2.2 71), .int (nI 5), .int (nI (s i))] (pM M f A W T Q) (rdOn M s i 5 f) := by
  by_cases hc : 65 ≤ s i ∧ s i ≤ 72
  · exact CTi_mono (c_X12_rd5 l G (s i) M f A W T Q (c_X12_toWhomY l G 5 (s i) (by decide) hc M f A W T Q he)) (fun r M2 h => Or.inr ⟨0, f 17 + 1, _, _, _, _, h.1, h.2, st_whom hst (by decide) hc⟩)
  · refine CTi_mono (c_X12_rd5 l G (s i) M f A W T Q (c_X12_toWhomN l G 5 (s i) (by decide) hs hc M f A W T Q he)) (fun r M2 h => ?_)
    obtain ⟨h1, T2, h2⟩ := h
    exact Or.inl ⟨st_bad4 (by decide) hc, h1, _, _, _, _, h2⟩
theorem c_X12_readOn (l : Launch) (G : uG) (s : Nat → Nat) (i d : Nat) (hs : s i < 127) (M : uM) (f A W T Q : Nat → Nat) (he : f 17 < 60) (hst : pSt s i d (f 17) A W T Q) : CTi l G yX12_readOn wsX12_readOn 4 87 [.ref (G.2.2 71), .int (nI d), .int (nI (s i))] (pM M f A W T Q) (rdOn M s i d f) := by
  have hd : d ≤ 5 := hst.2.2.1
  rcases (show d = 0 ∨ d = 1 ∨ d = 2 ∨ d = 3 ∨ d = 4 ∨ d = 5 by omega) with rfl | rfl | rfl | rfl | rfl | rfl
  · exact c_X12_readOn0 l G s i hs M f A W T Q he hst
  · exact c_X12_readOn1 l G s i hs M f A W T Q he hst
  · exact c_X12_readOn2 l G s i hs M f A W T Q he hst
  · exact c_X12_readOn3 l G s i hs M f A W T Q he hst
  · exact c_X12_readOn4 l G s i hs M f A W T Q he hst
  · exact c_X12_readOn5 l G s i hs M f A W T Q he hst
