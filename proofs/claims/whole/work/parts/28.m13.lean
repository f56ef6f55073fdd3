/-! images, as the reference keeps them: one row, a place that goes on -/
def uKp (M : uM) (po : Nat) (K : Nat → Nat) : uM := (fun a i => if a = 94 then nI (K i) else if a = 71 ∧ i = 36 then nI po else M.1 a i, M.2)
theorem uKp_94 (M : uM) (po : Nat) (K : Nat → Nat) (i : Nat) : (uKp M po K).1 94 i = nI (K i) := by simp [uKp]
theorem uKp_36 (M : uM) (po : Nat) (K : Nat → Nat) : (uKp M po K).1 71 36 = nI po := rfl
theorem uKp_o (M : uM) (po : Nat) (K : Nat → Nat) {a i : Nat} (h : a ≠ 94 ∧ ¬ (a = 71 ∧ i = 36)) : (uKp M po K).1 a i = M.1 a i := by
  show (if a = 94 then _ else if a = 71 ∧ i = 36 then _ else _) = _
  rw [if_neg h.1, if_neg h.2]
theorem uKp_s94 (M : uM) (po : Nat) (K : Nat → Nat) (i v : Nat) : u1 (uKp M po K) 94 i (nI v) = uKp M po (fu K i v) := uM_ext (fun a c => by
  rw [u1_1]
  unfold uKp fu
  dsimp only
  by_cases h : a = 94 <;> by_cases h2 : c = i <;> simp [h, h2]) rfl
theorem uKp_s36 (M : uM) (po : Nat) (K : Nat → Nat) (v : Nat) : u1 (uKp M po K) 71 36 (nI v) = uKp M v K := uM_ext (fun a c => by
  rw [u1_1]
  unfold uKp
  dsimp only
  by_cases h : a = 94
  · rw [if_neg (by omega), if_pos h, if_pos h]
  · rw [if_neg h, if_neg h]
    by_cases h2 : a = 71 ∧ c = 36
    · rw [if_pos h2, if_pos h2]
    · rw [if_neg h2, if_neg h2, if_neg h2]) rfl
theorem uKp_s37 (M : uM) (po : Nat) (K : Nat → Nat) (v : Int32) : u1 (uKp M po K) 71 37 v = uKp (u1 M 71 37 v) po K := uM_ext (fun a c => by
  rw [u1_1]
  unfold uKp
  dsimp only
  rw [u1_1]
  by_cases h : a = 94
  · rw [if_neg (by omega), if_pos h, if_pos h]
  · rw [if_neg h, if_neg h]
    by_cases h2 : a = 71 ∧ c = 36
    · rw [if_neg (by omega), if_pos h2, if_pos h2]
    · rw [if_neg h2, if_neg h2]) rfl
theorem uKp_id {M : uM} {po : Nat} {K : Nat → Nat} (h1 : M.1 71 36 = nI po) (h2 : ∀ i, M.1 94 i = nI (K i)) : uKp M po K = M := uM_ext (fun a c => by
  unfold uKp
  dsimp only
  by_cases h : a = 94
  · rw [if_pos h, h, h2]
  · rw [if_neg h]
    by_cases h3 : a = 71 ∧ c = 36
    · rw [if_pos h3, h3.1, h3.2, h1]
    · rw [if_neg h3]) rfl
def kW (K : Nat → Nat) (po : Nat) (f : Nat → Nat) (n : Nat) : Nat → Nat := fun i => if po ≤ i ∧ i < po + n then f (i - po) else K i
theorem kW_0 (K : Nat → Nat) (po : Nat) (f : Nat → Nat) : kW K po f 0 = K := funext fun i => if_neg (by omega)
theorem kW_s (K : Nat → Nat) (po : Nat) (f : Nat → Nat) (t : Nat) : fu (kW K po f t) (po + t) (f t) = kW K po f (t + 1) := funext fun i => by
  unfold fu kW
  by_cases h : i = po + t
  · rw [if_pos h, if_pos (by omega), h, show po + t - po = t from by omega]
  · rw [if_neg h]
    by_cases h2 : po ≤ i ∧ i < po + t
    · rw [if_pos h2, if_pos (by omega)]
    · rw [if_neg h2, if_neg (by omega)]
theorem kW_in {K : Nat → Nat} {po : Nat} {f : Nat → Nat} {n c : Nat} (h : c < n) : kW K po f n (po + c) = f c := by
  unfold kW
  rw [if_pos (by omega), show po + c - po = c from by omega]
theorem kW_o {K : Nat → Nat} {po : Nat} {f : Nat → Nat} {n i : Nat} (h : i < po ∨ po + n ≤ i) : kW K po f n i = K i := if_neg (by omega)
def kR (w : Nat → Nat → Nat) (j : Nat) (K : Nat → Nat) (po n : Nat) : Nat → Nat → Nat := fun a c => if a = j ∧ c < n then K (po + c) else w a c
theorem kR_0 (w : Nat → Nat → Nat) (j : Nat) (K : Nat → Nat) (po : Nat) : kR w j K po 0 = w := funext fun a => funext fun c => if_neg (by omega)
theorem kR_s (w : Nat → Nat → Nat) (j : Nat) (K : Nat → Nat) (po t : Nat) : wu (kR w j K po t) j t (K (po + t)) = kR w j K po (t + 1) := funext fun a => funext fun c => by
  unfold wu kR
  by_cases h : a = j ∧ c = t
  · rw [if_pos h, if_pos (by omega), h.2]
  · rw [if_neg h]
    by_cases h2 : a = j ∧ c < t
    · rw [if_pos h2, if_pos (by omega)]
    · rw [if_neg h2, if_neg (by omega)]
/-- the row from po on holds the world w -/
def kpW (K : Nat → Nat) (po : Nat) (w : Nat → Nat → Nat) : Prop := K po = w 0 7 ∧ K (po + 1) = w 0 8 ∧ K (po + 1 + 1) = w 7 2 ∧ (∀ c, c < 12 → K (po + 3 + c) = w 1 c) ∧ (∀ c, c < 12 → K (po + 15 + c) = w 2 c) ∧ (∀ c, c < 12 → K (po + 27 + c) = w 3 c) ∧ (∀ c, c < 12 → K (po + 39 + c) = w 4 c) ∧ (∀ c, c < 8 → K (po + 51 + c) = w 5 c) ∧ (∀ c, c < 8 → K (po + 59 + c) = w 6 c) ∧ (∀ c, c < 8 → K (po + 67 + c) = w 8 c) ∧ (∀ c, c < 8 → K (po + 75 + c) = w 9 c)
def kAll (K : Nat → Nat) (po : Nat) (w : Nat → Nat → Nat) : Nat → Nat := kW (kW (kW (kW (kW (kW (kW (kW (fu (fu (fu K po (w 0 7)) (po + 1) (w 0 8)) (po + 1 + 1) (w 7 2)) (po + 1 + 1 + 1) (w 1) 12) (po + 1 + 1 + 1 + 12) (w 2) 12) (po + 1 + 1 + 1 + 12 + 12) (w 3) 12) (po + 1 + 1 + 1 + 12 + 12 + 12) (w 4) 12) (po + 1 + 1 + 1 + 12 + 12 + 12 + 12) (w 5) 8) (po + 1 + 1 + 1 + 12 + 12 + 12 + 12 + 8) (w 6) 8) (po + 1 + 1 + 1 + 12 + 12 + 12 + 12 + 8 + 8) (w 8) 8) (po + 1 + 1 + 1 + 12 + 12 + 12 + 12 + 8 + 8 + 8) (w 9) 8
theorem kAll_ok (K : Nat → Nat) (po : Nat) (w : Nat → Nat → Nat) : kpW (kAll K po w) po w ∧ ∀ i, (i < po ∨ po + 83 ≤ i) → kAll K po w i = K i := by
  refine ⟨⟨?_, ?_, ?_, fun c hc => ?_, fun c hc => ?_, fun c hc => ?_, fun c hc => ?_, fun c hc => ?_, fun c hc => ?_, fun c hc => ?_, fun c hc => ?_⟩, fun i hi => ?_⟩
  · unfold kAll
    rw [kW_o (by omega), kW_o (by omega), kW_o (by omega), kW_o (by omega), kW_o (by omega), kW_o (by omega), kW_o (by omega), kW_o (by omega), fu_ne (by omega), fu_ne (by omega), fu_eq]
  · unfold kAll
    rw [kW_o (by omega), kW_o (by omega), kW_o (by omega), kW_o (by omega), kW_o (by omega), kW_o (by omega), kW_o (by omega), kW_o (by omega), fu_ne (by omega), fu_eq]
  · unfold kAll
    rw [kW_o (by omega), kW_o (by omega), kW_o (by omega), kW_o (by omega), kW_o (by omega), kW_o (by omega), kW_o (by omega), kW_o (by omega), fu_eq]
  · unfold kAll
    rw [kW_o (by omega), kW_o (by omega), kW_o (by omega), kW_o (by omega), kW_o (by omega), kW_o (by omega), kW_o (by omega)]
    exact kW_in hc
  · unfold kAll
    rw [kW_o (by omega), kW_o (by omega), kW_o (by omega), kW_o (by omega), kW_o (by omega), kW_o (by omega)]
    exact kW_in hc
  · unfold kAll
    rw [kW_o (by omega), kW_o (by omega), kW_o (by omega), kW_o (by omega), kW_o (by omega)]
    exact kW_in hc
  · unfold kAll
    rw [kW_o (by omega), kW_o (by omega), kW_o (by omega), kW_o (by omega)]
    exact kW_in hc
  · unfold kAll
    rw [kW_o (by omega), kW_o (by omega), kW_o (by omega)]
    exact kW_in hc
  · unfold kAll
    rw [kW_o (by omega), kW_o (by omega)]
    exact kW_in hc
  · unfold kAll
    rw [kW_o (by omega)]
    exact kW_in hc
  · unfold kAll
    exact kW_in hc
  · unfold kAll
    rw [kW_o (by omega), kW_o (by omega), kW_o (by omega), kW_o (by omega), kW_o (by omega), kW_o (by omega), kW_o (by omega), kW_o (by omega), fu_ne (by omega), fu_ne (by omega), fu_ne (by omega)]
def rAll (K : Nat → Nat) (po : Nat) (w : Nat → Nat → Nat) : Nat → Nat → Nat := kR (kR (kR (kR (kR (kR (kR (kR (wu (wu (wu w 0 7 (K po)) 0 8 (K (po + 1))) 7 2 (K (po + 1 + 1))) 1 K (po + 1 + 1 + 1) 12) 2 K (po + 1 + 1 + 1 + 12) 12) 3 K (po + 1 + 1 + 1 + 12 + 12) 12) 4 K (po + 1 + 1 + 1 + 12 + 12 + 12) 12) 5 K (po + 1 + 1 + 1 + 12 + 12 + 12 + 12) 8) 6 K (po + 1 + 1 + 1 + 12 + 12 + 12 + 12 + 8) 8) 8 K (po + 1 + 1 + 1 + 12 + 12 + 12 + 12 + 8 + 8) 8) 9 K (po + 1 + 1 + 1 + 12 + 12 + 12 + 12 + 8 + 8 + 8) 8
theorem rAll_ok {K : Nat → Nat} {po : Nat} {w v : Nat → Nat → Nat} (h : kpW K po v) (h1 : zOut w) (h2 : zOut v) : rAll K po w = v := funext fun a => funext fun c => by
  obtain ⟨k1, k2, k3, k4, k5, k6, k7, k8, k9, k10, k11⟩ := h
  by_cases q : wIn a c
  · unfold wIn at q
    unfold rAll wu kR
    dsimp only
    by_cases e9 : a = 9 ∧ c < 8
    · rw [if_pos e9, e9.1]; exact k11 c e9.2
    rw [if_neg e9]
    by_cases e8 : a = 8 ∧ c < 8
    · rw [if_pos e8, e8.1]; exact k10 c e8.2
    rw [if_neg e8]
    by_cases e6 : a = 6 ∧ c < 8
    · rw [if_pos e6, e6.1]; exact k9 c e6.2
    rw [if_neg e6]
    by_cases e5 : a = 5 ∧ c < 8
    · rw [if_pos e5, e5.1]; exact k8 c e5.2
    rw [if_neg e5]
    by_cases e4 : a = 4 ∧ c < 12
    · rw [if_pos e4, e4.1]; exact k7 c e4.2
    rw [if_neg e4]
    by_cases e3 : a = 3 ∧ c < 12
    · rw [if_pos e3, e3.1]; exact k6 c e3.2
    rw [if_neg e3]
    by_cases e2 : a = 2 ∧ c < 12
    · rw [if_pos e2, e2.1]; exact k5 c e2.2
    rw [if_neg e2]
    by_cases e1 : a = 1 ∧ c < 12
    · rw [if_pos e1, e1.1]; exact k4 c e1.2
    rw [if_neg e1]
    by_cases e7 : a = 7 ∧ c = 2
    · rw [if_pos e7, e7.1, e7.2]; exact k3
    rw [if_neg e7]
    by_cases d8 : a = 0 ∧ c = 8
    · rw [if_pos d8, d8.1, d8.2]; exact k2
    rw [if_neg d8]
    by_cases d7 : a = 0 ∧ c = 7
    · rw [if_pos d7, d7.1, d7.2]; exact k1
    exfalso
    omega
  · rw [h2 a c q]
    have h3 := h1 a c q
    unfold wIn at q
    unfold rAll wu kR
    dsimp only
    rw [if_neg (by omega), if_neg (by omega), if_neg (by omega), if_neg (by omega), if_neg (by omega), if_neg (by omega), if_neg (by omega), if_neg (by omega), if_neg (by omega), if_neg (by omega), if_neg (by omega), h3]
theorem qX12_pass_347 : Cond.fieldLink RX12 347 (TX12 37).1 (TX12 37).2.1 (TX12 37).2.2.1 ∈ wsX12_pass := List.mem_of_getElem? (i := 1) rfl
theorem iX12_pass_X12 : ∀ w ∈ wsX120, w ∈ wsX12_pass := fun _ h => List.mem_cons_of_mem _ (List.mem_append_right _ h)
theorem qX12_pass_78 : Cond.fieldLink RX12 78 (TX12 34).1 (TX12 34).2.1 (TX12 34).2.2.1 ∈ wsX12_pass := List.mem_of_getElem? (i := 2) rfl
theorem qX12_pass_351 : Cond.fieldLink RX12 351 (TX12 36).1 (TX12 36).2.1 (TX12 36).2.2.1 ∈ wsX12_pass := List.mem_of_getElem? (i := 3) rfl
theorem qX12_passAll_84 : Cond.fieldLink RX12 84 (TX12 6).1 (TX12 6).2.1 (TX12 6).2.2.1 ∈ wsX12_passAll := List.mem_of_getElem? (i := 1) rfl
theorem iX12_passAll_X12 : ∀ w ∈ wsX120, w ∈ wsX12_passAll := fun _ h => List.mem_cons_of_mem _ (List.mem_append_right _ h)
theorem qX12_passAll_180 : Cond.fieldLink RX12 180 (TX12 7).1 (TX12 7).2.1 (TX12 7).2.2.1 ∈ wsX12_passAll := List.mem_of_getElem? (i := 2) rfl
theorem qX12_passAll_300 : Cond.fieldLink RX12 300 (TX12 10).1 (TX12 10).2.1 (TX12 10).2.2.1 ∈ wsX12_passAll := List.mem_of_getElem? (i := 3) rfl
theorem qX12_passAll_7 : Cond.fieldLink RX12 7 (TX12 0).1 (TX12 0).2.1 (TX12 0).2.2.1 ∈ wsX12_passAll := List.mem_of_getElem? (i := 4) rfl
theorem qX12_passAll_13 : Cond.fieldLink RX12 13 (TX12 1).1 (TX12 1).2.1 (TX12 1).2.2.1 ∈ wsX12_passAll := List.mem_of_getElem? (i := 5) rfl
theorem qX12_passAll_16 : Cond.fieldLink RX12 16 (TX12 2).1 (TX12 2).2.1 (TX12 2).2.2.1 ∈ wsX12_passAll := List.mem_of_getElem? (i := 6) rfl
theorem qX12_passAll_19 : Cond.fieldLink RX12 19 (TX12 3).1 (TX12 3).2.1 (TX12 3).2.2.1 ∈ wsX12_passAll := List.mem_of_getElem? (i := 7) rfl
theorem qX12_passAll_22 : Cond.fieldLink RX12 22 (TX12 4).1 (TX12 4).2.1 (TX12 4).2.2.1 ∈ wsX12_passAll := List.mem_of_getElem? (i := 8) rfl
theorem qX12_passAll_25 : Cond.fieldLink RX12 25 (TX12 5).1 (TX12 5).2.1 (TX12 5).2.2.1 ∈ wsX12_passAll := List.mem_of_getElem? (i := 9) rfl
theorem qX12_passAll_28 : Cond.fieldLink RX12 28 (TX12 8).1 (TX12 8).2.1 (TX12 8).2.2.1 ∈ wsX12_passAll := List.mem_of_getElem? (i := 10) rfl
theorem qX12_passAll_31 : Cond.fieldLink RX12 31 (TX12 9).1 (TX12 9).2.1 (TX12 9).2.2.1 ∈ wsX12_passAll := List.mem_of_getElem? (i := 11) rfl
theorem qX12_image_351 : Cond.fieldLink RX12 351 (TX12 36).1 (TX12 36).2.1 (TX12 36).2.2.1 ∈ wsX12_image := List.mem_of_getElem? (i := 1) rfl
theorem iX12_image_X12 : ∀ w ∈ wsX120, w ∈ wsX12_image := fun _ h => List.mem_cons_of_mem _ (List.mem_append_right _ h)
theorem qX12_image_347 : Cond.fieldLink RX12 347 (TX12 37).1 (TX12 37).2.1 (TX12 37).2.2.1 ∈ wsX12_image := List.mem_of_getElem? (i := 2) rfl
theorem qX12_image_81 : Cond.fieldLink RX12 81 (TX12 35).1 (TX12 35).2.1 (TX12 35).2.2.1 ∈ wsX12_image := List.mem_of_getElem? (i := 3) rfl
theorem qX12_restore_81 : Cond.fieldLink RX12 81 (TX12 35).1 (TX12 35).2.1 (TX12 35).2.2.1 ∈ wsX12_restore := List.mem_of_getElem? (i := 1) rfl
theorem iX12_restore_X12 : ∀ w ∈ wsX120, w ∈ wsX12_restore := fun _ h => List.mem_cons_of_mem _ (List.mem_append_right _ h)
theorem qX12_restore_351 : Cond.fieldLink RX12 351 (TX12 36).1 (TX12 36).2.1 (TX12 36).2.2.1 ∈ wsX12_restore := List.mem_of_getElem? (i := 2) rfl
theorem qX12_restore_347 : Cond.fieldLink RX12 347 (TX12 37).1 (TX12 37).2.1 (TX12 37).2.2.1 ∈ wsX12_restore := List.mem_of_getElem? (i := 3) rfl
set_option maxHeartbeats 4000000 in
set_option maxRecDepth 100000 in
theorem c_X12_passW (l : Launch) (G : uG) (v : Nat) (M : uM) (po : Nat) (K : Nat → Nat) (w : Nat → Nat → Nat) (h37 : M.1 71 37 = 1) (hpo : po < 180) : CTi l G yX12_pass wsX12_pass 0 0 [.ref (G.2.2 71), .int (nI v)] (uPM (uKp M po K) w) (fun r M2 => r = nI v ∧ M2 = uPM (uKp M (po + 1) (fu K po v)) w) := by
  refine ustart_i (cc := cX12_pass) (maxL := 3) (ret := (some .int)) (own := RX12) rfl (by decide) rfl (Nat.le_of_ble_eq_true rfl) ?_
  intro xp xe xs xm xa xb xt xc xA ls S hK hA Z hre hlk hl
  have hl : lv_has ls 3 [(0, .ref (G.2.2 71)), (1, .int (nI v))] := hl
  refine lv_aload_n S.1 S.2.1 dX12_pass_0 rfl (lv_at hl 0 rfl) ?_
  refine ug_i S hK Z (j := 37) (by decide) rfl rfl rfl (by decide) iX12_pass_X12 qX12_pass_347 dX12_pass_1 ?_
  refine utop (y := 1) ((uPM_o (uKp M po K) w (a := 71) (i := 37) (by unfold mO; omega)).trans ((uKp_o M po K (by omega)).trans h37)) ?_
  refine lv_if_eq (tgt := 11) S.1 S.2.1 dX12_pass_4 (by decide) (fun c => absurd c (by decide)) (fun _ => ?_)
  refine lv_iload_n S.1 S.2.1 dX12_pass_7 rfl (lv_at hl 1 rfl) ?_
  refine lv_goto (tgt := 20) S.1 S.2.1 dX12_pass_8 (by decide) ?_
  refine lv_istore_n (lv' := [(2, .int (nI v)), (0, .ref (G.2.2 71)), (1, .int (nI v))]) S.1 S.2.1 dX12_pass_20 rfl hl (by decide) rfl (fun ls hl => ?_)
  refine lv_aload_n S.1 S.2.1 dX12_pass_21 rfl (lv_at hl 1 rfl) ?_
  refine ug_r S hK Z (j := 34) 94 (by decide) rfl rfl rfl (by decide) iX12_pass_X12 qX12_pass_78 dX12_pass_22 ?_
  refine lv_aload_n S.1 S.2.1 dX12_pass_25 rfl (lv_at hl 1 rfl) ?_
  refine ug_i S hK Z (j := 36) (by decide) rfl rfl rfl (by decide) iX12_pass_X12 qX12_pass_351 dX12_pass_26 ?_
  refine utop (y := (nI po)) ((uPM_o (uKp M po K) w (a := 71) (i := 36) (by unfold mO; omega)).trans (uKp_36 M po K)) ?_
  refine lv_iload_n S.1 S.2.1 dX12_pass_29 rfl (lv_at hl 0 rfl) ?_
  refine ua_ist S hK Z po (by decide) rfl rfl (by omega) dX12_pass_30 (fun H locs Z => ?_)
  have Z := uZ_eq ((uPM_c (uKp M po K) w (a := 94) (i := po) (nI v) (by unfold mO; omega)).trans (congrArg (fun X => uPM X w) (uKp_s94 M po K po v))) Z
  refine lv_aload_n S.1 S.2.1 dX12_pass_31 rfl (lv_at hl 1 rfl) ?_
  refine lv_dup S.1 S.2.1 dX12_pass_32 rfl ?_
  refine ug_i S hK Z (j := 36) (by decide) rfl rfl rfl (by decide) iX12_pass_X12 qX12_pass_351 dX12_pass_33 ?_
  refine utop (y := (nI po)) ((uPM_o (uKp M po (fu K po v)) w (a := 71) (i := 36) (by unfold mO; omega)).trans (uKp_36 M po (fu K po v))) ?_
  refine lv_iconst (v := 1) S.1 S.2.1 dX12_pass_36 (by decide) ?_
  refine lv_iadd S.1 S.2.1 dX12_pass_37 ?_
  refine utop (nI_add po 1) ?_
  refine up_i S hK Z (j := 36) (by decide) rfl rfl rfl (by decide) iX12_pass_X12 tyX12_ok nmX12 qX12_pass_351 rfl rfl rfl dX12_pass_38 (fun H locs Z => ?_)
  have Z := uZ_eq ((uPM_c (uKp M po (fu K po v)) w (a := 71) (i := 36) (nI (po + 1)) (by unfold mO; omega)).trans (congrArg (fun X => uPM X w) (uKp_s36 M po (fu K po v) (po + 1)))) Z
  refine lv_iload_n S.1 S.2.1 dX12_pass_41 rfl (lv_at hl 0 rfl) ?_
  refine uret_i S hK Z hre hlk dX12_pass_42 ?_
  exact ⟨rfl, rfl⟩
set_option maxHeartbeats 4000000 in
set_option maxRecDepth 100000 in
theorem c_X12_passR (l : Launch) (G : uG) (v : Nat) (M : uM) (po : Nat) (K : Nat → Nat) (w : Nat → Nat → Nat) (h37 : M.1 71 37 = 0) (hpo : po < 180) : CTi l G yX12_pass wsX12_pass 0 0 [.ref (G.2.2 71), .int (nI v)] (uPM (uKp M po K) w) (fun r M2 => r = nI (K po) ∧ M2 = uPM (uKp M (po + 1) K) w) := by
  refine ustart_i (cc := cX12_pass) (maxL := 3) (ret := (some .int)) (own := RX12) rfl (by decide) rfl (Nat.le_of_ble_eq_true rfl) ?_
  intro xp xe xs xm xa xb xt xc xA ls S hK hA Z hre hlk hl
  have hl : lv_has ls 3 [(0, .ref (G.2.2 71)), (1, .int (nI v))] := hl
  refine lv_aload_n S.1 S.2.1 dX12_pass_0 rfl (lv_at hl 0 rfl) ?_
  refine ug_i S hK Z (j := 37) (by decide) rfl rfl rfl (by decide) iX12_pass_X12 qX12_pass_347 dX12_pass_1 ?_
  refine utop (y := 0) ((uPM_o (uKp M po K) w (a := 71) (i := 37) (by unfold mO; omega)).trans ((uKp_o M po K (by omega)).trans h37)) ?_
  refine lv_if_eq (tgt := 11) S.1 S.2.1 dX12_pass_4 (by decide) (fun _ => ?_) (fun c => absurd c (by decide))
  refine lv_aload_n S.1 S.2.1 dX12_pass_11 rfl (lv_at hl 0 rfl) ?_
  refine ug_r S hK Z (j := 34) 94 (by decide) rfl rfl rfl (by decide) iX12_pass_X12 qX12_pass_78 dX12_pass_12 ?_
  refine lv_aload_n S.1 S.2.1 dX12_pass_15 rfl (lv_at hl 0 rfl) ?_
  refine ug_i S hK Z (j := 36) (by decide) rfl rfl rfl (by decide) iX12_pass_X12 qX12_pass_351 dX12_pass_16 ?_
  refine utop (y := (nI po)) ((uPM_o (uKp M po K) w (a := 71) (i := 36) (by unfold mO; omega)).trans (uKp_36 M po K)) ?_
  refine ua_ild S hK Z po (by decide) rfl rfl (by omega) dX12_pass_19 ?_
  refine utop (y := (nI (K po))) ((uPM_o (uKp M po K) w (a := 94) (i := po) (by unfold mO; omega)).trans (uKp_94 M po K po)) ?_
  refine lv_istore_n (lv' := [(2, .int (nI (K po))), (0, .ref (G.2.2 71)), (1, .int (nI v))]) S.1 S.2.1 dX12_pass_20 rfl hl (by decide) rfl (fun ls hl => ?_)
  refine lv_aload_n S.1 S.2.1 dX12_pass_21 rfl (lv_at hl 1 rfl) ?_
  refine ug_r S hK Z (j := 34) 94 (by decide) rfl rfl rfl (by decide) iX12_pass_X12 qX12_pass_78 dX12_pass_22 ?_
  refine lv_aload_n S.1 S.2.1 dX12_pass_25 rfl (lv_at hl 1 rfl) ?_
  refine ug_i S hK Z (j := 36) (by decide) rfl rfl rfl (by decide) iX12_pass_X12 qX12_pass_351 dX12_pass_26 ?_
  refine utop (y := (nI po)) ((uPM_o (uKp M po K) w (a := 71) (i := 36) (by unfold mO; omega)).trans (uKp_36 M po K)) ?_
  refine lv_iload_n S.1 S.2.1 dX12_pass_29 rfl (lv_at hl 0 rfl) ?_
  refine ua_ist S hK Z po (by decide) rfl rfl (by omega) dX12_pass_30 (fun H locs Z => ?_)
  have Z := uZ_eq ((uPM_c (uKp M po K) w (a := 94) (i := po) (nI (K po)) (by unfold mO; omega)).trans (congrArg (fun X => uPM X w) (uKp_s94 M po K po (K po)))) Z
  refine lv_aload_n S.1 S.2.1 dX12_pass_31 rfl (lv_at hl 1 rfl) ?_
  refine lv_dup S.1 S.2.1 dX12_pass_32 rfl ?_
  refine ug_i S hK Z (j := 36) (by decide) rfl rfl rfl (by decide) iX12_pass_X12 qX12_pass_351 dX12_pass_33 ?_
  refine utop (y := (nI po)) ((uPM_o (uKp M po (fu K po (K po))) w (a := 71) (i := 36) (by unfold mO; omega)).trans (uKp_36 M po (fu K po (K po)))) ?_
  refine lv_iconst (v := 1) S.1 S.2.1 dX12_pass_36 (by decide) ?_
  refine lv_iadd S.1 S.2.1 dX12_pass_37 ?_
  refine utop (nI_add po 1) ?_
  refine up_i S hK Z (j := 36) (by decide) rfl rfl rfl (by decide) iX12_pass_X12 tyX12_ok nmX12 qX12_pass_351 rfl rfl rfl dX12_pass_38 (fun H locs Z => ?_)
  have Z := uZ_eq ((uPM_c (uKp M po (fu K po (K po))) w (a := 71) (i := 36) (nI (po + 1)) (by unfold mO; omega)).trans (congrArg (fun X => uPM X w) (uKp_s36 M po (fu K po (K po)) (po + 1)))) Z
  refine lv_iload_n S.1 S.2.1 dX12_pass_41 rfl (lv_at hl 0 rfl) ?_
  refine uret_i S hK Z hre hlk dX12_pass_42 ?_
  rw [fu_id]
  exact ⟨rfl, rfl⟩
set_option maxHeartbeats 4000000 in
set_option maxRecDepth 100000 in
theorem c_X12_passRowW72 (l : Launch) (G : uG) (M : uM) (po : Nat) (K : Nat → Nat) (w : Nat → Nat → Nat) (h37 : M.1 71 37 = 1) (hpo : po + 12 ≤ 180) : CTv l G yX12_passRow wsX12_passRow 1 22 [.ref (G.2.2 71), .ref (G.2.2 72), .int 12] (uPM (uKp M po K) w) (fun M2 => M2 = uPM (uKp M (po + 12) (kW K po (w 1) 12)) w) := by
  refine ustart_v (cc := cX12_passRow) (maxL := 4) (ret := none) (own := RX12) rfl (by decide) rfl (Nat.le_of_ble_eq_true rfl) ?_
  intro xp xe xs xm xa xb xt xc xA ls S hK hA Z hre hlk hl
  have hl : lv_has ls 4 [(0, .ref (G.2.2 71)), (1, .ref (G.2.2 72)), (2, .int 12)] := hl
  refine lv_iconst (v := 0) S.1 S.2.1 dX12_passRow_0 (by decide) ?_
  refine lv_istore_n (lv' := [(3, .int 0), (0, .ref (G.2.2 71)), (1, .ref (G.2.2 72)), (2, .int 12)]) S.1 S.2.1 dX12_passRow_1 rfl hl (by decide) rfl (fun ls hl => ?_)
  have Z := uZ_eq (show uPM (uKp M po K) w = (uPM (uKp M (po + 0) (kW K po (w 1) 0)) w) from by rw [kW_0, Nat.add_zero]) Z
  have LP2 : ∀ (fU : Nat) (t : Nat), (12 < t + fU) → (t ≤ 12) → ∀ (H : Heap) (locs : List Loc) (ls : Array Slot), uZ G xA (uPM (uKp M (po + t) (kW K po (w 1) t)) w) xs.heap H locs → lv_has ls 4 [(3, .int (nI t)), (0, .ref (G.2.2 71)), (1, .ref (G.2.2 72)), (2, .int 12)] → W xp l xe (uRm 1 22) xs xm xa xb xt xc H locs 0 0 (MQ xb (va_Qv (fun M2 => M2 = uPM (uKp M (po + 12) (kW K po (w 1) 12)) w) (fun M' t => uB G M' t) xA) xa xs 0 0 xA) (F0 xm 2 ls []) := by
    intro fU
    induction fU with
    | zero =>
      intro t hfl i1 H locs ls Z hl
      exfalso
      omega
    | succ fU ih2 =>
      intro t hfl i1 H locs ls Z hl
      refine lv_iload_n S.1 S.2.1 dX12_passRow_2 rfl (lv_at hl 0 rfl) ?_
      refine lv_iload_n S.1 S.2.1 dX12_passRow_3 rfl (lv_at hl 3 rfl) ?_
      refine lv_icmp_ge (tgt := 23) S.1 S.2.1 dX12_passRow_4 (by decide) (fun c_1 => ?_) (fun c_1 => ?_)
      · skip
        have c_1 : 12 ≤ t := (nI_leI (a := 12) (b := t) (by omega) (by omega)).mp c_1
        refine uret_v S hK Z hre hlk dX12_passRow_23 ?_
        rw [show t = 12 from by omega]
      · skip
        have c_1 : ¬ 12 ≤ t := fun z9 => c_1 ((nI_leI (a := 12) (b := t) (by omega) (by omega)).mpr z9)
        refine lv_aload_n S.1 S.2.1 dX12_passRow_7 rfl (lv_at hl 2 rfl) ?_
        refine lv_iload_n S.1 S.2.1 dX12_passRow_8 rfl (lv_at hl 0 rfl) ?_
        refine lv_aload_n S.1 S.2.1 dX12_passRow_9 rfl (lv_at hl 1 rfl) ?_
        refine lv_aload_n S.1 S.2.1 dX12_passRow_10 rfl (lv_at hl 2 rfl) ?_
        refine lv_iload_n S.1 S.2.1 dX12_passRow_11 rfl (lv_at hl 0 rfl) ?_
        refine ua_ild S hK Z t (by decide) rfl rfl (by omega) dX12_passRow_12 ?_
        refine utop (y := (nI (w 1 t))) (uPM_r (uKp M (po + t) (kW K po (w 1) t)) w t (j := 1) (by decide)) ?_
        refine ud_Vi (As := [.int (nI (w 1 t))]) (rest := [.int (nI t), .ref (G.2.2 72)]) S hK hA Z (c_X12_passW l G (w 1 t) M (po + t) (kW K po (w 1) t) w h37 (by omega)) (cwV 1 S.2.2.2.2 gX12_passRow_X12_pass rfl rfl rfl (by decide +kernel) ⟨Nat.le_of_ble_eq_true rfl, Nat.le_of_ble_eq_true rfl⟩) (by decide) rfl rfl rfl hl.1 rfl (Nat.le_of_ble_eq_true rfl) dX12_passRow_13 ⟨Nat.zero_le _, Nat.zero_le _⟩ (fun H locs Z => ?_)
        refine ua_ist S hK Z t (by decide) rfl rfl (by omega) dX12_passRow_16 (fun H locs Z => ?_)
        have Z := uZ_eq (uPM_sr (uKp M (po + t + 1) (fu (kW K po (w 1) t) (po + t) (w 1 t))) w t (w 1 t) (j := 1) (by decide)) Z
        refine lv_iinc (v := (nI (t + 1))) (lv' := [(3, .int (nI (t + 1))), (0, .ref (G.2.2 71)), (1, .ref (G.2.2 72)), (2, .int 12)]) S.1 S.2.1 dX12_passRow_17 hl (k := 0) rfl (u_inc1 t) (by decide) rfl (fun ls hl => ?_)
        refine lv_goto (tgt := 2) S.1 S.2.1 dX12_passRow_20 (by decide) ?_
        have Z := uZ_eq (show _ = uPM (uKp M (po + (t + 1)) (kW K po (w 1) (t + 1))) w from by rw [wu_id, kW_s, Nat.add_assoc]) Z
        exact ih2 (t + 1) (by omega) (by omega) _ _ _ Z (lv_sub hl [0, 1, 2, 3] rfl)
  exact LP2 13 0 (by omega) (by omega) _ _ _ Z (lv_sub hl [0, 1, 2, 3] rfl)
set_option maxHeartbeats 4000000 in
set_option maxRecDepth 100000 in
theorem c_X12_passRowW73 (l : Launch) (G : uG) (M : uM) (po : Nat) (K : Nat → Nat) (w : Nat → Nat → Nat) (h37 : M.1 71 37 = 1) (hpo : po + 12 ≤ 180) : CTv l G yX12_passRow wsX12_passRow 1 22 [.ref (G.2.2 71), .ref (G.2.2 73), .int 12] (uPM (uKp M po K) w) (fun M2 => M2 = uPM (uKp M (po + 12) (kW K po (w 2) 12)) w) := by
  refine ustart_v (cc := cX12_passRow) (maxL := 4) (ret := none) (own := RX12) rfl (by decide) rfl (Nat.le_of_ble_eq_true rfl) ?_
  intro xp xe xs xm xa xb xt xc xA ls S hK hA Z hre hlk hl
  have hl : lv_has ls 4 [(0, .ref (G.2.2 71)), (1, .ref (G.2.2 73)), (2, .int 12)] := hl
  refine lv_iconst (v := 0) S.1 S.2.1 dX12_passRow_0 (by decide) ?_
  refine lv_istore_n (lv' := [(3, .int 0), (0, .ref (G.2.2 71)), (1, .ref (G.2.2 73)), (2, .int 12)]) S.1 S.2.1 dX12_passRow_1 rfl hl (by decide) rfl (fun ls hl => ?_)
  have Z := uZ_eq (show uPM (uKp M po K) w = (uPM (uKp M (po + 0) (kW K po (w 2) 0)) w) from by rw [kW_0, Nat.add_zero]) Z
  have LP2 : ∀ (fU : Nat) (t : Nat), (12 < t + fU) → (t ≤ 12) → ∀ (H : Heap) (locs : List Loc) (ls : Array Slot), uZ G xA (uPM (uKp M (po + t) (kW K po (w 2) t)) w) xs.heap H locs → lv_has ls 4 [(3, .int (nI t)), (0, .ref (G.2.2 71)), (1, .ref (G.2.2 73)), (2, .int 12)] → W xp l xe (uRm 1 22) xs xm xa xb xt xc H locs 0 0 (MQ xb (va_Qv (fun M2 => M2 = uPM (uKp M (po + 12) (kW K po (w 2) 12)) w) (fun M' t => uB G M' t) xA) xa xs 0 0 xA) (F0 xm 2 ls []) := by
    intro fU
    induction fU with
    | zero =>
      intro t hfl i1 H locs ls Z hl
      exfalso
      omega
    | succ fU ih2 =>
      intro t hfl i1 H locs ls Z hl
      refine lv_iload_n S.1 S.2.1 dX12_passRow_2 rfl (lv_at hl 0 rfl) ?_
      refine lv_iload_n S.1 S.2.1 dX12_passRow_3 rfl (lv_at hl 3 rfl) ?_
      refine lv_icmp_ge (tgt := 23) S.1 S.2.1 dX12_passRow_4 (by decide) (fun c_1 => ?_) (fun c_1 => ?_)
      · skip
        have c_1 : 12 ≤ t := (nI_leI (a := 12) (b := t) (by omega) (by omega)).mp c_1
        refine uret_v S hK Z hre hlk dX12_passRow_23 ?_
        rw [show t = 12 from by omega]
      · skip
        have c_1 : ¬ 12 ≤ t := fun z9 => c_1 ((nI_leI (a := 12) (b := t) (by omega) (by omega)).mpr z9)
        refine lv_aload_n S.1 S.2.1 dX12_passRow_7 rfl (lv_at hl 2 rfl) ?_
        refine lv_iload_n S.1 S.2.1 dX12_passRow_8 rfl (lv_at hl 0 rfl) ?_
        refine lv_aload_n S.1 S.2.1 dX12_passRow_9 rfl (lv_at hl 1 rfl) ?_
        refine lv_aload_n S.1 S.2.1 dX12_passRow_10 rfl (lv_at hl 2 rfl) ?_
        refine lv_iload_n S.1 S.2.1 dX12_passRow_11 rfl (lv_at hl 0 rfl) ?_
        refine ua_ild S hK Z t (by decide) rfl rfl (by omega) dX12_passRow_12 ?_
        refine utop (y := (nI (w 2 t))) (uPM_r (uKp M (po + t) (kW K po (w 2) t)) w t (j := 2) (by decide)) ?_
        refine ud_Vi (As := [.int (nI (w 2 t))]) (rest := [.int (nI t), .ref (G.2.2 73)]) S hK hA Z (c_X12_passW l G (w 2 t) M (po + t) (kW K po (w 2) t) w h37 (by omega)) (cwV 1 S.2.2.2.2 gX12_passRow_X12_pass rfl rfl rfl (by decide +kernel) ⟨Nat.le_of_ble_eq_true rfl, Nat.le_of_ble_eq_true rfl⟩) (by decide) rfl rfl rfl hl.1 rfl (Nat.le_of_ble_eq_true rfl) dX12_passRow_13 ⟨Nat.zero_le _, Nat.zero_le _⟩ (fun H locs Z => ?_)
        refine ua_ist S hK Z t (by decide) rfl rfl (by omega) dX12_passRow_16 (fun H locs Z => ?_)
        have Z := uZ_eq (uPM_sr (uKp M (po + t + 1) (fu (kW K po (w 2) t) (po + t) (w 2 t))) w t (w 2 t) (j := 2) (by decide)) Z
        refine lv_iinc (v := (nI (t + 1))) (lv' := [(3, .int (nI (t + 1))), (0, .ref (G.2.2 71)), (1, .ref (G.2.2 73)), (2, .int 12)]) S.1 S.2.1 dX12_passRow_17 hl (k := 0) rfl (u_inc1 t) (by decide) rfl (fun ls hl => ?_)
        refine lv_goto (tgt := 2) S.1 S.2.1 dX12_passRow_20 (by decide) ?_
        have Z := uZ_eq (show _ = uPM (uKp M (po + (t + 1)) (kW K po (w 2) (t + 1))) w from by rw [wu_id, kW_s, Nat.add_assoc]) Z
        exact ih2 (t + 1) (by omega) (by omega) _ _ _ Z (lv_sub hl [0, 1, 2, 3] rfl)
  exact LP2 13 0 (by omega) (by omega) _ _ _ Z (lv_sub hl [0, 1, 2, 3] rfl)
set_option maxHeartbeats 4000000 in
set_option maxRecDepth 100000 in
theorem c_X12_passRowW74 (l : Launch) (G : uG) (M : uM) (po : Nat) (K : Nat → Nat) (w : Nat → Nat → Nat) (h37 : M.1 71 37 = 1) (hpo : po + 12 ≤ 180) : CTv l G yX12_passRow wsX12_passRow 1 22 [.ref (G.2.2 71), .ref (G.2.2 74), .int 12] (uPM (uKp M po K) w) (fun M2 => M2 = uPM (uKp M (po + 12) (kW K po (w 3) 12)) w) := by
  refine ustart_v (cc := cX12_passRow) (maxL := 4) (ret := none) (own := RX12) rfl (by decide) rfl (Nat.le_of_ble_eq_true rfl) ?_
  intro xp xe xs xm xa xb xt xc xA ls S hK hA Z hre hlk hl
  have hl : lv_has ls 4 [(0, .ref (G.2.2 71)), (1, .ref (G.2.2 74)), (2, .int 12)] := hl
  refine lv_iconst (v := 0) S.1 S.2.1 dX12_passRow_0 (by decide) ?_
  refine lv_istore_n (lv' := [(3, .int 0), (0, .ref (G.2.2 71)), (1, .ref (G.2.2 74)), (2, .int 12)]) S.1 S.2.1 dX12_passRow_1 rfl hl (by decide) rfl (fun ls hl => ?_)
  have Z := uZ_eq (show uPM (uKp M po K) w = (uPM (uKp M (po + 0) (kW K po (w 3) 0)) w) from by rw [kW_0, Nat.add_zero]) Z
  have LP2 : ∀ (fU : Nat) (t : Nat), (12 < t + fU) → (t ≤ 12) → ∀ (H : Heap) (locs : List Loc) (ls : Array Slot), uZ G xA (uPM (uKp M (po + t) (kW K po (w 3) t)) w) xs.heap H locs → lv_has ls 4 [(3, .int (nI t)), (0, .ref (G.2.2 71)), (1, .ref (G.2.2 74)), (2, .int 12)] → W xp l xe (uRm 1 22) xs xm xa xb xt xc H locs 0 0 (MQ xb (va_Qv (fun M2 => M2 = uPM (uKp M (po + 12) (kW K po (w 3) 12)) w) (fun M' t => uB G M' t) xA) xa xs 0 0 xA) (F0 xm 2 ls []) := by
    intro fU
    induction fU with
    | zero =>
      intro t hfl i1 H locs ls Z hl
      exfalso
      omega
    | succ fU ih2 =>
      intro t hfl i1 H locs ls Z hl
      refine lv_iload_n S.1 S.2.1 dX12_passRow_2 rfl (lv_at hl 0 rfl) ?_
      refine lv_iload_n S.1 S.2.1 dX12_passRow_3 rfl (lv_at hl 3 rfl) ?_
      refine lv_icmp_ge (tgt := 23) S.1 S.2.1 dX12_passRow_4 (by decide) (fun c_1 => ?_) (fun c_1 => ?_)
      · skip
        have c_1 : 12 ≤ t := (nI_leI (a := 12) (b := t) (by omega) (by omega)).mp c_1
        refine uret_v S hK Z hre hlk dX12_passRow_23 ?_
        rw [show t = 12 from by omega]
      · skip
        have c_1 : ¬ 12 ≤ t := fun z9 => c_1 ((nI_leI (a := 12) (b := t) (by omega) (by omega)).mpr z9)
        refine lv_aload_n S.1 S.2.1 dX12_passRow_7 rfl (lv_at hl 2 rfl) ?_
        refine lv_iload_n S.1 S.2.1 dX12_passRow_8 rfl (lv_at hl 0 rfl) ?_
        refine lv_aload_n S.1 S.2.1 dX12_passRow_9 rfl (lv_at hl 1 rfl) ?_
        refine lv_aload_n S.1 S.2.1 dX12_passRow_10 rfl (lv_at hl 2 rfl) ?_
        refine lv_iload_n S.1 S.2.1 dX12_passRow_11 rfl (lv_at hl 0 rfl) ?_
        refine ua_ild S hK Z t (by decide) rfl rfl (by omega) dX12_passRow_12 ?_
        refine utop (y := (nI (w 3 t))) (uPM_r (uKp M (po + t) (kW K po (w 3) t)) w t (j := 3) (by decide)) ?_
        refine ud_Vi (As := [.int (nI (w 3 t))]) (rest := [.int (nI t), .ref (G.2.2 74)]) S hK hA Z (c_X12_passW l G (w 3 t) M (po + t) (kW K po (w 3) t) w h37 (by omega)) (cwV 1 S.2.2.2.2 gX12_passRow_X12_pass rfl rfl rfl (by decide +kernel) ⟨Nat.le_of_ble_eq_true rfl, Nat.le_of_ble_eq_true rfl⟩) (by decide) rfl rfl rfl hl.1 rfl (Nat.le_of_ble_eq_true rfl) dX12_passRow_13 ⟨Nat.zero_le _, Nat.zero_le _⟩ (fun H locs Z => ?_)
        refine ua_ist S hK Z t (by decide) rfl rfl (by omega) dX12_passRow_16 (fun H locs Z => ?_)
        have Z := uZ_eq (uPM_sr (uKp M (po + t + 1) (fu (kW K po (w 3) t) (po + t) (w 3 t))) w t (w 3 t) (j := 3) (by decide)) Z
        refine lv_iinc (v := (nI (t + 1))) (lv' := [(3, .int (nI (t + 1))), (0, .ref (G.2.2 71)), (1, .ref (G.2.2 74)), (2, .int 12)]) S.1 S.2.1 dX12_passRow_17 hl (k := 0) rfl (u_inc1 t) (by decide) rfl (fun ls hl => ?_)
        refine lv_goto (tgt := 2) S.1 S.2.1 dX12_passRow_20 (by decide) ?_
        have Z := uZ_eq (show _ = uPM (uKp M (po + (t + 1)) (kW K po (w 3) (t + 1))) w from by rw [wu_id, kW_s, Nat.add_assoc]) Z
        exact ih2 (t + 1) (by omega) (by omega) _ _ _ Z (lv_sub hl [0, 1, 2, 3] rfl)
  exact LP2 13 0 (by omega) (by omega) _ _ _ Z (lv_sub hl [0, 1, 2, 3] rfl)
set_option maxHeartbeats 4000000 in
set_option maxRecDepth 100000 in
theorem c_X12_passRowW75 (l : Launch) (G : uG) (M : uM) (po : Nat) (K : Nat → Nat) (w : Nat → Nat → Nat) (h37 : M.1 71 37 = 1) (hpo : po + 12 ≤ 180) : CTv l G yX12_passRow wsX12_passRow 1 22 [.ref (G.2.2 71), .ref (G.2.2 75), .int 12] (uPM (uKp M po K) w) (fun M2 => M2 = uPM (uKp M (po + 12) (kW K po (w 4) 12)) w) := by
  refine ustart_v (cc := cX12_passRow) (maxL := 4) (ret := none) (own := RX12) rfl (by decide) rfl (Nat.le_of_ble_eq_true rfl) ?_
  intro xp xe xs xm xa xb xt xc xA ls S hK hA Z hre hlk hl
  have hl : lv_has ls 4 [(0, .ref (G.2.2 71)), (1, .ref (G.2.2 75)), (2, .int 12)] := hl
  refine lv_iconst (v := 0) S.1 S.2.1 dX12_passRow_0 (by decide) ?_
  refine lv_istore_n (lv' := [(3, .int 0), (0, .ref (G.2.2 71)), (1, .ref (G.2.2 75)), (2, .int 12)]) S.1 S.2.1 dX12_passRow_1 rfl hl (by decide) rfl (fun ls hl => ?_)
  have Z := uZ_eq (show uPM (uKp M po K) w = (uPM (uKp M (po + 0) (kW K po (w 4) 0)) w) from by rw [kW_0, Nat.add_zero]) Z
  have LP2 : ∀ (fU : Nat) (t : Nat), (12 < t + fU) → (t ≤ 12) → ∀ (H : Heap) (locs : List Loc) (ls : Array Slot), uZ G xA (uPM (uKp M (po + t) (kW K po (w 4) t)) w) xs.heap H locs → lv_has ls 4 [(3, .int (nI t)), (0, .ref (G.2.2 71)), (1, .ref (G.2.2 75)), (2, .int 12)] → W xp l xe (uRm 1 22) xs xm xa xb xt xc H locs 0 0 (MQ xb (va_Qv (fun M2 => M2 = uPM (uKp M (po + 12) (kW K po (w 4) 12)) w) (fun M' t => uB G M' t) xA) xa xs 0 0 xA) (F0 xm 2 ls []) := by
    intro fU
    induction fU with
    | zero =>
      intro t hfl i1 H locs ls Z hl
      exfalso
      omega
    | succ fU ih2 =>
      intro t hfl i1 H locs ls Z hl
      refine lv_iload_n S.1 S.2.1 dX12_passRow_2 rfl (lv_at hl 0 rfl) ?_
      refine lv_iload_n S.1 S.2.1 dX12_passRow_3 rfl (lv_at hl 3 rfl) ?_
      refine lv_icmp_ge (tgt := 23) S.1 S.2.1 dX12_passRow_4 (by decide) (fun c_1 => ?_) (fun c_1 => ?_)
      · skip
        have c_1 : 12 ≤ t := (nI_leI (a := 12) (b := t) (by omega) (by omega)).mp c_1
        refine uret_v S hK Z hre hlk dX12_passRow_23 ?_
        rw [show t = 12 from by omega]
      · skip
        have c_1 : ¬ 12 ≤ t := fun z9 => c_1 ((nI_leI (a := 12) (b := t) (by omega) (by omega)).mpr z9)
        refine lv_aload_n S.1 S.2.1 dX12_passRow_7 rfl (lv_at hl 2 rfl) ?_
        refine lv_iload_n S.1 S.2.1 dX12_passRow_8 rfl (lv_at hl 0 rfl) ?_
        refine lv_aload_n S.1 S.2.1 dX12_passRow_9 rfl (lv_at hl 1 rfl) ?_
        refine lv_aload_n S.1 S.2.1 dX12_passRow_10 rfl (lv_at hl 2 rfl) ?_
        refine lv_iload_n S.1 S.2.1 dX12_passRow_11 rfl (lv_at hl 0 rfl) ?_
        refine ua_ild S hK Z t (by decide) rfl rfl (by omega) dX12_passRow_12 ?_
        refine utop (y := (nI (w 4 t))) (uPM_r (uKp M (po + t) (kW K po (w 4) t)) w t (j := 4) (by decide)) ?_
        refine ud_Vi (As := [.int (nI (w 4 t))]) (rest := [.int (nI t), .ref (G.2.2 75)]) S hK hA Z (c_X12_passW l G (w 4 t) M (po + t) (kW K po (w 4) t) w h37 (by omega)) (cwV 1 S.2.2.2.2 gX12_passRow_X12_pass rfl rfl rfl (by decide +kernel) ⟨Nat.le_of_ble_eq_true rfl, Nat.le_of_ble_eq_true rfl⟩) (by decide) rfl rfl rfl hl.1 rfl (Nat.le_of_ble_eq_true rfl) dX12_passRow_13 ⟨Nat.zero_le _, Nat.zero_le _⟩ (fun H locs Z => ?_)
        refine ua_ist S hK Z t (by decide) rfl rfl (by omega) dX12_passRow_16 (fun H locs Z => ?_)
        have Z := uZ_eq (uPM_sr (uKp M (po + t + 1) (fu (kW K po (w 4) t) (po + t) (w 4 t))) w t (w 4 t) (j := 4) (by decide)) Z
        refine lv_iinc (v := (nI (t + 1))) (lv' := [(3, .int (nI (t + 1))), (0, .ref (G.2.2 71)), (1, .ref (G.2.2 75)), (2, .int 12)]) S.1 S.2.1 dX12_passRow_17 hl (k := 0) rfl (u_inc1 t) (by decide) rfl (fun ls hl => ?_)
        refine lv_goto (tgt := 2) S.1 S.2.1 dX12_passRow_20 (by decide) ?_
        have Z := uZ_eq (show _ = uPM (uKp M (po + (t + 1)) (kW K po (w 4) (t + 1))) w from by rw [wu_id, kW_s, Nat.add_assoc]) Z
        exact ih2 (t + 1) (by omega) (by omega) _ _ _ Z (lv_sub hl [0, 1, 2, 3] rfl)
  exact LP2 13 0 (by omega) (by omega) _ _ _ Z (lv_sub hl [0, 1, 2, 3] rfl)
set_option maxHeartbeats 4000000 in
set_option maxRecDepth 100000 in
theorem c_X12_passRowW76 (l : Launch) (G : uG) (M : uM) (po : Nat) (K : Nat → Nat) (w : Nat → Nat → Nat) (h37 : M.1 71 37 = 1) (hpo : po + 8 ≤ 180) : CTv l G yX12_passRow wsX12_passRow 1 22 [.ref (G.2.2 71), .ref (G.2.2 76), .int 8] (uPM (uKp M po K) w) (fun M2 => M2 = uPM (uKp M (po + 8) (kW K po (w 5) 8)) w) := by
  refine ustart_v (cc := cX12_passRow) (maxL := 4) (ret := none) (own := RX12) rfl (by decide) rfl (Nat.le_of_ble_eq_true rfl) ?_
  intro xp xe xs xm xa xb xt xc xA ls S hK hA Z hre hlk hl
  have hl : lv_has ls 4 [(0, .ref (G.2.2 71)), (1, .ref (G.2.2 76)), (2, .int 8)] := hl
  refine lv_iconst (v := 0) S.1 S.2.1 dX12_passRow_0 (by decide) ?_
  refine lv_istore_n (lv' := [(3, .int 0), (0, .ref (G.2.2 71)), (1, .ref (G.2.2 76)), (2, .int 8)]) S.1 S.2.1 dX12_passRow_1 rfl hl (by decide) rfl (fun ls hl => ?_)
  have Z := uZ_eq (show uPM (uKp M po K) w = (uPM (uKp M (po + 0) (kW K po (w 5) 0)) w) from by rw [kW_0, Nat.add_zero]) Z
  have LP2 : ∀ (fU : Nat) (t : Nat), (8 < t + fU) → (t ≤ 8) → ∀ (H : Heap) (locs : List Loc) (ls : Array Slot), uZ G xA (uPM (uKp M (po + t) (kW K po (w 5) t)) w) xs.heap H locs → lv_has ls 4 [(3, .int (nI t)), (0, .ref (G.2.2 71)), (1, .ref (G.2.2 76)), (2, .int 8)] → W xp l xe (uRm 1 22) xs xm xa xb xt xc H locs 0 0 (MQ xb (va_Qv (fun M2 => M2 = uPM (uKp M (po + 8) (kW K po (w 5) 8)) w) (fun M' t => uB G M' t) xA) xa xs 0 0 xA) (F0 xm 2 ls []) := by
    intro fU
    induction fU with
    | zero =>
      intro t hfl i1 H locs ls Z hl
      exfalso
      omega
    | succ fU ih2 =>
      intro t hfl i1 H locs ls Z hl
      refine lv_iload_n S.1 S.2.1 dX12_passRow_2 rfl (lv_at hl 0 rfl) ?_
      refine lv_iload_n S.1 S.2.1 dX12_passRow_3 rfl (lv_at hl 3 rfl) ?_
      refine lv_icmp_ge (tgt := 23) S.1 S.2.1 dX12_passRow_4 (by decide) (fun c_1 => ?_) (fun c_1 => ?_)
      · skip
        have c_1 : 8 ≤ t := (nI_leI (a := 8) (b := t) (by omega) (by omega)).mp c_1
        refine uret_v S hK Z hre hlk dX12_passRow_23 ?_
        rw [show t = 8 from by omega]
      · skip
        have c_1 : ¬ 8 ≤ t := fun z9 => c_1 ((nI_leI (a := 8) (b := t) (by omega) (by omega)).mpr z9)
        refine lv_aload_n S.1 S.2.1 dX12_passRow_7 rfl (lv_at hl 2 rfl) ?_
        refine lv_iload_n S.1 S.2.1 dX12_passRow_8 rfl (lv_at hl 0 rfl) ?_
        refine lv_aload_n S.1 S.2.1 dX12_passRow_9 rfl (lv_at hl 1 rfl) ?_
        refine lv_aload_n S.1 S.2.1 dX12_passRow_10 rfl (lv_at hl 2 rfl) ?_
        refine lv_iload_n S.1 S.2.1 dX12_passRow_11 rfl (lv_at hl 0 rfl) ?_
        refine ua_ild S hK Z t (by decide) rfl rfl (by omega) dX12_passRow_12 ?_
        refine utop (y := (nI (w 5 t))) (uPM_r (uKp M (po + t) (kW K po (w 5) t)) w t (j := 5) (by decide)) ?_
        refine ud_Vi (As := [.int (nI (w 5 t))]) (rest := [.int (nI t), .ref (G.2.2 76)]) S hK hA Z (c_X12_passW l G (w 5 t) M (po + t) (kW K po (w 5) t) w h37 (by omega)) (cwV 1 S.2.2.2.2 gX12_passRow_X12_pass rfl rfl rfl (by decide +kernel) ⟨Nat.le_of_ble_eq_true rfl, Nat.le_of_ble_eq_true rfl⟩) (by decide) rfl rfl rfl hl.1 rfl (Nat.le_of_ble_eq_true rfl) dX12_passRow_13 ⟨Nat.zero_le _, Nat.zero_le _⟩ (fun H locs Z => ?_)
        refine ua_ist S hK Z t (by decide) rfl rfl (by omega) dX12_passRow_16 (fun H locs Z => ?_)
        have Z := uZ_eq (uPM_sr (uKp M (po + t + 1) (fu (kW K po (w 5) t) (po + t) (w 5 t))) w t (w 5 t) (j := 5) (by decide)) Z
        refine lv_iinc (v := (nI (t + 1))) (lv' := [(3, .int (nI (t + 1))), (0, .ref (G.2.2 71)), (1, .ref (G.2.2 76)), (2, .int 8)]) S.1 S.2.1 dX12_passRow_17 hl (k := 0) rfl (u_inc1 t) (by decide) rfl (fun ls hl => ?_)
        refine lv_goto (tgt := 2) S.1 S.2.1 dX12_passRow_20 (by decide) ?_
        have Z := uZ_eq (show _ = uPM (uKp M (po + (t + 1)) (kW K po (w 5) (t + 1))) w from by rw [wu_id, kW_s, Nat.add_assoc]) Z
        exact ih2 (t + 1) (by omega) (by omega) _ _ _ Z (lv_sub hl [0, 1, 2, 3] rfl)
  exact LP2 9 0 (by omega) (by omega) _ _ _ Z (lv_sub hl [0, 1, 2, 3] rfl)
set_option maxHeartbeats 4000000 in
set_option maxRecDepth 100000 in
theorem c_X12_passRowW77 (l : Launch) (G : uG) (M : uM) (po : Nat) (K : Nat → Nat) (w : Nat → Nat → Nat) (h37 : M.1 71 37 = 1) (hpo : po + 8 ≤ 180) : CTv l G yX12_passRow wsX12_passRow 1 22 [.ref (G.2.2 71), .ref (G.2.2 77), .int 8] (uPM (uKp M po K) w) (fun M2 => M2 = uPM (uKp M (po + 8) (kW K po (w 6) 8)) w) := by
  refine ustart_v (cc := cX12_passRow) (maxL := 4) (ret := none) (own := RX12) rfl (by decide) rfl (Nat.le_of_ble_eq_true rfl) ?_
  intro xp xe xs xm xa xb xt xc xA ls S hK hA Z hre hlk hl
  have hl : lv_has ls 4 [(0, .ref (G.2.2 71)), (1, .ref (G.2.2 77)), (2, .int 8)] := hl
  refine lv_iconst (v := 0) S.1 S.2.1 dX12_passRow_0 (by decide) ?_
  refine lv_istore_n (lv' := [(3, .int 0), (0, .ref (G.2.2 71)), (1, .ref (G.2.2 77)), (2, .int 8)]) S.1 S.2.1 dX12_passRow_1 rfl hl (by decide) rfl (fun ls hl => ?_)
  have Z := uZ_eq (show uPM (uKp M po K) w = (uPM (uKp M (po + 0) (kW K po (w 6) 0)) w) from by rw [kW_0, Nat.add_zero]) Z
  have LP2 : ∀ (fU : Nat) (t : Nat), (8 < t + fU) → (t ≤ 8) → ∀ (H : Heap) (locs : List Loc) (ls : Array Slot), uZ G xA (uPM (uKp M (po + t) (kW K po (w 6) t)) w) xs.heap H locs → lv_has ls 4 [(3, .int (nI t)), (0, .ref (G.2.2 71)), (1, .ref (G.2.2 77)), (2, .int 8)] → W xp l xe (uRm 1 22) xs xm xa xb xt xc H locs 0 0 (MQ xb (va_Qv (fun M2 => M2 = uPM (uKp M (po + 8) (kW K po (w 6) 8)) w) (fun M' t => uB G M' t) xA) xa xs 0 0 xA) (F0 xm 2 ls []) := by
    intro fU
    induction fU with
    | zero =>
      intro t hfl i1 H locs ls Z hl
      exfalso
      omega
    | succ fU ih2 =>
      intro t hfl i1 H locs ls Z hl
      refine lv_iload_n S.1 S.2.1 dX12_passRow_2 rfl (lv_at hl 0 rfl) ?_
      refine lv_iload_n S.1 S.2.1 dX12_passRow_3 rfl (lv_at hl 3 rfl) ?_
      refine lv_icmp_ge (tgt := 23) S.1 S.2.1 dX12_passRow_4 (by decide) (fun c_1 => ?_) (fun c_1 => ?_)
      · skip
        have c_1 : 8 ≤ t := (nI_leI (a := 8) (b := t) (by omega) (by omega)).mp c_1
        refine uret_v S hK Z hre hlk dX12_passRow_23 ?_
        rw [show t = 8 from by omega]
      · skip
        have c_1 : ¬ 8 ≤ t := fun z9 => c_1 ((nI_leI (a := 8) (b := t) (by omega) (by omega)).mpr z9)
        refine lv_aload_n S.1 S.2.1 dX12_passRow_7 rfl (lv_at hl 2 rfl) ?_
        refine lv_iload_n S.1 S.2.1 dX12_passRow_8 rfl (lv_at hl 0 rfl) ?_
        refine lv_aload_n S.1 S.2.1 dX12_passRow_9 rfl (lv_at hl 1 rfl) ?_
        refine lv_aload_n S.1 S.2.1 dX12_passRow_10 rfl (lv_at hl 2 rfl) ?_
        refine lv_iload_n S.1 S.2.1 dX12_passRow_11 rfl (lv_at hl 0 rfl) ?_
        refine ua_ild S hK Z t (by decide) rfl rfl (by omega) dX12_passRow_12 ?_
        refine utop (y := (nI (w 6 t))) (uPM_r (uKp M (po + t) (kW K po (w 6) t)) w t (j := 6) (by decide)) ?_
        refine ud_Vi (As := [.int (nI (w 6 t))]) (rest := [.int (nI t), .ref (G.2.2 77)]) S hK hA Z (c_X12_passW l G (w 6 t) M (po + t) (kW K po (w 6) t) w h37 (by omega)) (cwV 1 S.2.2.2.2 gX12_passRow_X12_pass rfl rfl rfl (by decide +kernel) ⟨Nat.le_of_ble_eq_true rfl, Nat.le_of_ble_eq_true rfl⟩) (by decide) rfl rfl rfl hl.1 rfl (Nat.le_of_ble_eq_true rfl) dX12_passRow_13 ⟨Nat.zero_le _, Nat.zero_le _⟩ (fun H locs Z => ?_)
        refine ua_ist S hK Z t (by decide) rfl rfl (by omega) dX12_passRow_16 (fun H locs Z => ?_)
        have Z := uZ_eq (uPM_sr (uKp M (po + t + 1) (fu (kW K po (w 6) t) (po + t) (w 6 t))) w t (w 6 t) (j := 6) (by decide)) Z
        refine lv_iinc (v := (nI (t + 1))) (lv' := [(3, .int (nI (t + 1))), (0, .ref (G.2.2 71)), (1, .ref (G.2.2 77)), (2, .int 8)]) S.1 S.2.1 dX12_passRow_17 hl (k := 0) rfl (u_inc1 t) (by decide) rfl (fun ls hl => ?_)
        refine lv_goto (tgt := 2) S.1 S.2.1 dX12_passRow_20 (by decide) ?_
        have Z := uZ_eq (show _ = uPM (uKp M (po + (t + 1)) (kW K po (w 6) (t + 1))) w from by rw [wu_id, kW_s, Nat.add_assoc]) Z
        exact ih2 (t + 1) (by omega) (by omega) _ _ _ Z (lv_sub hl [0, 1, 2, 3] rfl)
  exact LP2 9 0 (by omega) (by omega) _ _ _ Z (lv_sub hl [0, 1, 2, 3] rfl)
set_option maxHeartbeats 4000000 in
set_option maxRecDepth 100000 in
theorem c_X12_passRowW78 (l : Launch) (G : uG) (M : uM) (po : Nat) (K : Nat → Nat) (w : Nat → Nat → Nat) (h37 : M.1 71 37 = 1) (hpo : po + 8 ≤ 180) : CTv l G yX12_passRow wsX12_passRow 1 22 [.ref (G.2.2 71), .ref (G.2.2 78), .int 8] (uPM (uKp M po K) w) (fun M2 => M2 = uPM (uKp M (po + 8) (kW K po (w 8) 8)) w) := by
  refine ustart_v (cc := cX12_passRow) (maxL := 4) (ret := none) (own := RX12) rfl (by decide) rfl (Nat.le_of_ble_eq_true rfl) ?_
  intro xp xe xs xm xa xb xt xc xA ls S hK hA Z hre hlk hl
  have hl : lv_has ls 4 [(0, .ref (G.2.2 71)), (1, .ref (G.2.2 78)), (2, .int 8)] := hl
  refine lv_iconst (v := 0) S.1 S.2.1 dX12_passRow_0 (by decide) ?_
  refine lv_istore_n (lv' := [(3, .int 0), (0, .ref (G.2.2 71)), (1, .ref (G.2.2 78)), (2, .int 8)]) S.1 S.2.1 dX12_passRow_1 rfl hl (by decide) rfl (fun ls hl => ?_)
  have Z := uZ_eq (show uPM (uKp M po K) w = (uPM (uKp M (po + 0) (kW K po (w 8) 0)) w) from by rw [kW_0, Nat.add_zero]) Z
  have LP2 : ∀ (fU : Nat) (t : Nat), (8 < t + fU) → (t ≤ 8) → ∀ (H : Heap) (locs : List Loc) (ls : Array Slot), uZ G xA (uPM (uKp M (po + t) (kW K po (w 8) t)) w) xs.heap H locs → lv_has ls 4 [(3, .int (nI t)), (0, .ref (G.2.2 71)), (1, .ref (G.2.2 78)), (2, .int 8)] → W xp l xe (uRm 1 22) xs xm xa xb xt xc H locs 0 0 (MQ xb (va_Qv (fun M2 => M2 = uPM (uKp M (po + 8) (kW K po (w 8) 8)) w) (fun M' t => uB G M' t) xA) xa xs 0 0 xA) (F0 xm 2 ls []) := by
    intro fU
    induction fU with
    | zero =>
      intro t hfl i1 H locs ls Z hl
      exfalso
      omega
    | succ fU ih2 =>
      intro t hfl i1 H locs ls Z hl
      refine lv_iload_n S.1 S.2.1 dX12_passRow_2 rfl (lv_at hl 0 rfl) ?_
      refine lv_iload_n S.1 S.2.1 dX12_passRow_3 rfl (lv_at hl 3 rfl) ?_
      refine lv_icmp_ge (tgt := 23) S.1 S.2.1 dX12_passRow_4 (by decide) (fun c_1 => ?_) (fun c_1 => ?_)
      · skip
        have c_1 : 8 ≤ t := (nI_leI (a := 8) (b := t) (by omega) (by omega)).mp c_1
        refine uret_v S hK Z hre hlk dX12_passRow_23 ?_
        rw [show t = 8 from by omega]
      · skip
        have c_1 : ¬ 8 ≤ t := fun z9 => c_1 ((nI_leI (a := 8) (b := t) (by omega) (by omega)).mpr z9)
        refine lv_aload_n S.1 S.2.1 dX12_passRow_7 rfl (lv_at hl 2 rfl) ?_
        refine lv_iload_n S.1 S.2.1 dX12_passRow_8 rfl (lv_at hl 0 rfl) ?_
        refine lv_aload_n S.1 S.2.1 dX12_passRow_9 rfl (lv_at hl 1 rfl) ?_
        refine lv_aload_n S.1 S.2.1 dX12_passRow_10 rfl (lv_at hl 2 rfl) ?_
        refine lv_iload_n S.1 S.2.1 dX12_passRow_11 rfl (lv_at hl 0 rfl) ?_
        refine ua_ild S hK Z t (by decide) rfl rfl (by omega) dX12_passRow_12 ?_
        refine utop (y := (nI (w 8 t))) (uPM_q (uKp M (po + t) (kW K po (w 8) t)) w t (j := 8) (by decide)) ?_
        refine ud_Vi (As := [.int (nI (w 8 t))]) (rest := [.int (nI t), .ref (G.2.2 78)]) S hK hA Z (c_X12_passW l G (w 8 t) M (po + t) (kW K po (w 8) t) w h37 (by omega)) (cwV 1 S.2.2.2.2 gX12_passRow_X12_pass rfl rfl rfl (by decide +kernel) ⟨Nat.le_of_ble_eq_true rfl, Nat.le_of_ble_eq_true rfl⟩) (by decide) rfl rfl rfl hl.1 rfl (Nat.le_of_ble_eq_true rfl) dX12_passRow_13 ⟨Nat.zero_le _, Nat.zero_le _⟩ (fun H locs Z => ?_)
        refine ua_ist S hK Z t (by decide) rfl rfl (by omega) dX12_passRow_16 (fun H locs Z => ?_)
        have Z := uZ_eq (uPM_sq (uKp M (po + t + 1) (fu (kW K po (w 8) t) (po + t) (w 8 t))) w t (w 8 t) (j := 8) (by decide)) Z
        refine lv_iinc (v := (nI (t + 1))) (lv' := [(3, .int (nI (t + 1))), (0, .ref (G.2.2 71)), (1, .ref (G.2.2 78)), (2, .int 8)]) S.1 S.2.1 dX12_passRow_17 hl (k := 0) rfl (u_inc1 t) (by decide) rfl (fun ls hl => ?_)
        refine lv_goto (tgt := 2) S.1 S.2.1 dX12_passRow_20 (by decide) ?_
        have Z := uZ_eq (show _ = uPM (uKp M (po + (t + 1)) (kW K po (w 8) (t + 1))) w from by rw [wu_id, kW_s, Nat.add_assoc]) Z
        exact ih2 (t + 1) (by omega) (by omega) _ _ _ Z (lv_sub hl [0, 1, 2, 3] rfl)
  exact LP2 9 0 (by omega) (by omega) _ _ _ Z (lv_sub hl [0, 1, 2, 3] rfl)
set_option maxHeartbeats 4000000 in
set_option maxRecDepth 100000 in
theorem c_X12_passRowW79 (l : Launch) (G : uG) (M : uM) (po : Nat) (K : Nat → Nat) (w : Nat → Nat → Nat) (h37 : M.1 71 37 = 1) (hpo : po + 8 ≤ 180) : CTv l G yX12_passRow wsX12_passRow 1 22 [.ref (G.2.2 71), .ref (G.2.2 79), .int 8] (uPM (uKp M po K) w) (fun M2 => M2 = uPM (uKp M (po + 8) (kW K po (w 9) 8)) w) := by
  refine ustart_v (cc := cX12_passRow) (maxL := 4) (ret := none) (own := RX12) rfl (by decide) rfl (Nat.le_of_ble_eq_true rfl) ?_
  intro xp xe xs xm xa xb xt xc xA ls S hK hA Z hre hlk hl
  have hl : lv_has ls 4 [(0, .ref (G.2.2 71)), (1, .ref (G.2.2 79)), (2, .int 8)] := hl
  refine lv_iconst (v := 0) S.1 S.2.1 dX12_passRow_0 (by decide) ?_
  refine lv_istore_n (lv' := [(3, .int 0), (0, .ref (G.2.2 71)), (1, .ref (G.2.2 79)), (2, .int 8)]) S.1 S.2.1 dX12_passRow_1 rfl hl (by decide) rfl (fun ls hl => ?_)
  have Z := uZ_eq (show uPM (uKp M po K) w = (uPM (uKp M (po + 0) (kW K po (w 9) 0)) w) from by rw [kW_0, Nat.add_zero]) Z
  have LP2 : ∀ (fU : Nat) (t : Nat), (8 < t + fU) → (t ≤ 8) → ∀ (H : Heap) (locs : List Loc) (ls : Array Slot), uZ G xA (uPM (uKp M (po + t) (kW K po (w 9) t)) w) xs.heap H locs → lv_has ls 4 [(3, .int (nI t)), (0, .ref (G.2.2 71)), (1, .ref (G.2.2 79)), (2, .int 8)] → W xp l xe (uRm 1 22) xs xm xa xb xt xc H locs 0 0 (MQ xb (va_Qv (fun M2 => M2 = uPM (uKp M (po + 8) (kW K po (w 9) 8)) w) (fun M' t => uB G M' t) xA) xa xs 0 0 xA) (F0 xm 2 ls []) := by
    intro fU
    induction fU with
    | zero =>
      intro t hfl i1 H locs ls Z hl
      exfalso
      omega
    | succ fU ih2 =>
      intro t hfl i1 H locs ls Z hl
      refine lv_iload_n S.1 S.2.1 dX12_passRow_2 rfl (lv_at hl 0 rfl) ?_
      refine lv_iload_n S.1 S.2.1 dX12_passRow_3 rfl (lv_at hl 3 rfl) ?_
      refine lv_icmp_ge (tgt := 23) S.1 S.2.1 dX12_passRow_4 (by decide) (fun c_1 => ?_) (fun c_1 => ?_)
      · skip
        have c_1 : 8 ≤ t := (nI_leI (a := 8) (b := t) (by omega) (by omega)).mp c_1
        refine uret_v S hK Z hre hlk dX12_passRow_23 ?_
        rw [show t = 8 from by omega]
      · skip
        have c_1 : ¬ 8 ≤ t := fun z9 => c_1 ((nI_leI (a := 8) (b := t) (by omega) (by omega)).mpr z9)
        refine lv_aload_n S.1 S.2.1 dX12_passRow_7 rfl (lv_at hl 2 rfl) ?_
        refine lv_iload_n S.1 S.2.1 dX12_passRow_8 rfl (lv_at hl 0 rfl) ?_
        refine lv_aload_n S.1 S.2.1 dX12_passRow_9 rfl (lv_at hl 1 rfl) ?_
        refine lv_aload_n S.1 S.2.1 dX12_passRow_10 rfl (lv_at hl 2 rfl) ?_
        refine lv_iload_n S.1 S.2.1 dX12_passRow_11 rfl (lv_at hl 0 rfl) ?_
        refine ua_ild S hK Z t (by decide) rfl rfl (by omega) dX12_passRow_12 ?_
        refine utop (y := (nI (w 9 t))) (uPM_q (uKp M (po + t) (kW K po (w 9) t)) w t (j := 9) (by decide)) ?_
        refine ud_Vi (As := [.int (nI (w 9 t))]) (rest := [.int (nI t), .ref (G.2.2 79)]) S hK hA Z (c_X12_passW l G (w 9 t) M (po + t) (kW K po (w 9) t) w h37 (by omega)) (cwV 1 S.2.2.2.2 gX12_passRow_X12_pass rfl rfl rfl (by decide +kernel) ⟨Nat.le_of_ble_eq_true rfl, Nat.le_of_ble_eq_true rfl⟩) (by decide) rfl rfl rfl hl.1 rfl (Nat.le_of_ble_eq_true rfl) dX12_passRow_13 ⟨Nat.zero_le _, Nat.zero_le _⟩ (fun H locs Z => ?_)
        refine ua_ist S hK Z t (by decide) rfl rfl (by omega) dX12_passRow_16 (fun H locs Z => ?_)
        have Z := uZ_eq (uPM_sq (uKp M (po + t + 1) (fu (kW K po (w 9) t) (po + t) (w 9 t))) w t (w 9 t) (j := 9) (by decide)) Z
        refine lv_iinc (v := (nI (t + 1))) (lv' := [(3, .int (nI (t + 1))), (0, .ref (G.2.2 71)), (1, .ref (G.2.2 79)), (2, .int 8)]) S.1 S.2.1 dX12_passRow_17 hl (k := 0) rfl (u_inc1 t) (by decide) rfl (fun ls hl => ?_)
        refine lv_goto (tgt := 2) S.1 S.2.1 dX12_passRow_20 (by decide) ?_
        have Z := uZ_eq (show _ = uPM (uKp M (po + (t + 1)) (kW K po (w 9) (t + 1))) w from by rw [wu_id, kW_s, Nat.add_assoc]) Z
        exact ih2 (t + 1) (by omega) (by omega) _ _ _ Z (lv_sub hl [0, 1, 2, 3] rfl)
  exact LP2 9 0 (by omega) (by omega) _ _ _ Z (lv_sub hl [0, 1, 2, 3] rfl)
set_option maxHeartbeats 4000000 in
set_option maxRecDepth 100000 in
theorem c_X12_passRowR72 (l : Launch) (G : uG) (M : uM) (po : Nat) (K : Nat → Nat) (w : Nat → Nat → Nat) (h37 : M.1 71 37 = 0) (hpo : po + 12 ≤ 180) : CTv l G yX12_passRow wsX12_passRow 1 22 [.ref (G.2.2 71), .ref (G.2.2 72), .int 12] (uPM (uKp M po K) w) (fun M2 => M2 = uPM (uKp M (po + 12) K) (kR w 1 K po 12)) := by
  refine ustart_v (cc := cX12_passRow) (maxL := 4) (ret := none) (own := RX12) rfl (by decide) rfl (Nat.le_of_ble_eq_true rfl) ?_
  intro xp xe xs xm xa xb xt xc xA ls S hK hA Z hre hlk hl
  have hl : lv_has ls 4 [(0, .ref (G.2.2 71)), (1, .ref (G.2.2 72)), (2, .int 12)] := hl
  refine lv_iconst (v := 0) S.1 S.2.1 dX12_passRow_0 (by decide) ?_
  refine lv_istore_n (lv' := [(3, .int 0), (0, .ref (G.2.2 71)), (1, .ref (G.2.2 72)), (2, .int 12)]) S.1 S.2.1 dX12_passRow_1 rfl hl (by decide) rfl (fun ls hl => ?_)
  have Z := uZ_eq (show uPM (uKp M po K) w = (uPM (uKp M (po + 0) K) (kR w 1 K po 0)) from by rw [kR_0, Nat.add_zero]) Z
  have LP2 : ∀ (fU : Nat) (t : Nat), (12 < t + fU) → (t ≤ 12) → ∀ (H : Heap) (locs : List Loc) (ls : Array Slot), uZ G xA (uPM (uKp M (po + t) K) (kR w 1 K po t)) xs.heap H locs → lv_has ls 4 [(3, .int (nI t)), (0, .ref (G.2.2 71)), (1, .ref (G.2.2 72)), (2, .int 12)] → W xp l xe (uRm 1 22) xs xm xa xb xt xc H locs 0 0 (MQ xb (va_Qv (fun M2 => M2 = uPM (uKp M (po + 12) K) (kR w 1 K po 12)) (fun M' t => uB G M' t) xA) xa xs 0 0 xA) (F0 xm 2 ls []) := by
    intro fU
    induction fU with
    | zero =>
      intro t hfl i1 H locs ls Z hl
      exfalso
      omega
    | succ fU ih2 =>
      intro t hfl i1 H locs ls Z hl
      refine lv_iload_n S.1 S.2.1 dX12_passRow_2 rfl (lv_at hl 0 rfl) ?_
      refine lv_iload_n S.1 S.2.1 dX12_passRow_3 rfl (lv_at hl 3 rfl) ?_
      refine lv_icmp_ge (tgt := 23) S.1 S.2.1 dX12_passRow_4 (by decide) (fun c_1 => ?_) (fun c_1 => ?_)
      · skip
        have c_1 : 12 ≤ t := (nI_leI (a := 12) (b := t) (by omega) (by omega)).mp c_1
        refine uret_v S hK Z hre hlk dX12_passRow_23 ?_
        rw [show t = 12 from by omega]
      · skip
        have c_1 : ¬ 12 ≤ t := fun z9 => c_1 ((nI_leI (a := 12) (b := t) (by omega) (by omega)).mpr z9)
        refine lv_aload_n S.1 S.2.1 dX12_passRow_7 rfl (lv_at hl 2 rfl) ?_
        refine lv_iload_n S.1 S.2.1 dX12_passRow_8 rfl (lv_at hl 0 rfl) ?_
        refine lv_aload_n S.1 S.2.1 dX12_passRow_9 rfl (lv_at hl 1 rfl) ?_
        refine lv_aload_n S.1 S.2.1 dX12_passRow_10 rfl (lv_at hl 2 rfl) ?_
        refine lv_iload_n S.1 S.2.1 dX12_passRow_11 rfl (lv_at hl 0 rfl) ?_
        refine ua_ild S hK Z t (by decide) rfl rfl (by omega) dX12_passRow_12 ?_
        refine utop (y := (nI ((kR w 1 K po t) 1 t))) (uPM_r (uKp M (po + t) K) (kR w 1 K po t) t (j := 1) (by decide)) ?_
        refine ud_Vi (As := [.int (nI ((kR w 1 K po t) 1 t))]) (rest := [.int (nI t), .ref (G.2.2 72)]) S hK hA Z (c_X12_passR l G ((kR w 1 K po t) 1 t) M (po + t) K (kR w 1 K po t) h37 (by omega)) (cwV 1 S.2.2.2.2 gX12_passRow_X12_pass rfl rfl rfl (by decide +kernel) ⟨Nat.le_of_ble_eq_true rfl, Nat.le_of_ble_eq_true rfl⟩) (by decide) rfl rfl rfl hl.1 rfl (Nat.le_of_ble_eq_true rfl) dX12_passRow_13 ⟨Nat.zero_le _, Nat.zero_le _⟩ (fun H locs Z => ?_)
        refine ua_ist S hK Z t (by decide) rfl rfl (by omega) dX12_passRow_16 (fun H locs Z => ?_)
        have Z := uZ_eq (uPM_sr (uKp M (po + t + 1) K) (kR w 1 K po t) t (K (po + t)) (j := 1) (by decide)) Z
        refine lv_iinc (v := (nI (t + 1))) (lv' := [(3, .int (nI (t + 1))), (0, .ref (G.2.2 71)), (1, .ref (G.2.2 72)), (2, .int 12)]) S.1 S.2.1 dX12_passRow_17 hl (k := 0) rfl (u_inc1 t) (by decide) rfl (fun ls hl => ?_)
        refine lv_goto (tgt := 2) S.1 S.2.1 dX12_passRow_20 (by decide) ?_
        have Z := uZ_eq (show _ = uPM (uKp M (po + (t + 1)) K) (kR w 1 K po (t + 1)) from by rw [kR_s, Nat.add_assoc]) Z
        exact ih2 (t + 1) (by omega) (by omega) _ _ _ Z (lv_sub hl [0, 1, 2, 3] rfl)
  exact LP2 13 0 (by omega) (by omega) _ _ _ Z (lv_sub hl [0, 1, 2, 3] rfl)
set_option maxHeartbeats 4000000 in
set_option maxRecDepth 100000 in
theorem c_X12_passRowR73 (l : Launch) (G : uG) (M : uM) (po : Nat) (K : Nat → Nat) (w : Nat → Nat → Nat) (h37 : M.1 71 37 = 0) (hpo : po + 12 ≤ 180) : CTv l G yX12_passRow wsX12_passRow 1 22 [.ref (G.2.2 71), .ref (G.2.2 73), .int 12] (uPM (uKp M po K) w) (fun M2 => M2 = uPM (uKp M (po + 12) K) (kR w 2 K po 12)) := by
  refine ustart_v (cc := cX12_passRow) (maxL := 4) (ret := none) (own := RX12) rfl (by decide) rfl (Nat.le_of_ble_eq_true rfl) ?_
  intro xp xe xs xm xa xb xt xc xA ls S hK hA Z hre hlk hl
  have hl : lv_has ls 4 [(0, .ref (G.2.2 71)), (1, .ref (G.2.2 73)), (2, .int 12)] := hl
  refine lv_iconst (v := 0) S.1 S.2.1 dX12_passRow_0 (by decide) ?_
  refine lv_istore_n (lv' := [(3, .int 0), (0, .ref (G.2.2 71)), (1, .ref (G.2.2 73)), (2, .int 12)]) S.1 S.2.1 dX12_passRow_1 rfl hl (by decide) rfl (fun ls hl => ?_)
  have Z := uZ_eq (show uPM (uKp M po K) w = (uPM (uKp M (po + 0) K) (kR w 2 K po 0)) from by rw [kR_0, Nat.add_zero]) Z
  have LP2 : ∀ (fU : Nat) (t : Nat), (12 < t + fU) → (t ≤ 12) → ∀ (H : Heap) (locs : List Loc) (ls : Array Slot), uZ G xA (uPM (uKp M (po + t) K) (kR w 2 K po t)) xs.heap H locs → lv_has ls 4 [(3, .int (nI t)), (0, .ref (G.2.2 71)), (1, .ref (G.2.2 73)), (2, .int 12)] → W xp l xe (uRm 1 22) xs xm xa xb xt xc H locs 0 0 (MQ xb (va_Qv (fun M2 => M2 = uPM (uKp M (po + 12) K) (kR w 2 K po 12)) (fun M' t => uB G M' t) xA) xa xs 0 0 xA) (F0 xm 2 ls []) := by
    intro fU
    induction fU with
    | zero =>
      intro t hfl i1 H locs ls Z hl
      exfalso
      omega
    | succ fU ih2 =>
      intro t hfl i1 H locs ls Z hl
      refine lv_iload_n S.1 S.2.1 dX12_passRow_2 rfl (lv_at hl 0 rfl) ?_
      refine lv_iload_n S.1 S.2.1 dX12_passRow_3 rfl (lv_at hl 3 rfl) ?_
      refine lv_icmp_ge (tgt := 23) S.1 S.2.1 dX12_passRow_4 (by decide) (fun c_1 => ?_) (fun c_1 => ?_)
      · skip
        have c_1 : 12 ≤ t := (nI_leI (a := 12) (b := t) (by omega) (by omega)).mp c_1
        refine uret_v S hK Z hre hlk dX12_passRow_23 ?_
        rw [show t = 12 from by omega]
      · skip
        have c_1 : ¬ 12 ≤ t := fun z9 => c_1 ((nI_leI (a := 12) (b := t) (by omega) (by omega)).mpr z9)
        refine lv_aload_n S.1 S.2.1 dX12_passRow_7 rfl (lv_at hl 2 rfl) ?_
        refine lv_iload_n S.1 S.2.1 dX12_passRow_8 rfl (lv_at hl 0 rfl) ?_
        refine lv_aload_n S.1 S.2.1 dX12_passRow_9 rfl (lv_at hl 1 rfl) ?_
        refine lv_aload_n S.1 S.2.1 dX12_passRow_10 rfl (lv_at hl 2 rfl) ?_
        refine lv_iload_n S.1 S.2.1 dX12_passRow_11 rfl (lv_at hl 0 rfl) ?_
        refine ua_ild S hK Z t (by decide) rfl rfl (by omega) dX12_passRow_12 ?_
        refine utop (y := (nI ((kR w 2 K po t) 2 t))) (uPM_r (uKp M (po + t) K) (kR w 2 K po t) t (j := 2) (by decide)) ?_
        refine ud_Vi (As := [.int (nI ((kR w 2 K po t) 2 t))]) (rest := [.int (nI t), .ref (G.2.2 73)]) S hK hA Z (c_X12_passR l G ((kR w 2 K po t) 2 t) M (po + t) K (kR w 2 K po t) h37 (by omega)) (cwV 1 S.2.2.2.2 gX12_passRow_X12_pass rfl rfl rfl (by decide +kernel) ⟨Nat.le_of_ble_eq_true rfl, Nat.le_of_ble_eq_true rfl⟩) (by decide) rfl rfl rfl hl.1 rfl (Nat.le_of_ble_eq_true rfl) dX12_passRow_13 ⟨Nat.zero_le _, Nat.zero_le _⟩ (fun H locs Z => ?_)
        refine ua_ist S hK Z t (by decide) rfl rfl (by omega) dX12_passRow_16 (fun H locs Z => ?_)
        have Z := uZ_eq (uPM_sr (uKp M (po + t + 1) K) (kR w 2 K po t) t (K (po + t)) (j := 2) (by decide)) Z
        refine lv_iinc (v := (nI (t + 1))) (lv' := [(3, .int (nI (t + 1))), (0, .ref (G.2.2 71)), (1, .ref (G.2.2 73)), (2, .int 12)]) S.1 S.2.1 dX12_passRow_17 hl (k := 0) rfl (u_inc1 t) (by decide) rfl (fun ls hl => ?_)
        refine lv_goto (tgt := 2) S.1 S.2.1 dX12_passRow_20 (by decide) ?_
        have Z := uZ_eq (show _ = uPM (uKp M (po + (t + 1)) K) (kR w 2 K po (t + 1)) from by rw [kR_s, Nat.add_assoc]) Z
        exact ih2 (t + 1) (by omega) (by omega) _ _ _ Z (lv_sub hl [0, 1, 2, 3] rfl)
  exact LP2 13 0 (by omega) (by omega) _ _ _ Z (lv_sub hl [0, 1, 2, 3] rfl)
set_option maxHeartbeats 4000000 in
set_option maxRecDepth 100000 in
theorem c_X12_passRowR74 (l : Launch) (G : uG) (M : uM) (po : Nat) (K : Nat → Nat) (w : Nat → Nat → Nat) (h37 : M.1 71 37 = 0) (hpo : po + 12 ≤ 180) : CTv l G yX12_passRow wsX12_passRow 1 22 [.ref (G.2.2 71), .ref (G.2.2 74), .int 12] (uPM (uKp M po K) w) (fun M2 => M2 = uPM (uKp M (po + 12) K) (kR w 3 K po 12)) := by
  refine ustart_v (cc := cX12_passRow) (maxL := 4) (ret := none) (own := RX12) rfl (by decide) rfl (Nat.le_of_ble_eq_true rfl) ?_
  intro xp xe xs xm xa xb xt xc xA ls S hK hA Z hre hlk hl
  have hl : lv_has ls 4 [(0, .ref (G.2.2 71)), (1, .ref (G.2.2 74)), (2, .int 12)] := hl
  refine lv_iconst (v := 0) S.1 S.2.1 dX12_passRow_0 (by decide) ?_
  refine lv_istore_n (lv' := [(3, .int 0), (0, .ref (G.2.2 71)), (1, .ref (G.2.2 74)), (2, .int 12)]) S.1 S.2.1 dX12_passRow_1 rfl hl (by decide) rfl (fun ls hl => ?_)
  have Z := uZ_eq (show uPM (uKp M po K) w = (uPM (uKp M (po + 0) K) (kR w 3 K po 0)) from by rw [kR_0, Nat.add_zero]) Z
  have LP2 : ∀ (fU : Nat) (t : Nat), (12 < t + fU) → (t ≤ 12) → ∀ (H : Heap) (locs : List Loc) (ls : Array Slot), uZ G xA (uPM (uKp M (po + t) K) (kR w 3 K po t)) xs.heap H locs → lv_has ls 4 [(3, .int (nI t)), (0, .ref (G.2.2 71)), (1, .ref (G.2.2 74)), (2, .int 12)] → W xp l xe (uRm 1 22) xs xm xa xb xt xc H locs 0 0 (MQ xb (va_Qv (fun M2 => M2 = uPM (uKp M (po + 12) K) (kR w 3 K po 12)) (fun M' t => uB G M' t) xA) xa xs 0 0 xA) (F0 xm 2 ls []) := by
    intro fU
    induction fU with
    | zero =>
      intro t hfl i1 H locs ls Z hl
      exfalso
      omega
    | succ fU ih2 =>
      intro t hfl i1 H locs ls Z hl
      refine lv_iload_n S.1 S.2.1 dX12_passRow_2 rfl (lv_at hl 0 rfl) ?_
      refine lv_iload_n S.1 S.2.1 dX12_passRow_3 rfl (lv_at hl 3 rfl) ?_
      refine lv_icmp_ge (tgt := 23) S.1 S.2.1 dX12_passRow_4 (by decide) (fun c_1 => ?_) (fun c_1 => ?_)
      · skip
        have c_1 : 12 ≤ t := (nI_leI (a := 12) (b := t) (by omega) (by omega)).mp c_1
        refine uret_v S hK Z hre hlk dX12_passRow_23 ?_
        rw [show t = 12 from by omega]
      · skip
        have c_1 : ¬ 12 ≤ t := fun z9 => c_1 ((nI_leI (a := 12) (b := t) (by omega) (by omega)).mpr z9)
        refine lv_aload_n S.1 S.2.1 dX12_passRow_7 rfl (lv_at hl 2 rfl) ?_
        refine lv_iload_n S.1 S.2.1 dX12_passRow_8 rfl (lv_at hl 0 rfl) ?_
        refine lv_aload_n S.1 S.2.1 dX12_passRow_9 rfl (lv_at hl 1 rfl) ?_
        refine lv_aload_n S.1 S.2.1 dX12_passRow_10 rfl (lv_at hl 2 rfl) ?_
        refine lv_iload_n S.1 S.2.1 dX12_passRow_11 rfl (lv_at hl 0 rfl) ?_
        refine ua_ild S hK Z t (by decide) rfl rfl (by omega) dX12_passRow_12 ?_
        refine utop (y := (nI ((kR w 3 K po t) 3 t))) (uPM_r (uKp M (po + t) K) (kR w 3 K po t) t (j := 3) (by decide)) ?_
        refine ud_Vi (As := [.int (nI ((kR w 3 K po t) 3 t))]) (rest := [.int (nI t), .ref (G.2.2 74)]) S hK hA Z (c_X12_passR l G ((kR w 3 K po t) 3 t) M (po + t) K (kR w 3 K po t) h37 (by omega)) (cwV 1 S.2.2.2.2 gX12_passRow_X12_pass rfl rfl rfl (by decide +kernel) ⟨Nat.le_of_ble_eq_true rfl, Nat.le_of_ble_eq_true rfl⟩) (by decide) rfl rfl rfl hl.1 rfl (Nat.le_of_ble_eq_true rfl) dX12_passRow_13 ⟨Nat.zero_le _, Nat.zero_le _⟩ (fun H locs Z => ?_)
        refine ua_ist S hK Z t (by decide) rfl rfl (by omega) dX12_passRow_16 (fun H locs Z => ?_)
        have Z := uZ_eq (uPM_sr (uKp M (po + t + 1) K) (kR w 3 K po t) t (K (po + t)) (j := 3) (by decide)) Z
        refine lv_iinc (v := (nI (t + 1))) (lv' := [(3, .int (nI (t + 1))), (0, .ref (G.2.2 71)), (1, .ref (G.2.2 74)), (2, .int 12)]) S.1 S.2.1 dX12_passRow_17 hl (k := 0) rfl (u_inc1 t) (by decide) rfl (fun ls hl => ?_)
        refine lv_goto (tgt := 2) S.1 S.2.1 dX12_passRow_20 (by decide) ?_
        have Z := uZ_eq (show _ = uPM (uKp M (po + (t + 1)) K) (kR w 3 K po (t + 1)) from by rw [kR_s, Nat.add_assoc]) Z
        exact ih2 (t + 1) (by omega) (by omega) _ _ _ Z (lv_sub hl [0, 1, 2, 3] rfl)
  exact LP2 13 0 (by omega) (by omega) _ _ _ Z (lv_sub hl [0, 1, 2, 3] rfl)
set_option maxHeartbeats 4000000 in
set_option maxRecDepth 100000 in
theorem c_X12_passRowR75 (l : Launch) (G : uG) (M : uM) (po : Nat) (K : Nat → Nat) (w : Nat → Nat → Nat) (h37 : M.1 71 37 = 0) (hpo : po + 12 ≤ 180) : CTv l G yX12_passRow wsX12_passRow 1 22 [.ref (G.2.2 71), .ref (G.2.2 75), .int 12] (uPM (uKp M po K) w) (fun M2 => M2 = uPM (uKp M (po + 12) K) (kR w 4 K po 12)) := by
  refine ustart_v (cc := cX12_passRow) (maxL := 4) (ret := none) (own := RX12) rfl (by decide) rfl (Nat.le_of_ble_eq_true rfl) ?_
  intro xp xe xs xm xa xb xt xc xA ls S hK hA Z hre hlk hl
  have hl : lv_has ls 4 [(0, .ref (G.2.2 71)), (1, .ref (G.2.2 75)), (2, .int 12)] := hl
  refine lv_iconst (v := 0) S.1 S.2.1 dX12_passRow_0 (by decide) ?_
  refine lv_istore_n (lv' := [(3, .int 0), (0, .ref (G.2.2 71)), (1, .ref (G.2.2 75)), (2, .int 12)]) S.1 S.2.1 dX12_passRow_1 rfl hl (by decide) rfl (fun ls hl => ?_)
  have Z := uZ_eq (show uPM (uKp M po K) w = (uPM (uKp M (po + 0) K) (kR w 4 K po 0)) from by rw [kR_0, Nat.add_zero]) Z
  have LP2 : ∀ (fU : Nat) (t : Nat), (12 < t + fU) → (t ≤ 12) → ∀ (H : Heap) (locs : List Loc) (ls : Array Slot), uZ G xA (uPM (uKp M (po + t) K) (kR w 4 K po t)) xs.heap H locs → lv_has ls 4 [(3, .int (nI t)), (0, .ref (G.2.2 71)), (1, .ref (G.2.2 75)), (2, .int 12)] → W xp l xe (uRm 1 22) xs xm xa xb xt xc H locs 0 0 (MQ xb (va_Qv (fun M2 => M2 = uPM (uKp M (po + 12) K) (kR w 4 K po 12)) (fun M' t => uB G M' t) xA) xa xs 0 0 xA) (F0 xm 2 ls []) := by
    intro fU
    induction fU with
    | zero =>
      intro t hfl i1 H locs ls Z hl
      exfalso
      omega
    | succ fU ih2 =>
      intro t hfl i1 H locs ls Z hl
      refine lv_iload_n S.1 S.2.1 dX12_passRow_2 rfl (lv_at hl 0 rfl) ?_
      refine lv_iload_n S.1 S.2.1 dX12_passRow_3 rfl (lv_at hl 3 rfl) ?_
      refine lv_icmp_ge (tgt := 23) S.1 S.2.1 dX12_passRow_4 (by decide) (fun c_1 => ?_) (fun c_1 => ?_)
      · skip
        have c_1 : 12 ≤ t := (nI_leI (a := 12) (b := t) (by omega) (by omega)).mp c_1
        refine uret_v S hK Z hre hlk dX12_passRow_23 ?_
        rw [show t = 12 from by omega]
      · skip
        have c_1 : ¬ 12 ≤ t := fun z9 => c_1 ((nI_leI (a := 12) (b := t) (by omega) (by omega)).mpr z9)
        refine lv_aload_n S.1 S.2.1 dX12_passRow_7 rfl (lv_at hl 2 rfl) ?_
        refine lv_iload_n S.1 S.2.1 dX12_passRow_8 rfl (lv_at hl 0 rfl) ?_
        refine lv_aload_n S.1 S.2.1 dX12_passRow_9 rfl (lv_at hl 1 rfl) ?_
        refine lv_aload_n S.1 S.2.1 dX12_passRow_10 rfl (lv_at hl 2 rfl) ?_
        refine lv_iload_n S.1 S.2.1 dX12_passRow_11 rfl (lv_at hl 0 rfl) ?_
        refine ua_ild S hK Z t (by decide) rfl rfl (by omega) dX12_passRow_12 ?_
        refine utop (y := (nI ((kR w 4 K po t) 4 t))) (uPM_r (uKp M (po + t) K) (kR w 4 K po t) t (j := 4) (by decide)) ?_
        refine ud_Vi (As := [.int (nI ((kR w 4 K po t) 4 t))]) (rest := [.int (nI t), .ref (G.2.2 75)]) S hK hA Z (c_X12_passR l G ((kR w 4 K po t) 4 t) M (po + t) K (kR w 4 K po t) h37 (by omega)) (cwV 1 S.2.2.2.2 gX12_passRow_X12_pass rfl rfl rfl (by decide +kernel) ⟨Nat.le_of_ble_eq_true rfl, Nat.le_of_ble_eq_true rfl⟩) (by decide) rfl rfl rfl hl.1 rfl (Nat.le_of_ble_eq_true rfl) dX12_passRow_13 ⟨Nat.zero_le _, Nat.zero_le _⟩ (fun H locs Z => ?_)
        refine ua_ist S hK Z t (by decide) rfl rfl (by omega) dX12_passRow_16 (fun H locs Z => ?_)
        have Z := uZ_eq (uPM_sr (uKp M (po + t + 1) K) (kR w 4 K po t) t (K (po + t)) (j := 4) (by decide)) Z
        refine lv_iinc (v := (nI (t + 1))) (lv' := [(3, .int (nI (t + 1))), (0, .ref (G.2.2 71)), (1, .ref (G.2.2 75)), (2, .int 12)]) S.1 S.2.1 dX12_passRow_17 hl (k := 0) rfl (u_inc1 t) (by decide) rfl (fun ls hl => ?_)
        refine lv_goto (tgt := 2) S.1 S.2.1 dX12_passRow_20 (by decide) ?_
        have Z := uZ_eq (show _ = uPM (uKp M (po + (t + 1)) K) (kR w 4 K po (t + 1)) from by rw [kR_s, Nat.add_assoc]) Z
        exact ih2 (t + 1) (by omega) (by omega) _ _ _ Z (lv_sub hl [0, 1, 2, 3] rfl)
  exact LP2 13 0 (by omega) (by omega) _ _ _ Z (lv_sub hl [0, 1, 2, 3] rfl)
set_option maxHeartbeats 4000000 in
set_option maxRecDepth 100000 in
theorem c_X12_passRowR76 (l : Launch) (G : uG) (M : uM) (po : Nat) (K : Nat → Nat) (w : Nat → Nat → Nat) (h37 : M.1 71 37 = 0) (hpo : po + 8 ≤ 180) : CTv l G yX12_passRow wsX12_passRow 1 22 [.ref (G.2.2 71), .ref (G.2.2 76), .int 8] (uPM (uKp M po K) w) (fun M2 => M2 = uPM (uKp M (po + 8) K) (kR w 5 K po 8)) := by
  refine ustart_v (cc := cX12_passRow) (maxL := 4) (ret := none) (own := RX12) rfl (by decide) rfl (Nat.le_of_ble_eq_true rfl) ?_
  intro xp xe xs xm xa xb xt xc xA ls S hK hA Z hre hlk hl
  have hl : lv_has ls 4 [(0, .ref (G.2.2 71)), (1, .ref (G.2.2 76)), (2, .int 8)] := hl
  refine lv_iconst (v := 0) S.1 S.2.1 dX12_passRow_0 (by decide) ?_
  refine lv_istore_n (lv' := [(3, .int 0), (0, .ref (G.2.2 71)), (1, .ref (G.2.2 76)), (2, .int 8)]) S.1 S.2.1 dX12_passRow_1 rfl hl (by decide) rfl (fun ls hl => ?_)
  have Z := uZ_eq (show uPM (uKp M po K) w = (uPM (uKp M (po + 0) K) (kR w 5 K po 0)) from by rw [kR_0, Nat.add_zero]) Z
  have LP2 : ∀ (fU : Nat) (t : Nat), (8 < t + fU) → (t ≤ 8) → ∀ (H : Heap) (locs : List Loc) (ls : Array Slot), uZ G xA (uPM (uKp M (po + t) K) (kR w 5 K po t)) xs.heap H locs → lv_has ls 4 [(3, .int (nI t)), (0, .ref (G.2.2 71)), (1, .ref (G.2.2 76)), (2, .int 8)] → W xp l xe (uRm 1 22) xs xm xa xb xt xc H locs 0 0 (MQ xb (va_Qv (fun M2 => M2 = uPM (uKp M (po + 8) K) (kR w 5 K po 8)) (fun M' t => uB G M' t) xA) xa xs 0 0 xA) (F0 xm 2 ls []) := by
    intro fU
    induction fU with
    | zero =>
      intro t hfl i1 H locs ls Z hl
      exfalso
      omega
    | succ fU ih2 =>
      intro t hfl i1 H locs ls Z hl
      refine lv_iload_n S.1 S.2.1 dX12_passRow_2 rfl (lv_at hl 0 rfl) ?_
      refine lv_iload_n S.1 S.2.1 dX12_passRow_3 rfl (lv_at hl 3 rfl) ?_
      refine lv_icmp_ge (tgt := 23) S.1 S.2.1 dX12_passRow_4 (by decide) (fun c_1 => ?_) (fun c_1 => ?_)
      · skip
        have c_1 : 8 ≤ t := (nI_leI (a := 8) (b := t) (by omega) (by omega)).mp c_1
        refine uret_v S hK Z hre hlk dX12_passRow_23 ?_
        rw [show t = 8 from by omega]
      · skip
        have c_1 : ¬ 8 ≤ t := fun z9 => c_1 ((nI_leI (a := 8) (b := t) (by omega) (by omega)).mpr z9)
        refine lv_aload_n S.1 S.2.1 dX12_passRow_7 rfl (lv_at hl 2 rfl) ?_
        refine lv_iload_n S.1 S.2.1 dX12_passRow_8 rfl (lv_at hl 0 rfl) ?_
        refine lv_aload_n S.1 S.2.1 dX12_passRow_9 rfl (lv_at hl 1 rfl) ?_
        refine lv_aload_n S.1 S.2.1 dX12_passRow_10 rfl (lv_at hl 2 rfl) ?_
        refine lv_iload_n S.1 S.2.1 dX12_passRow_11 rfl (lv_at hl 0 rfl) ?_
        refine ua_ild S hK Z t (by decide) rfl rfl (by omega) dX12_passRow_12 ?_
        refine utop (y := (nI ((kR w 5 K po t) 5 t))) (uPM_r (uKp M (po + t) K) (kR w 5 K po t) t (j := 5) (by decide)) ?_
        refine ud_Vi (As := [.int (nI ((kR w 5 K po t) 5 t))]) (rest := [.int (nI t), .ref (G.2.2 76)]) S hK hA Z (c_X12_passR l G ((kR w 5 K po t) 5 t) M (po + t) K (kR w 5 K po t) h37 (by omega)) (cwV 1 S.2.2.2.2 gX12_passRow_X12_pass rfl rfl rfl (by decide +kernel) ⟨Nat.le_of_ble_eq_true rfl, Nat.le_of_ble_eq_true rfl⟩) (by decide) rfl rfl rfl hl.1 rfl (Nat.le_of_ble_eq_true rfl) dX12_passRow_13 ⟨Nat.zero_le _, Nat.zero_le _⟩ (fun H locs Z => ?_)
        refine ua_ist S hK Z t (by decide) rfl rfl (by omega) dX12_passRow_16 (fun H locs Z => ?_)
        have Z := uZ_eq (uPM_sr (uKp M (po + t + 1) K) (kR w 5 K po t) t (K (po + t)) (j := 5) (by decide)) Z
        refine lv_iinc (v := (nI (t + 1))) (lv' := [(3, .int (nI (t + 1))), (0, .ref (G.2.2 71)), (1, .ref (G.2.2 76)), (2, .int 8)]) S.1 S.2.1 dX12_passRow_17 hl (k := 0) rfl (u_inc1 t) (by decide) rfl (fun ls hl => ?_)
        refine lv_goto (tgt := 2) S.1 S.2.1 dX12_passRow_20 (by decide) ?_
        have Z := uZ_eq (show _ = uPM (uKp M (po + (t + 1)) K) (kR w 5 K po (t + 1)) from by rw [kR_s, Nat.add_assoc]) Z
        exact ih2 (t + 1) (by omega) (by omega) _ _ _ Z (lv_sub hl [0, 1, 2, 3] rfl)
  exact LP2 9 0 (by omega) (by omega) _ _ _ Z (lv_sub hl [0, 1, 2, 3] rfl)
set_option maxHeartbeats 4000000 in
set_option maxRecDepth 100000 in
theorem c_X12_passRowR77 (l : Launch) (G : uG) (M : uM) (po : Nat) (K : Nat → Nat) (w : Nat → Nat → Nat) (h37 : M.1 71 37 = 0) (hpo : po + 8 ≤ 180) : CTv l G yX12_passRow wsX12_passRow 1 22 [.ref (G.2.2 71), .ref (G.2.2 77), .int 8] (uPM (uKp M po K) w) (fun M2 => M2 = uPM (uKp M (po + 8) K) (kR w 6 K po 8)) := by
  refine ustart_v (cc := cX12_passRow) (maxL := 4) (ret := none) (own := RX12) rfl (by decide) rfl (Nat.le_of_ble_eq_true rfl) ?_
  intro xp xe xs xm xa xb xt xc xA ls S hK hA Z hre hlk hl
  have hl : lv_has ls 4 [(0, .ref (G.2.2 71)), (1, .ref (G.2.2 77)), (2, .int 8)] := hl
  refine lv_iconst (v := 0) S.1 S.2.1 dX12_passRow_0 (by decide) ?_
  refine lv_istore_n (lv' := [(3, .int 0), (0, .ref (G.2.2 71)), (1, .ref (G.2.2 77)), (2, .int 8)]) S.1 S.2.1 dX12_passRow_1 rfl hl (by decide) rfl (fun ls hl => ?_)
  have Z := uZ_eq (show uPM (uKp M po K) w = (uPM (uKp M (po + 0) K) (kR w 6 K po 0)) from by rw [kR_0, Nat.add_zero]) Z
  have LP2 : ∀ (fU : Nat) (t : Nat), (8 < t + fU) → (t ≤ 8) → ∀ (H : Heap) (locs : List Loc) (ls : Array Slot), uZ G xA (uPM (uKp M (po + t) K) (kR w 6 K po t)) xs.heap H locs → lv_has ls 4 [(3, .int (nI t)), (0, .ref (G.2.2 71)), (1, .ref (G.2.2 77)), (2, .int 8)] → W xp l xe (uRm 1 22) xs xm xa xb xt xc H locs 0 0 (MQ xb (va_Qv (fun M2 => M2 = uPM (uKp M (po + 8) K) (kR w 6 K po 8)) (fun M' t => uB G M' t) xA) xa xs 0 0 xA) (F0 xm 2 ls []) := by
    intro fU
    induction fU with
    | zero =>
      intro t hfl i1 H locs ls Z hl
      exfalso
      omega
    | succ fU ih2 =>
      intro t hfl i1 H locs ls Z hl
      refine lv_iload_n S.1 S.2.1 dX12_passRow_2 rfl (lv_at hl 0 rfl) ?_
      refine lv_iload_n S.1 S.2.1 dX12_passRow_3 rfl (lv_at hl 3 rfl) ?_
      refine lv_icmp_ge (tgt := 23) S.1 S.2.1 dX12_passRow_4 (by decide) (fun c_1 => ?_) (fun c_1 => ?_)
      · skip
        have c_1 : 8 ≤ t := (nI_leI (a := 8) (b := t) (by omega) (by omega)).mp c_1
        refine uret_v S hK Z hre hlk dX12_passRow_23 ?_
        rw [show t = 8 from by omega]
      · skip
        have c_1 : ¬ 8 ≤ t := fun z9 => c_1 ((nI_leI (a := 8) (b := t) (by omega) (by omega)).mpr z9)
        refine lv_aload_n S.1 S.2.1 dX12_passRow_7 rfl (lv_at hl 2 rfl) ?_
        refine lv_iload_n S.1 S.2.1 dX12_passRow_8 rfl (lv_at hl 0 rfl) ?_
        refine lv_aload_n S.1 S.2.1 dX12_passRow_9 rfl (lv_at hl 1 rfl) ?_
        refine lv_aload_n S.1 S.2.1 dX12_passRow_10 rfl (lv_at hl 2 rfl) ?_
        refine lv_iload_n S.1 S.2.1 dX12_passRow_11 rfl (lv_at hl 0 rfl) ?_
        refine ua_ild S hK Z t (by decide) rfl rfl (by omega) dX12_passRow_12 ?_
        refine utop (y := (nI ((kR w 6 K po t) 6 t))) (uPM_r (uKp M (po + t) K) (kR w 6 K po t) t (j := 6) (by decide)) ?_
        refine ud_Vi (As := [.int (nI ((kR w 6 K po t) 6 t))]) (rest := [.int (nI t), .ref (G.2.2 77)]) S hK hA Z (c_X12_passR l G ((kR w 6 K po t) 6 t) M (po + t) K (kR w 6 K po t) h37 (by omega)) (cwV 1 S.2.2.2.2 gX12_passRow_X12_pass rfl rfl rfl (by decide +kernel) ⟨Nat.le_of_ble_eq_true rfl, Nat.le_of_ble_eq_true rfl⟩) (by decide) rfl rfl rfl hl.1 rfl (Nat.le_of_ble_eq_true rfl) dX12_passRow_13 ⟨Nat.zero_le _, Nat.zero_le _⟩ (fun H locs Z => ?_)
        refine ua_ist S hK Z t (by decide) rfl rfl (by omega) dX12_passRow_16 (fun H locs Z => ?_)
        have Z := uZ_eq (uPM_sr (uKp M (po + t + 1) K) (kR w 6 K po t) t (K (po + t)) (j := 6) (by decide)) Z
        refine lv_iinc (v := (nI (t + 1))) (lv' := [(3, .int (nI (t + 1))), (0, .ref (G.2.2 71)), (1, .ref (G.2.2 77)), (2, .int 8)]) S.1 S.2.1 dX12_passRow_17 hl (k := 0) rfl (u_inc1 t) (by decide) rfl (fun ls hl => ?_)
        refine lv_goto (tgt := 2) S.1 S.2.1 dX12_passRow_20 (by decide) ?_
        have Z := uZ_eq (show _ = uPM (uKp M (po + (t + 1)) K) (kR w 6 K po (t + 1)) from by rw [kR_s, Nat.add_assoc]) Z
        exact ih2 (t + 1) (by omega) (by omega) _ _ _ Z (lv_sub hl [0, 1, 2, 3] rfl)
  exact LP2 9 0 (by omega) (by omega) _ _ _ Z (lv_sub hl [0, 1, 2, 3] rfl)
set_option maxHeartbeats 4000000 in
set_option maxRecDepth 100000 in
theorem c_X12_passRowR78 (l : Launch) (G : uG) (M : uM) (po : Nat) (K : Nat → Nat) (w : Nat → Nat → Nat) (h37 : M.1 71 37 = 0) (hpo : po + 8 ≤ 180) : CTv l G yX12_passRow wsX12_passRow 1 22 [.ref (G.2.2 71), .ref (G.2.2 78), .int 8] (uPM (uKp M po K) w) (fun M2 => M2 = uPM (uKp M (po + 8) K) (kR w 8 K po 8)) := by
  refine ustart_v (cc := cX12_passRow) (maxL := 4) (ret := none) (own := RX12) rfl (by decide) rfl (Nat.le_of_ble_eq_true rfl) ?_
  intro xp xe xs xm xa xb xt xc xA ls S hK hA Z hre hlk hl
  have hl : lv_has ls 4 [(0, .ref (G.2.2 71)), (1, .ref (G.2.2 78)), (2, .int 8)] := hl
  refine lv_iconst (v := 0) S.1 S.2.1 dX12_passRow_0 (by decide) ?_
  refine lv_istore_n (lv' := [(3, .int 0), (0, .ref (G.2.2 71)), (1, .ref (G.2.2 78)), (2, .int 8)]) S.1 S.2.1 dX12_passRow_1 rfl hl (by decide) rfl (fun ls hl => ?_)
  have Z := uZ_eq (show uPM (uKp M po K) w = (uPM (uKp M (po + 0) K) (kR w 8 K po 0)) from by rw [kR_0, Nat.add_zero]) Z
  have LP2 : ∀ (fU : Nat) (t : Nat), (8 < t + fU) → (t ≤ 8) → ∀ (H : Heap) (locs : List Loc) (ls : Array Slot), uZ G xA (uPM (uKp M (po + t) K) (kR w 8 K po t)) xs.heap H locs → lv_has ls 4 [(3, .int (nI t)), (0, .ref (G.2.2 71)), (1, .ref (G.2.2 78)), (2, .int 8)] → W xp l xe (uRm 1 22) xs xm xa xb xt xc H locs 0 0 (MQ xb (va_Qv (fun M2 => M2 = uPM (uKp M (po + 8) K) (kR w 8 K po 8)) (fun M' t => uB G M' t) xA) xa xs 0 0 xA) (F0 xm 2 ls []) := by
    intro fU
    induction fU with
    | zero =>
      intro t hfl i1 H locs ls Z hl
      exfalso
      omega
    | succ fU ih2 =>
      intro t hfl i1 H locs ls Z hl
      refine lv_iload_n S.1 S.2.1 dX12_passRow_2 rfl (lv_at hl 0 rfl) ?_
      refine lv_iload_n S.1 S.2.1 dX12_passRow_3 rfl (lv_at hl 3 rfl) ?_
      refine lv_icmp_ge (tgt := 23) S.1 S.2.1 dX12_passRow_4 (by decide) (fun c_1 => ?_) (fun c_1 => ?_)
      · skip
        have c_1 : 8 ≤ t := (nI_leI (a := 8) (b := t) (by omega) (by omega)).mp c_1
        refine uret_v S hK Z hre hlk dX12_passRow_23 ?_
        rw [show t = 8 from by omega]
      · skip
        have c_1 : ¬ 8 ≤ t := fun z9 => c_1 ((nI_leI (a := 8) (b := t) (by omega) (by omega)).mpr z9)
        refine lv_aload_n S.1 S.2.1 dX12_passRow_7 rfl (lv_at hl 2 rfl) ?_
        refine lv_iload_n S.1 S.2.1 dX12_passRow_8 rfl (lv_at hl 0 rfl) ?_
        refine lv_aload_n S.1 S.2.1 dX12_passRow_9 rfl (lv_at hl 1 rfl) ?_
        refine lv_aload_n S.1 S.2.1 dX12_passRow_10 rfl (lv_at hl 2 rfl) ?_
        refine lv_iload_n S.1 S.2.1 dX12_passRow_11 rfl (lv_at hl 0 rfl) ?_
        refine ua_ild S hK Z t (by decide) rfl rfl (by omega) dX12_passRow_12 ?_
        refine utop (y := (nI ((kR w 8 K po t) 8 t))) (uPM_q (uKp M (po + t) K) (kR w 8 K po t) t (j := 8) (by decide)) ?_
        refine ud_Vi (As := [.int (nI ((kR w 8 K po t) 8 t))]) (rest := [.int (nI t), .ref (G.2.2 78)]) S hK hA Z (c_X12_passR l G ((kR w 8 K po t) 8 t) M (po + t) K (kR w 8 K po t) h37 (by omega)) (cwV 1 S.2.2.2.2 gX12_passRow_X12_pass rfl rfl rfl (by decide +kernel) ⟨Nat.le_of_ble_eq_true rfl, Nat.le_of_ble_eq_true rfl⟩) (by decide) rfl rfl rfl hl.1 rfl (Nat.le_of_ble_eq_true rfl) dX12_passRow_13 ⟨Nat.zero_le _, Nat.zero_le _⟩ (fun H locs Z => ?_)
        refine ua_ist S hK Z t (by decide) rfl rfl (by omega) dX12_passRow_16 (fun H locs Z => ?_)
        have Z := uZ_eq (uPM_sq (uKp M (po + t + 1) K) (kR w 8 K po t) t (K (po + t)) (j := 8) (by decide)) Z
        refine lv_iinc (v := (nI (t + 1))) (lv' := [(3, .int (nI (t + 1))), (0, .ref (G.2.2 71)), (1, .ref (G.2.2 78)), (2, .int 8)]) S.1 S.2.1 dX12_passRow_17 hl (k := 0) rfl (u_inc1 t) (by decide) rfl (fun ls hl => ?_)
        refine lv_goto (tgt := 2) S.1 S.2.1 dX12_passRow_20 (by decide) ?_
        have Z := uZ_eq (show _ = uPM (uKp M (po + (t + 1)) K) (kR w 8 K po (t + 1)) from by rw [kR_s, Nat.add_assoc]) Z
        exact ih2 (t + 1) (by omega) (by omega) _ _ _ Z (lv_sub hl [0, 1, 2, 3] rfl)
  exact LP2 9 0 (by omega) (by omega) _ _ _ Z (lv_sub hl [0, 1, 2, 3] rfl)
set_option maxHeartbeats 4000000 in
set_option maxRecDepth 100000 in
theorem c_X12_passRowR79 (l : Launch) (G : uG) (M : uM) (po : Nat) (K : Nat → Nat) (w : Nat → Nat → Nat) (h37 : M.1 71 37 = 0) (hpo : po + 8 ≤ 180) : CTv l G yX12_passRow wsX12_passRow 1 22 [.ref (G.2.2 71), .ref (G.2.2 79), .int 8] (uPM (uKp M po K) w) (fun M2 => M2 = uPM (uKp M (po + 8) K) (kR w 9 K po 8)) := by
  refine ustart_v (cc := cX12_passRow) (maxL := 4) (ret := none) (own := RX12) rfl (by decide) rfl (Nat.le_of_ble_eq_true rfl) ?_
  intro xp xe xs xm xa xb xt xc xA ls S hK hA Z hre hlk hl
  have hl : lv_has ls 4 [(0, .ref (G.2.2 71)), (1, .ref (G.2.2 79)), (2, .int 8)] := hl
  refine lv_iconst (v := 0) S.1 S.2.1 dX12_passRow_0 (by decide) ?_
  refine lv_istore_n (lv' := [(3, .int 0), (0, .ref (G.2.2 71)), (1, .ref (G.2.2 79)), (2, .int 8)]) S.1 S.2.1 dX12_passRow_1 rfl hl (by decide) rfl (fun ls hl => ?_)
  have Z := uZ_eq (show uPM (uKp M po K) w = (uPM (uKp M (po + 0) K) (kR w 9 K po 0)) from by rw [kR_0, Nat.add_zero]) Z
  have LP2 : ∀ (fU : Nat) (t : Nat), (8 < t + fU) → (t ≤ 8) → ∀ (H : Heap) (locs : List Loc) (ls : Array Slot), uZ G xA (uPM (uKp M (po + t) K) (kR w 9 K po t)) xs.heap H locs → lv_has ls 4 [(3, .int (nI t)), (0, .ref (G.2.2 71)), (1, .ref (G.2.2 79)), (2, .int 8)] → W xp l xe (uRm 1 22) xs xm xa xb xt xc H locs 0 0 (MQ xb (va_Qv (fun M2 => M2 = uPM (uKp M (po + 8) K) (kR w 9 K po 8)) (fun M' t => uB G M' t) xA) xa xs 0 0 xA) (F0 xm 2 ls []) := by
    intro fU
    induction fU with
    | zero =>
      intro t hfl i1 H locs ls Z hl
      exfalso
      omega
    | succ fU ih2 =>
      intro t hfl i1 H locs ls Z hl
      refine lv_iload_n S.1 S.2.1 dX12_passRow_2 rfl (lv_at hl 0 rfl) ?_
      refine lv_iload_n S.1 S.2.1 dX12_passRow_3 rfl (lv_at hl 3 rfl) ?_
      refine lv_icmp_ge (tgt := 23) S.1 S.2.1 dX12_passRow_4 (by decide) (fun c_1 => ?_) (fun c_1 => ?_)
      · skip
        have c_1 : 8 ≤ t := (nI_leI (a := 8) (b := t) (by omega) (by omega)).mp c_1
        refine uret_v S hK Z hre hlk dX12_passRow_23 ?_
        rw [show t = 8 from by omega]
      · skip
        have c_1 : ¬ 8 ≤ t := fun z9 => c_1 ((nI_leI (a := 8) (b := t) (by omega) (by omega)).mpr z9)
        refine lv_aload_n S.1 S.2.1 dX12_passRow_7 rfl (lv_at hl 2 rfl) ?_
        refine lv_iload_n S.1 S.2.1 dX12_passRow_8 rfl (lv_at hl 0 rfl) ?_
        refine lv_aload_n S.1 S.2.1 dX12_passRow_9 rfl (lv_at hl 1 rfl) ?_
        refine lv_aload_n S.1 S.2.1 dX12_passRow_10 rfl (lv_at hl 2 rfl) ?_
        refine lv_iload_n S.1 S.2.1 dX12_passRow_11 rfl (lv_at hl 0 rfl) ?_
        refine ua_ild S hK Z t (by decide) rfl rfl (by omega) dX12_passRow_12 ?_
        refine utop (y := (nI ((kR w 9 K po t) 9 t))) (uPM_q (uKp M (po + t) K) (kR w 9 K po t) t (j := 9) (by decide)) ?_
        refine ud_Vi (As := [.int (nI ((kR w 9 K po t) 9 t))]) (rest := [.int (nI t), .ref (G.2.2 79)]) S hK hA Z (c_X12_passR l G ((kR w 9 K po t) 9 t) M (po + t) K (kR w 9 K po t) h37 (by omega)) (cwV 1 S.2.2.2.2 gX12_passRow_X12_pass rfl rfl rfl (by decide +kernel) ⟨Nat.le_of_ble_eq_true rfl, Nat.le_of_ble_eq_true rfl⟩) (by decide) rfl rfl rfl hl.1 rfl (Nat.le_of_ble_eq_true rfl) dX12_passRow_13 ⟨Nat.zero_le _, Nat.zero_le _⟩ (fun H locs Z => ?_)
        refine ua_ist S hK Z t (by decide) rfl rfl (by omega) dX12_passRow_16 (fun H locs Z => ?_)
        have Z := uZ_eq (uPM_sq (uKp M (po + t + 1) K) (kR w 9 K po t) t (K (po + t)) (j := 9) (by decide)) Z
        refine lv_iinc (v := (nI (t + 1))) (lv' := [(3, .int (nI (t + 1))), (0, .ref (G.2.2 71)), (1, .ref (G.2.2 79)), (2, .int 8)]) S.1 S.2.1 dX12_passRow_17 hl (k := 0) rfl (u_inc1 t) (by decide) rfl (fun ls hl => ?_)
        refine lv_goto (tgt := 2) S.1 S.2.1 dX12_passRow_20 (by decide) ?_
        have Z := uZ_eq (show _ = uPM (uKp M (po + (t + 1)) K) (kR w 9 K po (t + 1)) from by rw [kR_s, Nat.add_assoc]) Z
        exact ih2 (t + 1) (by omega) (by omega) _ _ _ Z (lv_sub hl [0, 1, 2, 3] rfl)
  exact LP2 9 0 (by omega) (by omega) _ _ _ Z (lv_sub hl [0, 1, 2, 3] rfl)
set_option maxHeartbeats 4000000 in
set_option maxRecDepth 100000 in
theorem c_X12_passAllW (l : Launch) (G : uG) (M : uM) (po : Nat) (K : Nat → Nat) (w : Nat → Nat → Nat) (h37 : M.1 71 37 = 1) (hpo : po + 83 ≤ 180) : CTv l G yX12_passAll wsX12_passAll 2 45 [.ref (G.2.2 71)] (uPM (uKp M po K) w) (fun M2 => M2 = uPM (uKp M (po + 83) (kAll K po w)) w) := by
  refine ustart_v (cc := cX12_passAll) (maxL := 1) (ret := none) (own := RX12) rfl (by decide) rfl (Nat.le_of_ble_eq_true rfl) ?_
  intro xp xe xs xm xa xb xt xc xA ls S hK hA Z hre hlk hl
  have hl : lv_has ls 1 [(0, .ref (G.2.2 71))] := hl
  refine lv_aload_n S.1 S.2.1 dX12_passAll_0 rfl (lv_at hl 0 rfl) ?_
  refine lv_aload_n S.1 S.2.1 dX12_passAll_1 rfl (lv_at hl 0 rfl) ?_
  refine lv_aload_n S.1 S.2.1 dX12_passAll_2 rfl (lv_at hl 0 rfl) ?_
  refine ug_i S hK Z (j := 6) (by decide) rfl rfl rfl (by decide) iX12_passAll_X12 qX12_passAll_84 dX12_passAll_3 ?_
  refine utop (y := (nI (w 0 7))) (uPM_6 (uKp M po K) w) ?_
  refine ud_Vi (As := [.int (nI (w 0 7))]) (rest := [.ref (G.2.2 71)]) S hK hA Z (c_X12_passW l G (w 0 7) M po K w h37 (by omega)) (cwV 1 S.2.2.2.2 gX12_passAll_X12_pass rfl rfl rfl (by decide +kernel) ⟨Nat.le_of_ble_eq_true rfl, Nat.le_of_ble_eq_true rfl⟩) (by decide) rfl rfl rfl hl.1 rfl (Nat.le_of_ble_eq_true rfl) dX12_passAll_6 ⟨Nat.zero_le _, Nat.zero_le _⟩ (fun H locs Z => ?_)
  refine up_i S hK Z (j := 6) (by decide) rfl rfl rfl (by decide) iX12_passAll_X12 tyX12_ok nmX12 qX12_passAll_84 rfl rfl rfl dX12_passAll_9 (fun H locs Z => ?_)
  have Z := uZ_eq (uPM_s0 (uKp M (po + 1) (fu K po (w 0 7))) w (w 0 7) (Or.inl ⟨rfl, rfl, rfl⟩)) Z
  have Z := uZ_eq (congrArg (uPM (uKp M (po + 1) (fu K po (w 0 7)))) (wu_id _ _ _)) Z
  refine lv_aload_n S.1 S.2.1 dX12_passAll_12 rfl (lv_at hl 0 rfl) ?_
  refine lv_aload_n S.1 S.2.1 dX12_passAll_13 rfl (lv_at hl 0 rfl) ?_
  refine lv_aload_n S.1 S.2.1 dX12_passAll_14 rfl (lv_at hl 0 rfl) ?_
  refine ug_i S hK Z (j := 7) (by decide) rfl rfl rfl (by decide) iX12_passAll_X12 qX12_passAll_180 dX12_passAll_15 ?_
  refine utop (y := (nI (w 0 8))) (uPM_7 (uKp M (po + 1) (fu K po (w 0 7))) w) ?_
  refine ud_Vi (As := [.int (nI (w 0 8))]) (rest := [.ref (G.2.2 71)]) S hK hA Z (c_X12_passW l G (w 0 8) M (po + 1) (fu K po (w 0 7)) w h37 (by omega)) (cwV 1 S.2.2.2.2 gX12_passAll_X12_pass rfl rfl rfl (by decide +kernel) ⟨Nat.le_of_ble_eq_true rfl, Nat.le_of_ble_eq_true rfl⟩) (by decide) rfl rfl rfl hl.1 rfl (Nat.le_of_ble_eq_true rfl) dX12_passAll_18 ⟨Nat.zero_le _, Nat.zero_le _⟩ (fun H locs Z => ?_)
  refine up_i S hK Z (j := 7) (by decide) rfl rfl rfl (by decide) iX12_passAll_X12 tyX12_ok nmX12 qX12_passAll_180 rfl rfl rfl dX12_passAll_21 (fun H locs Z => ?_)
  have Z := uZ_eq (uPM_s0 (uKp M (po + 1 + 1) (fu (fu K po (w 0 7)) (po + 1) (w 0 8))) w (w 0 8) (Or.inr (Or.inl ⟨rfl, rfl, rfl⟩))) Z
  have Z := uZ_eq (congrArg (uPM (uKp M (po + 1 + 1) (fu (fu K po (w 0 7)) (po + 1) (w 0 8)))) (wu_id _ _ _)) Z
  refine lv_aload_n S.1 S.2.1 dX12_passAll_24 rfl (lv_at hl 0 rfl) ?_
  refine lv_aload_n S.1 S.2.1 dX12_passAll_25 rfl (lv_at hl 0 rfl) ?_
  refine lv_aload_n S.1 S.2.1 dX12_passAll_26 rfl (lv_at hl 0 rfl) ?_
  refine ug_i S hK Z (j := 10) (by decide) rfl rfl rfl (by decide) iX12_passAll_X12 qX12_passAll_300 dX12_passAll_27 ?_
  refine utop (y := (nI (w 7 2))) (uPM_10 (uKp M (po + 1 + 1) (fu (fu K po (w 0 7)) (po + 1) (w 0 8))) w) ?_
  refine ud_Vi (As := [.int (nI (w 7 2))]) (rest := [.ref (G.2.2 71)]) S hK hA Z (c_X12_passW l G (w 7 2) M (po + 1 + 1) (fu (fu K po (w 0 7)) (po + 1) (w 0 8)) w h37 (by omega)) (cwV 1 S.2.2.2.2 gX12_passAll_X12_pass rfl rfl rfl (by decide +kernel) ⟨Nat.le_of_ble_eq_true rfl, Nat.le_of_ble_eq_true rfl⟩) (by decide) rfl rfl rfl hl.1 rfl (Nat.le_of_ble_eq_true rfl) dX12_passAll_30 ⟨Nat.zero_le _, Nat.zero_le _⟩ (fun H locs Z => ?_)
  refine up_i S hK Z (j := 10) (by decide) rfl rfl rfl (by decide) iX12_passAll_X12 tyX12_ok nmX12 qX12_passAll_300 rfl rfl rfl dX12_passAll_33 (fun H locs Z => ?_)
  have Z := uZ_eq (uPM_s0 (uKp M (po + 1 + 1 + 1) (fu (fu (fu K po (w 0 7)) (po + 1) (w 0 8)) (po + 1 + 1) (w 7 2))) w (w 7 2) (Or.inr (Or.inr ⟨rfl, rfl, rfl⟩))) Z
  have Z := uZ_eq (congrArg (uPM (uKp M (po + 1 + 1 + 1) (fu (fu (fu K po (w 0 7)) (po + 1) (w 0 8)) (po + 1 + 1) (w 7 2)))) (wu_id _ _ _)) Z
  refine lv_aload_n S.1 S.2.1 dX12_passAll_36 rfl (lv_at hl 0 rfl) ?_
  refine lv_aload_n S.1 S.2.1 dX12_passAll_37 rfl (lv_at hl 0 rfl) ?_
  refine ug_r S hK Z (j := 0) 72 (by decide) rfl rfl rfl (by decide) iX12_passAll_X12 qX12_passAll_7 dX12_passAll_38 ?_
  refine lv_bipush (v := 12) S.1 S.2.1 dX12_passAll_41 (by decide) ?_
  refine ud_Vv (As := [.ref (G.2.2 72), .int 12]) (rest := []) S hK hA Z (c_X12_passRowW72 l G M (po + 1 + 1 + 1) (fu (fu (fu K po (w 0 7)) (po + 1) (w 0 8)) (po + 1 + 1) (w 7 2)) w h37 (by omega)) (cwV 2 S.2.2.2.2 gX12_passAll_X12_passRow rfl rfl rfl (by decide +kernel) ⟨Nat.le_of_ble_eq_true rfl, Nat.le_of_ble_eq_true rfl⟩) (by decide) rfl rfl rfl hl.1 rfl (Nat.le_of_ble_eq_true rfl) dX12_passAll_43 ⟨Nat.zero_le _, Nat.zero_le _⟩ (fun H locs Z => ?_)
  refine lv_aload_n S.1 S.2.1 dX12_passAll_46 rfl (lv_at hl 0 rfl) ?_
  refine lv_aload_n S.1 S.2.1 dX12_passAll_47 rfl (lv_at hl 0 rfl) ?_
  refine ug_r S hK Z (j := 1) 73 (by decide) rfl rfl rfl (by decide) iX12_passAll_X12 qX12_passAll_13 dX12_passAll_48 ?_
  refine lv_bipush (v := 12) S.1 S.2.1 dX12_passAll_51 (by decide) ?_
  refine ud_Vv (As := [.ref (G.2.2 73), .int 12]) (rest := []) S hK hA Z (c_X12_passRowW73 l G M (po + 1 + 1 + 1 + 12) (kW (fu (fu (fu K po (w 0 7)) (po + 1) (w 0 8)) (po + 1 + 1) (w 7 2)) (po + 1 + 1 + 1) (w 1) 12) w h37 (by omega)) (cwV 2 S.2.2.2.2 gX12_passAll_X12_passRow rfl rfl rfl (by decide +kernel) ⟨Nat.le_of_ble_eq_true rfl, Nat.le_of_ble_eq_true rfl⟩) (by decide) rfl rfl rfl hl.1 rfl (Nat.le_of_ble_eq_true rfl) dX12_passAll_53 ⟨Nat.zero_le _, Nat.zero_le _⟩ (fun H locs Z => ?_)
  refine lv_aload_n S.1 S.2.1 dX12_passAll_56 rfl (lv_at hl 0 rfl) ?_
  refine lv_aload_n S.1 S.2.1 dX12_passAll_57 rfl (lv_at hl 0 rfl) ?_
  refine ug_r S hK Z (j := 2) 74 (by decide) rfl rfl rfl (by decide) iX12_passAll_X12 qX12_passAll_16 dX12_passAll_58 ?_
  refine lv_bipush (v := 12) S.1 S.2.1 dX12_passAll_61 (by decide) ?_
  refine ud_Vv (As := [.ref (G.2.2 74), .int 12]) (rest := []) S hK hA Z (c_X12_passRowW74 l G M (po + 1 + 1 + 1 + 12 + 12) (kW (kW (fu (fu (fu K po (w 0 7)) (po + 1) (w 0 8)) (po + 1 + 1) (w 7 2)) (po + 1 + 1 + 1) (w 1) 12) (po + 1 + 1 + 1 + 12) (w 2) 12) w h37 (by omega)) (cwV 2 S.2.2.2.2 gX12_passAll_X12_passRow rfl rfl rfl (by decide +kernel) ⟨Nat.le_of_ble_eq_true rfl, Nat.le_of_ble_eq_true rfl⟩) (by decide) rfl rfl rfl hl.1 rfl (Nat.le_of_ble_eq_true rfl) dX12_passAll_63 ⟨Nat.zero_le _, Nat.zero_le _⟩ (fun H locs Z => ?_)
  refine lv_aload_n S.1 S.2.1 dX12_passAll_66 rfl (lv_at hl 0 rfl) ?_
  refine lv_aload_n S.1 S.2.1 dX12_passAll_67 rfl (lv_at hl 0 rfl) ?_
  refine ug_r S hK Z (j := 3) 75 (by decide) rfl rfl rfl (by decide) iX12_passAll_X12 qX12_passAll_19 dX12_passAll_68 ?_
  refine lv_bipush (v := 12) S.1 S.2.1 dX12_passAll_71 (by decide) ?_
  refine ud_Vv (As := [.ref (G.2.2 75), .int 12]) (rest := []) S hK hA Z (c_X12_passRowW75 l G M (po + 1 + 1 + 1 + 12 + 12 + 12) (kW (kW (kW (fu (fu (fu K po (w 0 7)) (po + 1) (w 0 8)) (po + 1 + 1) (w 7 2)) (po + 1 + 1 + 1) (w 1) 12) (po + 1 + 1 + 1 + 12) (w 2) 12) (po + 1 + 1 + 1 + 12 + 12) (w 3) 12) w h37 (by omega)) (cwV 2 S.2.2.2.2 gX12_passAll_X12_passRow rfl rfl rfl (by decide +kernel) ⟨Nat.le_of_ble_eq_true rfl, Nat.le_of_ble_eq_true rfl⟩) (by decide) rfl rfl rfl hl.1 rfl (Nat.le_of_ble_eq_true rfl) dX12_passAll_73 ⟨Nat.zero_le _, Nat.zero_le _⟩ (fun H locs Z => ?_)
  refine lv_aload_n S.1 S.2.1 dX12_passAll_76 rfl (lv_at hl 0 rfl) ?_
  refine lv_aload_n S.1 S.2.1 dX12_passAll_77 rfl (lv_at hl 0 rfl) ?_
  refine ug_r S hK Z (j := 4) 76 (by decide) rfl rfl rfl (by decide) iX12_passAll_X12 qX12_passAll_22 dX12_passAll_78 ?_
  refine lv_bipush (v := 8) S.1 S.2.1 dX12_passAll_81 (by decide) ?_
  refine ud_Vv (As := [.ref (G.2.2 76), .int 8]) (rest := []) S hK hA Z (c_X12_passRowW76 l G M (po + 1 + 1 + 1 + 12 + 12 + 12 + 12) (kW (kW (kW (kW (fu (fu (fu K po (w 0 7)) (po + 1) (w 0 8)) (po + 1 + 1) (w 7 2)) (po + 1 + 1 + 1) (w 1) 12) (po + 1 + 1 + 1 + 12) (w 2) 12) (po + 1 + 1 + 1 + 12 + 12) (w 3) 12) (po + 1 + 1 + 1 + 12 + 12 + 12) (w 4) 12) w h37 (by omega)) (cwV 2 S.2.2.2.2 gX12_passAll_X12_passRow rfl rfl rfl (by decide +kernel) ⟨Nat.le_of_ble_eq_true rfl, Nat.le_of_ble_eq_true rfl⟩) (by decide) rfl rfl rfl hl.1 rfl (Nat.le_of_ble_eq_true rfl) dX12_passAll_83 ⟨Nat.zero_le _, Nat.zero_le _⟩ (fun H locs Z => ?_)
  refine lv_aload_n S.1 S.2.1 dX12_passAll_86 rfl (lv_at hl 0 rfl) ?_
  refine lv_aload_n S.1 S.2.1 dX12_passAll_87 rfl (lv_at hl 0 rfl) ?_
  refine ug_r S hK Z (j := 5) 77 (by decide) rfl rfl rfl (by decide) iX12_passAll_X12 qX12_passAll_25 dX12_passAll_88 ?_
  refine lv_bipush (v := 8) S.1 S.2.1 dX12_passAll_91 (by decide) ?_
  refine ud_Vv (As := [.ref (G.2.2 77), .int 8]) (rest := []) S hK hA Z (c_X12_passRowW77 l G M (po + 1 + 1 + 1 + 12 + 12 + 12 + 12 + 8) (kW (kW (kW (kW (kW (fu (fu (fu K po (w 0 7)) (po + 1) (w 0 8)) (po + 1 + 1) (w 7 2)) (po + 1 + 1 + 1) (w 1) 12) (po + 1 + 1 + 1 + 12) (w 2) 12) (po + 1 + 1 + 1 + 12 + 12) (w 3) 12) (po + 1 + 1 + 1 + 12 + 12 + 12) (w 4) 12) (po + 1 + 1 + 1 + 12 + 12 + 12 + 12) (w 5) 8) w h37 (by omega)) (cwV 2 S.2.2.2.2 gX12_passAll_X12_passRow rfl rfl rfl (by decide +kernel) ⟨Nat.le_of_ble_eq_true rfl, Nat.le_of_ble_eq_true rfl⟩) (by decide) rfl rfl rfl hl.1 rfl (Nat.le_of_ble_eq_true rfl) dX12_passAll_93 ⟨Nat.zero_le _, Nat.zero_le _⟩ (fun H locs Z => ?_)
  refine lv_aload_n S.1 S.2.1 dX12_passAll_96 rfl (lv_at hl 0 rfl) ?_
  refine lv_aload_n S.1 S.2.1 dX12_passAll_97 rfl (lv_at hl 0 rfl) ?_
  refine ug_r S hK Z (j := 8) 78 (by decide) rfl rfl rfl (by decide) iX12_passAll_X12 qX12_passAll_28 dX12_passAll_98 ?_
  refine lv_bipush (v := 8) S.1 S.2.1 dX12_passAll_101 (by decide) ?_
  refine ud_Vv (As := [.ref (G.2.2 78), .int 8]) (rest := []) S hK hA Z (c_X12_passRowW78 l G M (po + 1 + 1 + 1 + 12 + 12 + 12 + 12 + 8 + 8) (kW (kW (kW (kW (kW (kW (fu (fu (fu K po (w 0 7)) (po + 1) (w 0 8)) (po + 1 + 1) (w 7 2)) (po + 1 + 1 + 1) (w 1) 12) (po + 1 + 1 + 1 + 12) (w 2) 12) (po + 1 + 1 + 1 + 12 + 12) (w 3) 12) (po + 1 + 1 + 1 + 12 + 12 + 12) (w 4) 12) (po + 1 + 1 + 1 + 12 + 12 + 12 + 12) (w 5) 8) (po + 1 + 1 + 1 + 12 + 12 + 12 + 12 + 8) (w 6) 8) w h37 (by omega)) (cwV 2 S.2.2.2.2 gX12_passAll_X12_passRow rfl rfl rfl (by decide +kernel) ⟨Nat.le_of_ble_eq_true rfl, Nat.le_of_ble_eq_true rfl⟩) (by decide) rfl rfl rfl hl.1 rfl (Nat.le_of_ble_eq_true rfl) dX12_passAll_103 ⟨Nat.zero_le _, Nat.zero_le _⟩ (fun H locs Z => ?_)
  refine lv_aload_n S.1 S.2.1 dX12_passAll_106 rfl (lv_at hl 0 rfl) ?_
  refine lv_aload_n S.1 S.2.1 dX12_passAll_107 rfl (lv_at hl 0 rfl) ?_
  refine ug_r S hK Z (j := 9) 79 (by decide) rfl rfl rfl (by decide) iX12_passAll_X12 qX12_passAll_31 dX12_passAll_108 ?_
  refine lv_bipush (v := 8) S.1 S.2.1 dX12_passAll_111 (by decide) ?_
  refine ud_Vv (As := [.ref (G.2.2 79), .int 8]) (rest := []) S hK hA Z (c_X12_passRowW79 l G M (po + 1 + 1 + 1 + 12 + 12 + 12 + 12 + 8 + 8 + 8) (kW (kW (kW (kW (kW (kW (kW (fu (fu (fu K po (w 0 7)) (po + 1) (w 0 8)) (po + 1 + 1) (w 7 2)) (po + 1 + 1 + 1) (w 1) 12) (po + 1 + 1 + 1 + 12) (w 2) 12) (po + 1 + 1 + 1 + 12 + 12) (w 3) 12) (po + 1 + 1 + 1 + 12 + 12 + 12) (w 4) 12) (po + 1 + 1 + 1 + 12 + 12 + 12 + 12) (w 5) 8) (po + 1 + 1 + 1 + 12 + 12 + 12 + 12 + 8) (w 6) 8) (po + 1 + 1 + 1 + 12 + 12 + 12 + 12 + 8 + 8) (w 8) 8) w h37 (by omega)) (cwV 2 S.2.2.2.2 gX12_passAll_X12_passRow rfl rfl rfl (by decide +kernel) ⟨Nat.le_of_ble_eq_true rfl, Nat.le_of_ble_eq_true rfl⟩) (by decide) rfl rfl rfl hl.1 rfl (Nat.le_of_ble_eq_true rfl) dX12_passAll_113 ⟨Nat.zero_le _, Nat.zero_le _⟩ (fun H locs Z => ?_)
  refine uret_v S hK Z hre hlk dX12_passAll_116 ?_
  exact rfl
set_option maxHeartbeats 4000000 in
set_option maxRecDepth 100000 in
theorem c_X12_passAllR (l : Launch) (G : uG) (M : uM) (po : Nat) (K : Nat → Nat) (w : Nat → Nat → Nat) (h37 : M.1 71 37 = 0) (hpo : po + 83 ≤ 180) : CTv l G yX12_passAll wsX12_passAll 2 45 [.ref (G.2.2 71)] (uPM (uKp M po K) w) (fun M2 => M2 = uPM (uKp M (po + 83) K) (rAll K po w)) := by
  refine ustart_v (cc := cX12_passAll) (maxL := 1) (ret := none) (own := RX12) rfl (by decide) rfl (Nat.le_of_ble_eq_true rfl) ?_
  intro xp xe xs xm xa xb xt xc xA ls S hK hA Z hre hlk hl
  have hl : lv_has ls 1 [(0, .ref (G.2.2 71))] := hl
  refine lv_aload_n S.1 S.2.1 dX12_passAll_0 rfl (lv_at hl 0 rfl) ?_
  refine lv_aload_n S.1 S.2.1 dX12_passAll_1 rfl (lv_at hl 0 rfl) ?_
  refine lv_aload_n S.1 S.2.1 dX12_passAll_2 rfl (lv_at hl 0 rfl) ?_
  refine ug_i S hK Z (j := 6) (by decide) rfl rfl rfl (by decide) iX12_passAll_X12 qX12_passAll_84 dX12_passAll_3 ?_
  refine utop (y := (nI (w 0 7))) (uPM_6 (uKp M po K) w) ?_
  refine ud_Vi (As := [.int (nI (w 0 7))]) (rest := [.ref (G.2.2 71)]) S hK hA Z (c_X12_passR l G (w 0 7) M po K w h37 (by omega)) (cwV 1 S.2.2.2.2 gX12_passAll_X12_pass rfl rfl rfl (by decide +kernel) ⟨Nat.le_of_ble_eq_true rfl, Nat.le_of_ble_eq_true rfl⟩) (by decide) rfl rfl rfl hl.1 rfl (Nat.le_of_ble_eq_true rfl) dX12_passAll_6 ⟨Nat.zero_le _, Nat.zero_le _⟩ (fun H locs Z => ?_)
  refine up_i S hK Z (j := 6) (by decide) rfl rfl rfl (by decide) iX12_passAll_X12 tyX12_ok nmX12 qX12_passAll_84 rfl rfl rfl dX12_passAll_9 (fun H locs Z => ?_)
  have Z := uZ_eq (uPM_s0 (uKp M (po + 1) K) w (K po) (Or.inl ⟨rfl, rfl, rfl⟩)) Z
  refine lv_aload_n S.1 S.2.1 dX12_passAll_12 rfl (lv_at hl 0 rfl) ?_
  refine lv_aload_n S.1 S.2.1 dX12_passAll_13 rfl (lv_at hl 0 rfl) ?_
  refine lv_aload_n S.1 S.2.1 dX12_passAll_14 rfl (lv_at hl 0 rfl) ?_
  refine ug_i S hK Z (j := 7) (by decide) rfl rfl rfl (by decide) iX12_passAll_X12 qX12_passAll_180 dX12_passAll_15 ?_
  refine utop (y := (nI ((wu w 0 7 (K po)) 0 8))) (uPM_7 (uKp M (po + 1) K) (wu w 0 7 (K po))) ?_
  refine ud_Vi (As := [.int (nI ((wu w 0 7 (K po)) 0 8))]) (rest := [.ref (G.2.2 71)]) S hK hA Z (c_X12_passR l G ((wu w 0 7 (K po)) 0 8) M (po + 1) K (wu w 0 7 (K po)) h37 (by omega)) (cwV 1 S.2.2.2.2 gX12_passAll_X12_pass rfl rfl rfl (by decide +kernel) ⟨Nat.le_of_ble_eq_true rfl, Nat.le_of_ble_eq_true rfl⟩) (by decide) rfl rfl rfl hl.1 rfl (Nat.le_of_ble_eq_true rfl) dX12_passAll_18 ⟨Nat.zero_le _, Nat.zero_le _⟩ (fun H locs Z => ?_)
  refine up_i S hK Z (j := 7) (by decide) rfl rfl rfl (by decide) iX12_passAll_X12 tyX12_ok nmX12 qX12_passAll_180 rfl rfl rfl dX12_passAll_21 (fun H locs Z => ?_)
  have Z := uZ_eq (uPM_s0 (uKp M (po + 1 + 1) K) (wu w 0 7 (K po)) (K (po + 1)) (Or.inr (Or.inl ⟨rfl, rfl, rfl⟩))) Z
  refine lv_aload_n S.1 S.2.1 dX12_passAll_24 rfl (lv_at hl 0 rfl) ?_
  refine lv_aload_n S.1 S.2.1 dX12_passAll_25 rfl (lv_at hl 0 rfl) ?_
  refine lv_aload_n S.1 S.2.1 dX12_passAll_26 rfl (lv_at hl 0 rfl) ?_
  refine ug_i S hK Z (j := 10) (by decide) rfl rfl rfl (by decide) iX12_passAll_X12 qX12_passAll_300 dX12_passAll_27 ?_
  refine utop (y := (nI ((wu (wu w 0 7 (K po)) 0 8 (K (po + 1))) 7 2))) (uPM_10 (uKp M (po + 1 + 1) K) (wu (wu w 0 7 (K po)) 0 8 (K (po + 1)))) ?_
  refine ud_Vi (As := [.int (nI ((wu (wu w 0 7 (K po)) 0 8 (K (po + 1))) 7 2))]) (rest := [.ref (G.2.2 71)]) S hK hA Z (c_X12_passR l G ((wu (wu w 0 7 (K po)) 0 8 (K (po + 1))) 7 2) M (po + 1 + 1) K (wu (wu w 0 7 (K po)) 0 8 (K (po + 1))) h37 (by omega)) (cwV 1 S.2.2.2.2 gX12_passAll_X12_pass rfl rfl rfl (by decide +kernel) ⟨Nat.le_of_ble_eq_true rfl, Nat.le_of_ble_eq_true rfl⟩) (by decide) rfl rfl rfl hl.1 rfl (Nat.le_of_ble_eq_true rfl) dX12_passAll_30 ⟨Nat.zero_le _, Nat.zero_le _⟩ (fun H locs Z => ?_)
  refine up_i S hK Z (j := 10) (by decide) rfl rfl rfl (by decide) iX12_passAll_X12 tyX12_ok nmX12 qX12_passAll_300 rfl rfl rfl dX12_passAll_33 (fun H locs Z => ?_)
  have Z := uZ_eq (uPM_s0 (uKp M (po + 1 + 1 + 1) K) (wu (wu w 0 7 (K po)) 0 8 (K (po + 1))) (K (po + 1 + 1)) (Or.inr (Or.inr ⟨rfl, rfl, rfl⟩))) Z
  refine lv_aload_n S.1 S.2.1 dX12_passAll_36 rfl (lv_at hl 0 rfl) ?_
  refine lv_aload_n S.1 S.2.1 dX12_passAll_37 rfl (lv_at hl 0 rfl) ?_
  refine ug_r S hK Z (j := 0) 72 (by decide) rfl rfl rfl (by decide) iX12_passAll_X12 qX12_passAll_7 dX12_passAll_38 ?_
  refine lv_bipush (v := 12) S.1 S.2.1 dX12_passAll_41 (by decide) ?_
  refine ud_Vv (As := [.ref (G.2.2 72), .int 12]) (rest := []) S hK hA Z (c_X12_passRowR72 l G M (po + 1 + 1 + 1) K (wu (wu (wu w 0 7 (K po)) 0 8 (K (po + 1))) 7 2 (K (po + 1 + 1))) h37 (by omega)) (cwV 2 S.2.2.2.2 gX12_passAll_X12_passRow rfl rfl rfl (by decide +kernel) ⟨Nat.le_of_ble_eq_true rfl, Nat.le_of_ble_eq_true rfl⟩) (by decide) rfl rfl rfl hl.1 rfl (Nat.le_of_ble_eq_true rfl) dX12_passAll_43 ⟨Nat.zero_le _, Nat.zero_le _⟩ (fun H locs Z => ?_)
  refine lv_aload_n S.1 S.2.1 dX12_passAll_46 rfl (lv_at hl 0 rfl) ?_
  refine lv_aload_n S.1 S.2.1 dX12_passAll_47 rfl (lv_at hl 0 rfl) ?_
  refine ug_r S hK Z (j := 1) 73 (by decide) rfl rfl rfl (by decide) iX12_passAll_X12 qX12_passAll_13 dX12_passAll_48 ?_
  refine lv_bipush (v := 12) S.1 S.2.1 dX12_passAll_51 (by decide) ?_
  refine ud_Vv (As := [.ref (G.2.2 73), .int 12]) (rest := []) S hK hA Z (c_X12_passRowR73 l G M (po + 1 + 1 + 1 + 12) K (kR (wu (wu (wu w 0 7 (K po)) 0 8 (K (po + 1))) 7 2 (K (po + 1 + 1))) 1 K (po + 1 + 1 + 1) 12) h37 (by omega)) (cwV 2 S.2.2.2.2 gX12_passAll_X12_passRow rfl rfl rfl (by decide +kernel) ⟨Nat.le_of_ble_eq_true rfl, Nat.le_of_ble_eq_true rfl⟩) (by decide) rfl rfl rfl hl.1 rfl (Nat.le_of_ble_eq_true rfl) dX12_passAll_53 ⟨Nat.zero_le _, Nat.zero_le _⟩ (fun H locs Z => ?_)
  refine lv_aload_n S.1 S.2.1 dX12_passAll_56 rfl (lv_at hl 0 rfl) ?_
  refine lv_aload_n S.1 S.2.1 dX12_passAll_57 rfl (lv_at hl 0 rfl) ?_
  refine ug_r S hK Z (j := 2) 74 (by decide) rfl rfl rfl (by decide) iX12_passAll_X12 qX12_passAll_16 dX12_passAll_58 ?_
  refine lv_bipush (v := 12) S.1 S.2.1 dX12_passAll_61 (by decide) ?_
  refine ud_Vv (As := [.ref (G.2.2 74), .int 12]) (rest := []) S hK hA Z (c_X12_passRowR74 l G M (po + 1 + 1 + 1 + 12 + 12) K (kR (kR (wu (wu (wu w 0 7 (K po)) 0 8 (K (po + 1))) 7 2 (K (po + 1 + 1))) 1 K (po + 1 + 1 + 1) 12) 2 K (po + 1 + 1 + 1 + 12) 12) h37 (by omega)) (cwV 2 S.2.2.2.2 gX12_passAll_X12_passRow rfl rfl rfl (by decide +kernel) ⟨Nat.le_of_ble_eq_true rfl, Nat.le_of_ble_eq_true rfl⟩) (by decide) rfl rfl rfl hl.1 rfl (Nat.le_of_ble_eq_true rfl) dX12_passAll_63 ⟨Nat.zero_le _, Nat.zero_le _⟩ (fun H locs Z => ?_)
  refine lv_aload_n S.1 S.2.1 dX12_passAll_66 rfl (lv_at hl 0 rfl) ?_
  refine lv_aload_n S.1 S.2.1 dX12_passAll_67 rfl (lv_at hl 0 rfl) ?_
  refine ug_r S hK Z (j := 3) 75 (by decide) rfl rfl rfl (by decide) iX12_passAll_X12 qX12_passAll_19 dX12_passAll_68 ?_
  refine lv_bipush (v := 12) S.1 S.2.1 dX12_passAll_71 (by decide) ?_
  refine ud_Vv (As := [.ref (G.2.2 75), .int 12]) (rest := []) S hK hA Z (c_X12_passRowR75 l G M (po + 1 + 1 + 1 + 12 + 12 + 12) K (kR (kR (kR (wu (wu (wu w 0 7 (K po)) 0 8 (K (po + 1))) 7 2 (K (po + 1 + 1))) 1 K (po + 1 + 1 + 1) 12) 2 K (po + 1 + 1 + 1 + 12) 12) 3 K (po + 1 + 1 + 1 + 12 + 12) 12) h37 (by omega)) (cwV 2 S.2.2.2.2 gX12_passAll_X12_passRow rfl rfl rfl (by decide +kernel) ⟨Nat.le_of_ble_eq_true rfl, Nat.le_of_ble_eq_true rfl⟩) (by decide) rfl rfl rfl hl.1 rfl (Nat.le_of_ble_eq_true rfl) dX12_passAll_73 ⟨Nat.zero_le _, Nat.zero_le _⟩ (fun H locs Z => ?_)
  refine lv_aload_n S.1 S.2.1 dX12_passAll_76 rfl (lv_at hl 0 rfl) ?_
  refine lv_aload_n S.1 S.2.1 dX12_passAll_77 rfl (lv_at hl 0 rfl) ?_
  refine ug_r S hK Z (j := 4) 76 (by decide) rfl rfl rfl (by decide) iX12_passAll_X12 qX12_passAll_22 dX12_passAll_78 ?_
  refine lv_bipush (v := 8) S.1 S.2.1 dX12_passAll_81 (by decide) ?_
  refine ud_Vv (As := [.ref (G.2.2 76), .int 8]) (rest := []) S hK hA Z (c_X12_passRowR76 l G M (po + 1 + 1 + 1 + 12 + 12 + 12 + 12) K (kR (kR (kR (kR (wu (wu (wu w 0 7 (K po)) 0 8 (K (po + 1))) 7 2 (K (po + 1 + 1))) 1 K (po + 1 + 1 + 1) 12) 2 K (po + 1 + 1 + 1 + 12) 12) 3 K (po + 1 + 1 + 1 + 12 + 12) 12) 4 K (po + 1 + 1 + 1 + 12 + 12 + 12) 12) h37 (by omega)) (cwV 2 S.2.2.2.2 gX12_passAll_X12_passRow rfl rfl rfl (by decide +kernel) ⟨Nat.le_of_ble_eq_true rfl, Nat.le_of_ble_eq_true rfl⟩) (by decide) rfl rfl rfl hl.1 rfl (Nat.le_of_ble_eq_true rfl) dX12_passAll_83 ⟨Nat.zero_le _, Nat.zero_le _⟩ (fun H locs Z => ?_)
  refine lv_aload_n S.1 S.2.1 dX12_passAll_86 rfl (lv_at hl 0 rfl) ?_
  refine lv_aload_n S.1 S.2.1 dX12_passAll_87 rfl (lv_at hl 0 rfl) ?_
  refine ug_r S hK Z (j := 5) 77 (by decide) rfl rfl rfl (by decide) iX12_passAll_X12 qX12_passAll_25 dX12_passAll_88 ?_
  refine lv_bipush (v := 8) S.1 S.2.1 dX12_passAll_91 (by decide) ?_
  refine ud_Vv (As := [.ref (G.2.2 77), .int 8]) (rest := []) S hK hA Z (c_X12_passRowR77 l G M (po + 1 + 1 + 1 + 12 + 12 + 12 + 12 + 8) K (kR (kR (kR (kR (kR (wu (wu (wu w 0 7 (K po)) 0 8 (K (po + 1))) 7 2 (K (po + 1 + 1))) 1 K (po + 1 + 1 + 1) 12) 2 K (po + 1 + 1 + 1 + 12) 12) 3 K (po + 1 + 1 + 1 + 12 + 12) 12) 4 K (po + 1 + 1 + 1 + 12 + 12 + 12) 12) 5 K (po + 1 + 1 + 1 + 12 + 12 + 12 + 12) 8) h37 (by omega)) (cwV 2 S.2.2.2.2 gX12_passAll_X12_passRow rfl rfl rfl (by decide +kernel) ⟨Nat.le_of_ble_eq_true rfl, Nat.le_of_ble_eq_true rfl⟩) (by decide) rfl rfl rfl hl.1 rfl (Nat.le_of_ble_eq_true rfl) dX12_passAll_93 ⟨Nat.zero_le _, Nat.zero_le _⟩ (fun H locs Z => ?_)
  refine lv_aload_n S.1 S.2.1 dX12_passAll_96 rfl (lv_at hl 0 rfl) ?_
  refine lv_aload_n S.1 S.2.1 dX12_passAll_97 rfl (lv_at hl 0 rfl) ?_
  refine ug_r S hK Z (j := 8) 78 (by decide) rfl rfl rfl (by decide) iX12_passAll_X12 qX12_passAll_28 dX12_passAll_98 ?_
  refine lv_bipush (v := 8) S.1 S.2.1 dX12_passAll_101 (by decide) ?_
  refine ud_Vv (As := [.ref (G.2.2 78), .int 8]) (rest := []) S hK hA Z (c_X12_passRowR78 l G M (po + 1 + 1 + 1 + 12 + 12 + 12 + 12 + 8 + 8) K (kR (kR (kR (kR (kR (kR (wu (wu (wu w 0 7 (K po)) 0 8 (K (po + 1))) 7 2 (K (po + 1 + 1))) 1 K (po + 1 + 1 + 1) 12) 2 K (po + 1 + 1 + 1 + 12) 12) 3 K (po + 1 + 1 + 1 + 12 + 12) 12) 4 K (po + 1 + 1 + 1 + 12 + 12 + 12) 12) 5 K (po + 1 + 1 + 1 + 12 + 12 + 12 + 12) 8) 6 K (po + 1 + 1 + 1 + 12 + 12 + 12 + 12 + 8) 8) h37 (by omega)) (cwV 2 S.2.2.2.2 gX12_passAll_X12_passRow rfl rfl rfl (by decide +kernel) ⟨Nat.le_of_ble_eq_true rfl, Nat.le_of_ble_eq_true rfl⟩) (by decide) rfl rfl rfl hl.1 rfl (Nat.le_of_ble_eq_true rfl) dX12_passAll_103 ⟨Nat.zero_le _, Nat.zero_le _⟩ (fun H locs Z => ?_)
  refine lv_aload_n S.1 S.2.1 dX12_passAll_106 rfl (lv_at hl 0 rfl) ?_
  refine lv_aload_n S.1 S.2.1 dX12_passAll_107 rfl (lv_at hl 0 rfl) ?_
  refine ug_r S hK Z (j := 9) 79 (by decide) rfl rfl rfl (by decide) iX12_passAll_X12 qX12_passAll_31 dX12_passAll_108 ?_
  refine lv_bipush (v := 8) S.1 S.2.1 dX12_passAll_111 (by decide) ?_
  refine ud_Vv (As := [.ref (G.2.2 79), .int 8]) (rest := []) S hK hA Z (c_X12_passRowR79 l G M (po + 1 + 1 + 1 + 12 + 12 + 12 + 12 + 8 + 8 + 8) K (kR (kR (kR (kR (kR (kR (kR (wu (wu (wu w 0 7 (K po)) 0 8 (K (po + 1))) 7 2 (K (po + 1 + 1))) 1 K (po + 1 + 1 + 1) 12) 2 K (po + 1 + 1 + 1 + 12) 12) 3 K (po + 1 + 1 + 1 + 12 + 12) 12) 4 K (po + 1 + 1 + 1 + 12 + 12 + 12) 12) 5 K (po + 1 + 1 + 1 + 12 + 12 + 12 + 12) 8) 6 K (po + 1 + 1 + 1 + 12 + 12 + 12 + 12 + 8) 8) 8 K (po + 1 + 1 + 1 + 12 + 12 + 12 + 12 + 8 + 8) 8) h37 (by omega)) (cwV 2 S.2.2.2.2 gX12_passAll_X12_passRow rfl rfl rfl (by decide +kernel) ⟨Nat.le_of_ble_eq_true rfl, Nat.le_of_ble_eq_true rfl⟩) (by decide) rfl rfl rfl hl.1 rfl (Nat.le_of_ble_eq_true rfl) dX12_passAll_113 ⟨Nat.zero_le _, Nat.zero_le _⟩ (fun H locs Z => ?_)
  refine uret_v S hK Z hre hlk dX12_passAll_116 ?_
  exact rfl
set_option maxHeartbeats 4000000 in
set_option maxRecDepth 100000 in
theorem c_X12_image0 (l : Launch) (G : uG) (M : uM) (w : Nat → Nat → Nat) (K : Nat → Nat) (hr : uMd M w) (hKe : ∀ i, M.1 94 i = nI (K i)) : CTi l G yX12_image wsX12_image 3 65 [.ref (G.2.2 71), .int 0] M (fun r M2 => r = 1 ∧ uMd M2 w ∧ (∃ K2, (∀ i, M2.1 94 i = nI (K2 i)) ∧ kpW K2 0 w ∧ ∀ i, (i < 0 ∨ 0 + 83 ≤ i) → K2 i = K i) ∧ (M2.1 95 0 = 1 ∧ M2.1 95 1 = M.1 95 1) ∧ (∀ a i, (a < 71 ∨ a = 80 ∨ 96 ≤ a ∨ (a = 71 ∧ i = 12)) → M2.1 a i = M.1 a i)) := by
  refine ustart_i (cc := cX12_image) (maxL := 2) (ret := (some .int)) (own := RX12) rfl (by decide) rfl (Nat.le_of_ble_eq_true rfl) ?_
  intro xp xe xs xm xa xb xt xc xA ls S hK hA Z hre hlk hl
  have hl : lv_has ls 2 [(0, .ref (G.2.2 71)), (1, .int 0)] := hl
  refine lv_iload_n S.1 S.2.1 dX12_image_0 rfl (lv_at hl 1 rfl) ?_
  refine lv_i2l (v := 0) S.1 S.2.1 dX12_image_1 (by decide) ?_
  refine lv_lconst (v := 0) S.1 S.2.1 dX12_image_2 (by decide) ?_
  refine lv_lconst (v := 1) S.1 S.2.1 dX12_image_3 (by decide) ?_
  refine uc_Si (As := [.long 0, .long 0, .long 1]) (rest := []) S hK hA Z (c_X12_in l G 0 0 1 _ _ _ (by decide) (by decide) (by decide) M) (va_cwS 3 S.2.2.2.2 gX12_image_X12_in rfl rfl rfl (by decide +kernel) ⟨Nat.le_of_ble_eq_true rfl, Nat.le_of_ble_eq_true rfl⟩) rfl hl.1 rfl (Nat.le_of_ble_eq_true rfl) dX12_image_4 ⟨Nat.zero_le _, Nat.zero_le _⟩ (fun r_1 M_1 H locs hp Z => ?_)
  obtain ⟨⟨rfl, w_1⟩ | ⟨rfl, w_1⟩, hM_1⟩ := hp
  · skip
    rw [hM_1] at Z
    refine lv_if_ne (tgt := 13) S.1 S.2.1 dX12_image_7 (by decide) (fun _ => ?_) (fun c => absurd c (by decide))
    obtain ⟨p0, hp0⟩ := nI_ex (M.1 71 36)
    have Z := uZ_eq (show M = uPM (uKp M p0 K) w from by rw [uKp_id hp0 hKe]; exact hr.symm) Z
    refine lv_aload_n S.1 S.2.1 dX12_image_13 rfl (lv_at hl 0 rfl) ?_
    refine lv_bipush (v := 90) S.1 S.2.1 dX12_image_14 (by decide) ?_
    refine lv_iload_n S.1 S.2.1 dX12_image_16 rfl (lv_at hl 1 rfl) ?_
    refine lv_imul S.1 S.2.1 dX12_image_17 ?_
    refine utop (y := 0) (by decide) ?_
    refine up_i S hK Z (j := 36) (by decide) rfl rfl rfl (by decide) iX12_image_X12 tyX12_ok nmX12 qX12_image_351 rfl rfl rfl dX12_image_18 (fun H locs Z => ?_)
    have Z := uZ_eq ((uPM_c (uKp M p0 K) w (a := 71) (i := 36) (nI 0) (by unfold mO; omega)).trans (congrArg (fun X => uPM X w) (uKp_s36 M p0 K 0))) Z
    refine lv_aload_n S.1 S.2.1 dX12_image_21 rfl (lv_at hl 0 rfl) ?_
    refine lv_iconst (v := 1) S.1 S.2.1 dX12_image_22 (by decide) ?_
    refine up_i S hK Z (j := 37) (by decide) rfl rfl rfl (by decide) iX12_image_X12 tyX12_ok nmX12 qX12_image_347 rfl rfl rfl dX12_image_23 (fun H locs Z => ?_)
    have Z := uZ_eq ((uPM_c (uKp M 0 K) w (a := 71) (i := 37) 1 (by unfold mO; omega)).trans (congrArg (fun X => uPM X w) (uKp_s37 M 0 K 1))) Z
    refine lv_aload_n S.1 S.2.1 dX12_image_26 rfl (lv_at hl 0 rfl) ?_
    refine ud_Vv (As := []) (rest := []) S hK hA Z (c_X12_passAllW l G (u1 M 71 37 1) 0 K w rfl (by decide)) (cwV 0 S.2.2.2.2 gX12_image_X12_passAll rfl rfl rfl (by decide +kernel) ⟨Nat.le_of_ble_eq_true rfl, Nat.le_of_ble_eq_true rfl⟩) (by decide) rfl rfl rfl hl.1 rfl (Nat.le_of_ble_eq_true rfl) dX12_image_27 ⟨Nat.zero_le _, Nat.zero_le _⟩ (fun H locs Z => ?_)
    refine lv_aload_n S.1 S.2.1 dX12_image_30 rfl (lv_at hl 0 rfl) ?_
    refine ug_r S hK Z (j := 35) 95 (by decide) rfl rfl rfl (by decide) iX12_image_X12 qX12_image_81 dX12_image_31 ?_
    refine lv_iload_n S.1 S.2.1 dX12_image_34 rfl (lv_at hl 1 rfl) ?_
    refine lv_iconst (v := 1) S.1 S.2.1 dX12_image_35 (by decide) ?_
    refine ua_zst S hK Z 0 (by decide) rfl rfl (by omega) (by decide) dX12_image_36 (fun H locs Z => ?_)
    refine lv_iconst (v := 1) S.1 S.2.1 dX12_image_37 (by decide) ?_
    refine uret_i S hK Z hre hlk dX12_image_38 ?_
    refine ⟨rfl, ?_, ⟨_, fun i => ?_, (kAll_ok K 0 w).1, (kAll_ok K 0 w).2⟩, ⟨?_, ?_⟩, fun a i q => ?_⟩
    · rw [uPM_c _ _ _ (by unfold mO; omega)]
      exact uPM_md _ _
    · rw [u1_1, if_neg (by omega), uPM_o _ _ (by unfold mO; omega), uKp_94]
    · rw [u1_1, if_pos ⟨rfl, rfl⟩]
    · rw [u1_1, if_neg (by omega), uPM_o _ _ (by unfold mO; omega), uKp_o _ _ _ (by omega), u1_1, if_neg (by omega)]
    · rw [u1_1, if_neg (by omega), uPM_o _ _ (by unfold mO; omega), uKp_o _ _ _ (by omega), u1_1, if_neg (by omega)]
  · skip
    rw [hM_1] at Z
    refine lv_if_ne (tgt := 13) S.1 S.2.1 dX12_image_7 (by decide) (fun c => absurd c (by decide)) (fun _ => ?_)
    refine lv_bipush (v := (-2)) S.1 S.2.1 dX12_image_10 (by decide) ?_
    refine uret_i S hK Z hre hlk dX12_image_12 ?_
    exact absurd (show inr (0 : Int32) 0 1 from ⟨by decide, by decide⟩) (by assumption)
set_option maxHeartbeats 4000000 in
set_option maxRecDepth 100000 in
theorem c_X12_restoreN0 (l : Launch) (G : uG) (M : uM) (h95 : M.1 95 0 = 0) : CTi l G yX12_restore wsX12_restore 3 65 [.ref (G.2.2 71), .int 0] M (fun r M2 => r = -3 ∧ M2 = M) := by
  refine ustart_i (cc := cX12_restore) (maxL := 2) (ret := (some .int)) (own := RX12) rfl (by decide) rfl (Nat.le_of_ble_eq_true rfl) ?_
  intro xp xe xs xm xa xb xt xc xA ls S hK hA Z hre hlk hl
  have hl : lv_has ls 2 [(0, .ref (G.2.2 71)), (1, .int 0)] := hl
  refine lv_iload_n S.1 S.2.1 dX12_restore_0 rfl (lv_at hl 1 rfl) ?_
  refine lv_i2l (v := 0) S.1 S.2.1 dX12_restore_1 (by decide) ?_
  refine lv_lconst (v := 0) S.1 S.2.1 dX12_restore_2 (by decide) ?_
  refine lv_lconst (v := 1) S.1 S.2.1 dX12_restore_3 (by decide) ?_
  refine uc_Si (As := [.long 0, .long 0, .long 1]) (rest := []) S hK hA Z (c_X12_in l G 0 0 1 _ _ _ (by decide) (by decide) (by decide) M) (va_cwS 3 S.2.2.2.2 gX12_restore_X12_in rfl rfl rfl (by decide +kernel) ⟨Nat.le_of_ble_eq_true rfl, Nat.le_of_ble_eq_true rfl⟩) rfl hl.1 rfl (Nat.le_of_ble_eq_true rfl) dX12_restore_4 ⟨Nat.zero_le _, Nat.zero_le _⟩ (fun r_1 M_1 H locs hp Z => ?_)
  obtain ⟨⟨rfl, w_1⟩ | ⟨rfl, w_1⟩, hM_1⟩ := hp
  · skip
    rw [hM_1] at Z
    refine lv_if_ne (tgt := 13) S.1 S.2.1 dX12_restore_7 (by decide) (fun _ => ?_) (fun c => absurd c (by decide))
    refine lv_aload_n S.1 S.2.1 dX12_restore_13 rfl (lv_at hl 0 rfl) ?_
    refine ug_r S hK Z (j := 35) 95 (by decide) rfl rfl rfl (by decide) iX12_restore_X12 qX12_restore_81 dX12_restore_14 ?_
    refine lv_iload_n S.1 S.2.1 dX12_restore_17 rfl (lv_at hl 1 rfl) ?_
    refine ua_zld S hK Z 0 (by decide) rfl rfl (by omega) dX12_restore_18 ?_
    refine utop (y := 0) h95 ?_
    refine lv_if_ne (tgt := 25) S.1 S.2.1 dX12_restore_19 (by decide) (fun c => absurd c (by decide)) (fun _ => ?_)
    refine lv_bipush (v := (-3)) S.1 S.2.1 dX12_restore_22 (by decide) ?_
    refine uret_i S hK Z hre hlk dX12_restore_24 ?_
    exact ⟨rfl, rfl⟩
  · skip
    rw [hM_1] at Z
    refine lv_if_ne (tgt := 13) S.1 S.2.1 dX12_restore_7 (by decide) (fun c => absurd c (by decide)) (fun _ => ?_)
    refine lv_bipush (v := (-2)) S.1 S.2.1 dX12_restore_10 (by decide) ?_
    refine uret_i S hK Z hre hlk dX12_restore_12 ?_
    exact absurd (show inr (0 : Int32) 0 1 from ⟨by decide, by decide⟩) (by assumption)
set_option maxHeartbeats 4000000 in
set_option maxRecDepth 100000 in
theorem c_X12_restoreY0 (l : Launch) (G : uG) (M : uM) (w : Nat → Nat → Nat) (K : Nat → Nat) (hr : uMd M w) (hKe : ∀ i, M.1 94 i = nI (K i)) (v : Nat → Nat → Nat) (h95 : M.1 95 0 = 1) (hkp : kpW K 0 v) (hzw : zOut w) (hzv : zOut v) : CTi l G yX12_restore wsX12_restore 3 65 [.ref (G.2.2 71), .int 0] M (fun r M2 => r = 1 ∧ uMd M2 v ∧ (∀ i, M2.1 94 i = nI (K i)) ∧ (∀ i, M2.1 95 i = M.1 95 i) ∧ (∀ a i, (a < 71 ∨ a = 80 ∨ 96 ≤ a ∨ (a = 71 ∧ i = 12)) → M2.1 a i = M.1 a i)) := by
  refine ustart_i (cc := cX12_restore) (maxL := 2) (ret := (some .int)) (own := RX12) rfl (by decide) rfl (Nat.le_of_ble_eq_true rfl) ?_
  intro xp xe xs xm xa xb xt xc xA ls S hK hA Z hre hlk hl
  have hl : lv_has ls 2 [(0, .ref (G.2.2 71)), (1, .int 0)] := hl
  refine lv_iload_n S.1 S.2.1 dX12_restore_0 rfl (lv_at hl 1 rfl) ?_
  refine lv_i2l (v := 0) S.1 S.2.1 dX12_restore_1 (by decide) ?_
  refine lv_lconst (v := 0) S.1 S.2.1 dX12_restore_2 (by decide) ?_
  refine lv_lconst (v := 1) S.1 S.2.1 dX12_restore_3 (by decide) ?_
  refine uc_Si (As := [.long 0, .long 0, .long 1]) (rest := []) S hK hA Z (c_X12_in l G 0 0 1 _ _ _ (by decide) (by decide) (by decide) M) (va_cwS 3 S.2.2.2.2 gX12_restore_X12_in rfl rfl rfl (by decide +kernel) ⟨Nat.le_of_ble_eq_true rfl, Nat.le_of_ble_eq_true rfl⟩) rfl hl.1 rfl (Nat.le_of_ble_eq_true rfl) dX12_restore_4 ⟨Nat.zero_le _, Nat.zero_le _⟩ (fun r_1 M_1 H locs hp Z => ?_)
  obtain ⟨⟨rfl, w_1⟩ | ⟨rfl, w_1⟩, hM_1⟩ := hp
  · skip
    rw [hM_1] at Z
    refine lv_if_ne (tgt := 13) S.1 S.2.1 dX12_restore_7 (by decide) (fun _ => ?_) (fun c => absurd c (by decide))
    obtain ⟨p0, hp0⟩ := nI_ex (M.1 71 36)
    have Z := uZ_eq (show M = uPM (uKp M p0 K) w from by rw [uKp_id hp0 hKe]; exact hr.symm) Z
    refine lv_aload_n S.1 S.2.1 dX12_restore_13 rfl (lv_at hl 0 rfl) ?_
    refine ug_r S hK Z (j := 35) 95 (by decide) rfl rfl rfl (by decide) iX12_restore_X12 qX12_restore_81 dX12_restore_14 ?_
    refine lv_iload_n S.1 S.2.1 dX12_restore_17 rfl (lv_at hl 1 rfl) ?_
    refine ua_zld S hK Z 0 (by decide) rfl rfl (by omega) dX12_restore_18 ?_
    refine utop (y := 1) ((uPM_o (uKp M p0 K) w (a := 95) (i := 0) (by unfold mO; omega)).trans ((uKp_o M p0 K (by omega)).trans h95)) ?_
    refine lv_if_ne (tgt := 25) S.1 S.2.1 dX12_restore_19 (by decide) (fun _ => ?_) (fun c => absurd c (by decide))
    refine lv_aload_n S.1 S.2.1 dX12_restore_25 rfl (lv_at hl 0 rfl) ?_
    refine lv_bipush (v := 90) S.1 S.2.1 dX12_restore_26 (by decide) ?_
    refine lv_iload_n S.1 S.2.1 dX12_restore_28 rfl (lv_at hl 1 rfl) ?_
    refine lv_imul S.1 S.2.1 dX12_restore_29 ?_
    refine utop (y := 0) (by decide) ?_
    refine up_i S hK Z (j := 36) (by decide) rfl rfl rfl (by decide) iX12_restore_X12 tyX12_ok nmX12 qX12_restore_351 rfl rfl rfl dX12_restore_30 (fun H locs Z => ?_)
    have Z := uZ_eq ((uPM_c (uKp M p0 K) w (a := 71) (i := 36) (nI 0) (by unfold mO; omega)).trans (congrArg (fun X => uPM X w) (uKp_s36 M p0 K 0))) Z
    refine lv_aload_n S.1 S.2.1 dX12_restore_33 rfl (lv_at hl 0 rfl) ?_
    refine lv_iconst (v := 0) S.1 S.2.1 dX12_restore_34 (by decide) ?_
    refine up_i S hK Z (j := 37) (by decide) rfl rfl rfl (by decide) iX12_restore_X12 tyX12_ok nmX12 qX12_restore_347 rfl rfl rfl dX12_restore_35 (fun H locs Z => ?_)
    have Z := uZ_eq ((uPM_c (uKp M 0 K) w (a := 71) (i := 37) 0 (by unfold mO; omega)).trans (congrArg (fun X => uPM X w) (uKp_s37 M 0 K 0))) Z
    refine lv_aload_n S.1 S.2.1 dX12_restore_38 rfl (lv_at hl 0 rfl) ?_
    refine ud_Vv (As := []) (rest := []) S hK hA Z (c_X12_passAllR l G (u1 M 71 37 0) 0 K w rfl (by decide)) (cwV 0 S.2.2.2.2 gX12_restore_X12_passAll rfl rfl rfl (by decide +kernel) ⟨Nat.le_of_ble_eq_true rfl, Nat.le_of_ble_eq_true rfl⟩) (by decide) rfl rfl rfl hl.1 rfl (Nat.le_of_ble_eq_true rfl) dX12_restore_39 ⟨Nat.zero_le _, Nat.zero_le _⟩ (fun H locs Z => ?_)
    rw [rAll_ok hkp hzw hzv] at Z
    refine lv_iconst (v := 1) S.1 S.2.1 dX12_restore_42 (by decide) ?_
    refine uret_i S hK Z hre hlk dX12_restore_43 ?_
    refine ⟨rfl, uPM_md _ _, fun i => ?_, fun i => ?_, fun a i q => ?_⟩
    · rw [uPM_o _ _ (by unfold mO; omega), uKp_94]
    · rw [uPM_o _ _ (by unfold mO; omega), uKp_o _ _ _ (by omega), u1_1, if_neg (by omega)]
    · rw [uPM_o _ _ (by unfold mO; omega), uKp_o _ _ _ (by omega), u1_1, if_neg (by omega)]
  · skip
    rw [hM_1] at Z
    refine lv_if_ne (tgt := 13) S.1 S.2.1 dX12_restore_7 (by decide) (fun c => absurd c (by decide)) (fun _ => ?_)
    refine lv_bipush (v := (-2)) S.1 S.2.1 dX12_restore_10 (by decide) ?_
    refine uret_i S hK Z hre hlk dX12_restore_12 ?_
    exact absurd (show inr (0 : Int32) 0 1 from ⟨by decide, by decide⟩) (by assumption)
set_option maxHeartbeats 4000000 in
set_option maxRecDepth 100000 in
theorem c_X12_image1 (l : Launch) (G : uG) (M : uM) (w : Nat → Nat → Nat) (K : Nat → Nat) (hr : uMd M w) (hKe : ∀ i, M.1 94 i = nI (K i)) : CTi l G yX12_image wsX12_image 3 65 [.ref (G.2.2 71), .int 1] M (fun r M2 => r = 1 ∧ uMd M2 w ∧ (∃ K2, (∀ i, M2.1 94 i = nI (K2 i)) ∧ kpW K2 90 w ∧ ∀ i, (i < 90 ∨ 90 + 83 ≤ i) → K2 i = K i) ∧ (M2.1 95 1 = 1 ∧ M2.1 95 0 = M.1 95 0) ∧ (∀ a i, (a < 71 ∨ a = 80 ∨ 96 ≤ a ∨ (a = 71 ∧ i = 12)) → M2.1 a i = M.1 a i)) := by
  refine ustart_i (cc := cX12_image) (maxL := 2) (ret := (some .int)) (own := RX12) rfl (by decide) rfl (Nat.le_of_ble_eq_true rfl) ?_
  intro xp xe xs xm xa xb xt xc xA ls S hK hA Z hre hlk hl
  have hl : lv_has ls 2 [(0, .ref (G.2.2 71)), (1, .int 1)] := hl
  refine lv_iload_n S.1 S.2.1 dX12_image_0 rfl (lv_at hl 1 rfl) ?_
  refine lv_i2l (v := 1) S.1 S.2.1 dX12_image_1 (by decide) ?_
  refine lv_lconst (v := 0) S.1 S.2.1 dX12_image_2 (by decide) ?_
  refine lv_lconst (v := 1) S.1 S.2.1 dX12_image_3 (by decide) ?_
  refine uc_Si (As := [.long 1, .long 0, .long 1]) (rest := []) S hK hA Z (c_X12_in l G 1 0 1 _ _ _ (by decide) (by decide) (by decide) M) (va_cwS 3 S.2.2.2.2 gX12_image_X12_in rfl rfl rfl (by decide +kernel) ⟨Nat.le_of_ble_eq_true rfl, Nat.le_of_ble_eq_true rfl⟩) rfl hl.1 rfl (Nat.le_of_ble_eq_true rfl) dX12_image_4 ⟨Nat.zero_le _, Nat.zero_le _⟩ (fun r_1 M_1 H locs hp Z => ?_)
  obtain ⟨⟨rfl, w_1⟩ | ⟨rfl, w_1⟩, hM_1⟩ := hp
  · skip
    rw [hM_1] at Z
    refine lv_if_ne (tgt := 13) S.1 S.2.1 dX12_image_7 (by decide) (fun _ => ?_) (fun c => absurd c (by decide))
    obtain ⟨p0, hp0⟩ := nI_ex (M.1 71 36)
    have Z := uZ_eq (show M = uPM (uKp M p0 K) w from by rw [uKp_id hp0 hKe]; exact hr.symm) Z
    refine lv_aload_n S.1 S.2.1 dX12_image_13 rfl (lv_at hl 0 rfl) ?_
    refine lv_bipush (v := 90) S.1 S.2.1 dX12_image_14 (by decide) ?_
    refine lv_iload_n S.1 S.2.1 dX12_image_16 rfl (lv_at hl 1 rfl) ?_
    refine lv_imul S.1 S.2.1 dX12_image_17 ?_
    refine utop (y := 90) (by decide) ?_
    refine up_i S hK Z (j := 36) (by decide) rfl rfl rfl (by decide) iX12_image_X12 tyX12_ok nmX12 qX12_image_351 rfl rfl rfl dX12_image_18 (fun H locs Z => ?_)
    have Z := uZ_eq ((uPM_c (uKp M p0 K) w (a := 71) (i := 36) (nI 90) (by unfold mO; omega)).trans (congrArg (fun X => uPM X w) (uKp_s36 M p0 K 90))) Z
    refine lv_aload_n S.1 S.2.1 dX12_image_21 rfl (lv_at hl 0 rfl) ?_
    refine lv_iconst (v := 1) S.1 S.2.1 dX12_image_22 (by decide) ?_
    refine up_i S hK Z (j := 37) (by decide) rfl rfl rfl (by decide) iX12_image_X12 tyX12_ok nmX12 qX12_image_347 rfl rfl rfl dX12_image_23 (fun H locs Z => ?_)
    have Z := uZ_eq ((uPM_c (uKp M 90 K) w (a := 71) (i := 37) 1 (by unfold mO; omega)).trans (congrArg (fun X => uPM X w) (uKp_s37 M 90 K 1))) Z
    refine lv_aload_n S.1 S.2.1 dX12_image_26 rfl (lv_at hl 0 rfl) ?_
    refine ud_Vv (As := []) (rest := []) S hK hA Z (c_X12_passAllW l G (u1 M 71 37 1) 90 K w rfl (by decide)) (cwV 0 S.2.2.2.2 gX12_image_X12_passAll rfl rfl rfl (by decide +kernel) ⟨Nat.le_of_ble_eq_true rfl, Nat.le_of_ble_eq_true rfl⟩) (by decide) rfl rfl rfl hl.1 rfl (Nat.le_of_ble_eq_true rfl) dX12_image_27 ⟨Nat.zero_le _, Nat.zero_le _⟩ (fun H locs Z => ?_)
    refine lv_aload_n S.1 S.2.1 dX12_image_30 rfl (lv_at hl 0 rfl) ?_
    refine ug_r S hK Z (j := 35) 95 (by decide) rfl rfl rfl (by decide) iX12_image_X12 qX12_image_81 dX12_image_31 ?_
    refine lv_iload_n S.1 S.2.1 dX12_image_34 rfl (lv_at hl 1 rfl) ?_
    refine lv_iconst (v := 1) S.1 S.2.1 dX12_image_35 (by decide) ?_
    refine ua_zst S hK Z 1 (by decide) rfl rfl (by omega) (by decide) dX12_image_36 (fun H locs Z => ?_)
    refine lv_iconst (v := 1) S.1 S.2.1 dX12_image_37 (by decide) ?_
    refine uret_i S hK Z hre hlk dX12_image_38 ?_
    refine ⟨rfl, ?_, ⟨_, fun i => ?_, (kAll_ok K 90 w).1, (kAll_ok K 90 w).2⟩, ⟨?_, ?_⟩, fun a i q => ?_⟩
    · rw [uPM_c _ _ _ (by unfold mO; omega)]
      exact uPM_md _ _
    · rw [u1_1, if_neg (by omega), uPM_o _ _ (by unfold mO; omega), uKp_94]
    · rw [u1_1, if_pos ⟨rfl, rfl⟩]
    · rw [u1_1, if_neg (by omega), uPM_o _ _ (by unfold mO; omega), uKp_o _ _ _ (by omega), u1_1, if_neg (by omega)]
    · rw [u1_1, if_neg (by omega), uPM_o _ _ (by unfold mO; omega), uKp_o _ _ _ (by omega), u1_1, if_neg (by omega)]
  · skip
    rw [hM_1] at Z
    refine lv_if_ne (tgt := 13) S.1 S.2.1 dX12_image_7 (by decide) (fun c => absurd c (by decide)) (fun _ => ?_)
    refine lv_bipush (v := (-2)) S.1 S.2.1 dX12_image_10 (by decide) ?_
    refine uret_i S hK Z hre hlk dX12_image_12 ?_
    exact absurd (show inr (1 : Int32) 0 1 from ⟨by decide, by decide⟩) (by assumption)
set_option maxHeartbeats 4000000 in
set_option maxRecDepth 100000 in
theorem c_X12_restoreN1 (l : Launch) (G : uG) (M : uM) (h95 : M.1 95 1 = 0) : CTi l G yX12_restore wsX12_restore 3 65 [.ref (G.2.2 71), .int 1] M (fun r M2 => r = -3 ∧ M2 = M) := by
  refine ustart_i (cc := cX12_restore) (maxL := 2) (ret := (some .int)) (own := RX12) rfl (by decide) rfl (Nat.le_of_ble_eq_true rfl) ?_
  intro xp xe xs xm xa xb xt xc xA ls S hK hA Z hre hlk hl
  have hl : lv_has ls 2 [(0, .ref (G.2.2 71)), (1, .int 1)] := hl
  refine lv_iload_n S.1 S.2.1 dX12_restore_0 rfl (lv_at hl 1 rfl) ?_
  refine lv_i2l (v := 1) S.1 S.2.1 dX12_restore_1 (by decide) ?_
  refine lv_lconst (v := 0) S.1 S.2.1 dX12_restore_2 (by decide) ?_
  refine lv_lconst (v := 1) S.1 S.2.1 dX12_restore_3 (by decide) ?_
  refine uc_Si (As := [.long 1, .long 0, .long 1]) (rest := []) S hK hA Z (c_X12_in l G 1 0 1 _ _ _ (by decide) (by decide) (by decide) M) (va_cwS 3 S.2.2.2.2 gX12_restore_X12_in rfl rfl rfl (by decide +kernel) ⟨Nat.le_of_ble_eq_true rfl, Nat.le_of_ble_eq_true rfl⟩) rfl hl.1 rfl (Nat.le_of_ble_eq_true rfl) dX12_restore_4 ⟨Nat.zero_le _, Nat.zero_le _⟩ (fun r_1 M_1 H locs hp Z => ?_)
  obtain ⟨⟨rfl, w_1⟩ | ⟨rfl, w_1⟩, hM_1⟩ := hp
  · skip
    rw [hM_1] at Z
    refine lv_if_ne (tgt := 13) S.1 S.2.1 dX12_restore_7 (by decide) (fun _ => ?_) (fun c => absurd c (by decide))
    refine lv_aload_n S.1 S.2.1 dX12_restore_13 rfl (lv_at hl 0 rfl) ?_
    refine ug_r S hK Z (j := 35) 95 (by decide) rfl rfl rfl (by decide) iX12_restore_X12 qX12_restore_81 dX12_restore_14 ?_
    refine lv_iload_n S.1 S.2.1 dX12_restore_17 rfl (lv_at hl 1 rfl) ?_
    refine ua_zld S hK Z 1 (by decide) rfl rfl (by omega) dX12_restore_18 ?_
    refine utop (y := 0) h95 ?_
    refine lv_if_ne (tgt := 25) S.1 S.2.1 dX12_restore_19 (by decide) (fun c => absurd c (by decide)) (fun _ => ?_)
    refine lv_bipush (v := (-3)) S.1 S.2.1 dX12_restore_22 (by decide) ?_
    refine uret_i S hK Z hre hlk dX12_restore_24 ?_
    exact ⟨rfl, rfl⟩
  · skip
    rw [hM_1] at Z
    refine lv_if_ne (tgt := 13) S.1 S.2.1 dX12_restore_7 (by decide) (fun c => absurd c (by decide)) (fun _ => ?_)
    refine lv_bipush (v := (-2)) S.1 S.2.1 dX12_restore_10 (by decide) ?_
    refine uret_i S hK Z hre hlk dX12_restore_12 ?_
    exact absurd (show inr (1 : Int32) 0 1 from ⟨by decide, by decide⟩) (by assumption)
set_option maxHeartbeats 4000000 in
set_option maxRecDepth 100000 in
theorem c_X12_restoreY1 (l : Launch) (G : uG) (M : uM) (w : Nat → Nat → Nat) (K : Nat → Nat) (hr : uMd M w) (hKe : ∀ i, M.1 94 i = nI (K i)) (v : Nat → Nat → Nat) (h95 : M.1 95 1 = 1) (hkp : kpW K 90 v) (hzw : zOut w) (hzv : zOut v) : CTi l G yX12_restore wsX12_restore 3 65 [.ref (G.2.2 71), .int 1] M (fun r M2 => r = 1 ∧ uMd M2 v ∧ (∀ i, M2.1 94 i = nI (K i)) ∧ (∀ i, M2.1 95 i = M.1 95 i) ∧ (∀ a i, (a < 71 ∨ a = 80 ∨ 96 ≤ a ∨ (a = 71 ∧ i = 12)) → M2.1 a i = M.1 a i)) := by
  refine ustart_i (cc := cX12_restore) (maxL := 2) (ret := (some .int)) (own := RX12) rfl (by decide) rfl (Nat.le_of_ble_eq_true rfl) ?_
  intro xp xe xs xm xa xb xt xc xA ls S hK hA Z hre hlk hl
  have hl : lv_has ls 2 [(0, .ref (G.2.2 71)), (1, .int 1)] := hl
  refine lv_iload_n S.1 S.2.1 dX12_restore_0 rfl (lv_at hl 1 rfl) ?_
  refine lv_i2l (v := 1) S.1 S.2.1 dX12_restore_1 (by decide) ?_
  refine lv_lconst (v := 0) S.1 S.2.1 dX12_restore_2 (by decide) ?_
  refine lv_lconst (v := 1) S.1 S.2.1 dX12_restore_3 (by decide) ?_
  refine uc_Si (As := [.long 1, .long 0, .long 1]) (rest := []) S hK hA Z (c_X12_in l G 1 0 1 _ _ _ (by decide) (by decide) (by decide) M) (va_cwS 3 S.2.2.2.2 gX12_restore_X12_in rfl rfl rfl (by decide +kernel) ⟨Nat.le_of_ble_eq_true rfl, Nat.le_of_ble_eq_true rfl⟩) rfl hl.1 rfl (Nat.le_of_ble_eq_true rfl) dX12_restore_4 ⟨Nat.zero_le _, Nat.zero_le _⟩ (fun r_1 M_1 H locs hp Z => ?_)
  obtain ⟨⟨rfl, w_1⟩ | ⟨rfl, w_1⟩, hM_1⟩ := hp
  · skip
    rw [hM_1] at Z
    refine lv_if_ne (tgt := 13) S.1 S.2.1 dX12_restore_7 (by decide) (fun _ => ?_) (fun c => absurd c (by decide))
    obtain ⟨p0, hp0⟩ := nI_ex (M.1 71 36)
    have Z := uZ_eq (show M = uPM (uKp M p0 K) w from by rw [uKp_id hp0 hKe]; exact hr.symm) Z
    refine lv_aload_n S.1 S.2.1 dX12_restore_13 rfl (lv_at hl 0 rfl) ?_
    refine ug_r S hK Z (j := 35) 95 (by decide) rfl rfl rfl (by decide) iX12_restore_X12 qX12_restore_81 dX12_restore_14 ?_
    refine lv_iload_n S.1 S.2.1 dX12_restore_17 rfl (lv_at hl 1 rfl) ?_
    refine ua_zld S hK Z 1 (by decide) rfl rfl (by omega) dX12_restore_18 ?_
    refine utop (y := 1) ((uPM_o (uKp M p0 K) w (a := 95) (i := 1) (by unfold mO; omega)).trans ((uKp_o M p0 K (by omega)).trans h95)) ?_
    refine lv_if_ne (tgt := 25) S.1 S.2.1 dX12_restore_19 (by decide) (fun _ => ?_) (fun c => absurd c (by decide))
    refine lv_aload_n S.1 S.2.1 dX12_restore_25 rfl (lv_at hl 0 rfl) ?_
    refine lv_bipush (v := 90) S.1 S.2.1 dX12_restore_26 (by decide) ?_
    refine lv_iload_n S.1 S.2.1 dX12_restore_28 rfl (lv_at hl 1 rfl) ?_
    refine lv_imul S.1 S.2.1 dX12_restore_29 ?_
    refine utop (y := 90) (by decide) ?_
    refine up_i S hK Z (j := 36) (by decide) rfl rfl rfl (by decide) iX12_restore_X12 tyX12_ok nmX12 qX12_restore_351 rfl rfl rfl dX12_restore_30 (fun H locs Z => ?_)
    have Z := uZ_eq ((uPM_c (uKp M p0 K) w (a := 71) (i := 36) (nI 90) (by unfold mO; omega)).trans (congrArg (fun X => uPM X w) (uKp_s36 M p0 K 90))) Z
    refine lv_aload_n S.1 S.2.1 dX12_restore_33 rfl (lv_at hl 0 rfl) ?_
    refine lv_iconst (v := 0) S.1 S.2.1 dX12_restore_34 (by decide) ?_
    refine up_i S hK Z (j := 37) (by decide) rfl rfl rfl (by decide) iX12_restore_X12 tyX12_ok nmX12 qX12_restore_347 rfl rfl rfl dX12_restore_35 (fun H locs Z => ?_)
    have Z := uZ_eq ((uPM_c (uKp M 90 K) w (a := 71) (i := 37) 0 (by unfold mO; omega)).trans (congrArg (fun X => uPM X w) (uKp_s37 M 90 K 0))) Z
    refine lv_aload_n S.1 S.2.1 dX12_restore_38 rfl (lv_at hl 0 rfl) ?_
    refine ud_Vv (As := []) (rest := []) S hK hA Z (c_X12_passAllR l G (u1 M 71 37 0) 90 K w rfl (by decide)) (cwV 0 S.2.2.2.2 gX12_restore_X12_passAll rfl rfl rfl (by decide +kernel) ⟨Nat.le_of_ble_eq_true rfl, Nat.le_of_ble_eq_true rfl⟩) (by decide) rfl rfl rfl hl.1 rfl (Nat.le_of_ble_eq_true rfl) dX12_restore_39 ⟨Nat.zero_le _, Nat.zero_le _⟩ (fun H locs Z => ?_)
    rw [rAll_ok hkp hzw hzv] at Z
    refine lv_iconst (v := 1) S.1 S.2.1 dX12_restore_42 (by decide) ?_
    refine uret_i S hK Z hre hlk dX12_restore_43 ?_
    refine ⟨rfl, uPM_md _ _, fun i => ?_, fun i => ?_, fun a i q => ?_⟩
    · rw [uPM_o _ _ (by unfold mO; omega), uKp_94]
    · rw [uPM_o _ _ (by unfold mO; omega), uKp_o _ _ _ (by omega), u1_1, if_neg (by omega)]
    · rw [uPM_o _ _ (by unfold mO; omega), uKp_o _ _ _ (by omega), u1_1, if_neg (by omega)]
  · skip
    rw [hM_1] at Z
    refine lv_if_ne (tgt := 13) S.1 S.2.1 dX12_restore_7 (by decide) (fun c => absurd c (by decide)) (fun _ => ?_)
    refine lv_bipush (v := (-2)) S.1 S.2.1 dX12_restore_10 (by decide) ?_
    refine uret_i S hK Z hre hlk dX12_restore_12 ?_
    exact absurd (show inr (1 : Int32) 0 1 from ⟨by decide, by decide⟩) (by assumption)
set_option maxHeartbeats 4000000 in
set_option maxRecDepth 100000 in
theorem c_X12_imageB (l : Launch) (G : uG) (x : Int32) (h01 : ¬ inr x 0 1) (M : uM) : CTi l G yX12_image wsX12_image 3 65 [.ref (G.2.2 71), .int x] M (fun r M2 => r = -2 ∧ M2 = M) := by
  refine ustart_i (cc := cX12_image) (maxL := 2) (ret := (some .int)) (own := RX12) rfl (by decide) rfl (Nat.le_of_ble_eq_true rfl) ?_
  intro xp xe xs xm xa xb xt xc xA ls S hK hA Z hre hlk hl
  have hl : lv_has ls 2 [(0, .ref (G.2.2 71)), (1, .int x)] := hl
  refine lv_iload_n S.1 S.2.1 dX12_image_0 rfl (lv_at hl 1 rfl) ?_
  refine lv_i2l (v := x.toInt64) S.1 S.2.1 dX12_image_1 rfl ?_
  refine lv_lconst (v := 0) S.1 S.2.1 dX12_image_2 (by decide) ?_
  refine lv_lconst (v := 1) S.1 S.2.1 dX12_image_3 (by decide) ?_
  refine uc_Si (As := [.long x.toInt64, .long 0, .long 1]) (rest := []) S hK hA Z (c_X12_in l G x 0 1 _ _ _ rfl (by decide) (by decide) M) (va_cwS 3 S.2.2.2.2 gX12_image_X12_in rfl rfl rfl (by decide +kernel) ⟨Nat.le_of_ble_eq_true rfl, Nat.le_of_ble_eq_true rfl⟩) rfl hl.1 rfl (Nat.le_of_ble_eq_true rfl) dX12_image_4 ⟨Nat.zero_le _, Nat.zero_le _⟩ (fun r_1 M_1 H locs hp Z => ?_)
  obtain ⟨⟨rfl, w_1⟩ | ⟨rfl, w_1⟩, hM_1⟩ := hp
  · skip
    rw [hM_1] at Z
    refine lv_if_ne (tgt := 13) S.1 S.2.1 dX12_image_7 (by decide) (fun _ => ?_) (fun c => absurd c (by decide))
    exact absurd (by assumption) h01
  · skip
    rw [hM_1] at Z
    refine lv_if_ne (tgt := 13) S.1 S.2.1 dX12_image_7 (by decide) (fun c => absurd c (by decide)) (fun _ => ?_)
    refine lv_bipush (v := (-2)) S.1 S.2.1 dX12_image_10 (by decide) ?_
    refine uret_i S hK Z hre hlk dX12_image_12 ?_
    exact ⟨rfl, rfl⟩
set_option maxHeartbeats 4000000 in
set_option maxRecDepth 100000 in
theorem c_X12_restoreB (l : Launch) (G : uG) (x : Int32) (h01 : ¬ inr x 0 1) (M : uM) : CTi l G yX12_restore wsX12_restore 3 65 [.ref (G.2.2 71), .int x] M (fun r M2 => r = -2 ∧ M2 = M) := by
  refine ustart_i (cc := cX12_restore) (maxL := 2) (ret := (some .int)) (own := RX12) rfl (by decide) rfl (Nat.le_of_ble_eq_true rfl) ?_
  intro xp xe xs xm xa xb xt xc xA ls S hK hA Z hre hlk hl
  have hl : lv_has ls 2 [(0, .ref (G.2.2 71)), (1, .int x)] := hl
  refine lv_iload_n S.1 S.2.1 dX12_restore_0 rfl (lv_at hl 1 rfl) ?_
  refine lv_i2l (v := x.toInt64) S.1 S.2.1 dX12_restore_1 rfl ?_
  refine lv_lconst (v := 0) S.1 S.2.1 dX12_restore_2 (by decide) ?_
  refine lv_lconst (v := 1) S.1 S.2.1 dX12_restore_3 (by decide) ?_
  refine uc_Si (As := [.long x.toInt64, .long 0, .long 1]) (rest := []) S hK hA Z (c_X12_in l G x 0 1 _ _ _ rfl (by decide) (by decide) M) (va_cwS 3 S.2.2.2.2 gX12_restore_X12_in rfl rfl rfl (by decide +kernel) ⟨Nat.le_of_ble_eq_true rfl, Nat.le_of_ble_eq_true rfl⟩) rfl hl.1 rfl (Nat.le_of_ble_eq_true rfl) dX12_restore_4 ⟨Nat.zero_le _, Nat.zero_le _⟩ (fun r_1 M_1 H locs hp Z => ?_)
  obtain ⟨⟨rfl, w_1⟩ | ⟨rfl, w_1⟩, hM_1⟩ := hp
  · skip
    rw [hM_1] at Z
    refine lv_if_ne (tgt := 13) S.1 S.2.1 dX12_restore_7 (by decide) (fun _ => ?_) (fun c => absurd c (by decide))
    exact absurd (by assumption) h01
  · skip
    rw [hM_1] at Z
    refine lv_if_ne (tgt := 13) S.1 S.2.1 dX12_restore_7 (by decide) (fun c => absurd c (by decide)) (fun _ => ?_)
    refine lv_bipush (v := (-2)) S.1 S.2.1 dX12_restore_10 (by decide) ?_
    refine uret_i S hK Z hre hlk dX12_restore_12 ?_
    exact ⟨rfl, rfl⟩
