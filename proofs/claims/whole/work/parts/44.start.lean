/-! the first moment: what the two makers leave, in numbers -/
def oA (k : Nat) : Nat → Int32 := fun i => if i = k then 255 else 0
def wO0 : Nat → Nat → Nat := fun j i => if j = 0 then (if i = 7 then 255 else 0) else if j = 1 then (if i < 12 then i % 8 else 0) else if j = 3 then (if i < 12 then 5 else 0) else if j = 4 then (if i < 12 then 1 else 0) else if j = 5 then (if i < 8 then 100 else 0) else 0
def n0W : List (Nat → Int32) := [oA 7, nHo 12, nz, nFl nz 12 5, nFl nz 12 1, nFl nz 8 100, nz, nz, nz, nz]
def M0L : List (Nat → Int32) := [nz] ++ n0W ++ n0W ++ [nz, nz, nz] ++ n0W ++ [nz, nz, nz, nz, nz, nz, nz, nz, nz, nz, nz, nz, nz, nz, nz, nz, nz] ++ n0W ++ n0W ++ [oA 6, nHo 12, nz, nFl nz 12 5, nFl nz 12 1, nFl nz 8 100, nz, nz, nz, nz, nz, nz, nz, nz, nz, nz, nz, nz, nz, nz, nz, nz, nz, nz, nz]
def M00 : uM := (fun k => M0L.getD k nz, fun _ _ => 0)
def sT0 : sT := (wO0, fun _ => 0, 0, 0, wO0, wO0)
theorem oA_w (i : Nat) : oA 7 i = nI (wO0 0 i) := by
  show (if i = 7 then (255 : Int32) else 0) = nI (if i = 7 then 255 else 0)
  split <;> rfl
theorem nHo_w (i : Nat) : nHo 12 i = nI (wO0 1 i) := by
  show (if i < 12 then nI (i % 8) else 0) = nI (if i < 12 then i % 8 else 0)
  split <;> rfl
theorem nFl_w3 (i : Nat) : nFl nz 12 5 i = nI (wO0 3 i) := by
  show (if i < 12 then (5 : Int32) else 0) = nI (if i < 12 then 5 else 0)
  split <;> rfl
theorem nFl_w4 (i : Nat) : nFl nz 12 1 i = nI (wO0 4 i) := by
  show (if i < 12 then (1 : Int32) else 0) = nI (if i < 12 then 1 else 0)
  split <;> rfl
theorem nFl_w5 (i : Nat) : nFl nz 8 100 i = nI (wO0 5 i) := by
  show (if i < 8 then (100 : Int32) else 0) = nI (if i < 8 then 100 else 0)
  split <;> rfl
theorem n0_rd {M : uM} {b : Nat} (h : ∀ j, j < 10 → M.1 (b + j) = n0W.getD j nz) : uRd M b wO0 := by
  intro j hj i
  rw [h j hj]
  rcases (show j = 0 ∨ j = 1 ∨ j = 2 ∨ j = 3 ∨ j = 4 ∨ j = 5 ∨ j = 6 ∨ j = 7 ∨ j = 8 ∨ j = 9 by omega) with rfl | rfl | rfl | rfl | rfl | rfl | rfl | rfl | rfl | rfl
  · exact oA_w i
  · exact nHo_w i
  · rfl
  · exact nFl_w3 i
  · exact nFl_w4 i
  · exact nFl_w5 i
  · rfl
  · rfl
  · rfl
  · rfl
theorem n0_at {b : Nat} (h : b = 1 ∨ b = 11 ∨ b = 24 ∨ b = 51 ∨ b = 61) : uRd M00 b wO0 := by
  refine n0_rd (fun j hj => ?_)
  rcases (show j = 0 ∨ j = 1 ∨ j = 2 ∨ j = 3 ∨ j = 4 ∨ j = 5 ∨ j = 6 ∨ j = 7 ∨ j = 8 ∨ j = 9 by omega) with rfl | rfl | rfl | rfl | rfl | rfl | rfl | rfl | rfl | rfl <;> rcases h with rfl | rfl | rfl | rfl | rfl <;> rfl
theorem wO0_out : zOut wO0 := by
  intro j i h
  unfold wO0
  unfold wIn at h
  by_cases h0 : j = 0
  · rw [if_pos h0, if_neg (by omega)]
  · rw [if_neg h0]
    by_cases h1 : j = 1
    · rw [if_pos h1, if_neg (by omega)]
    · rw [if_neg h1]
      by_cases h3 : j = 3
      · rw [if_pos h3, if_neg (by omega)]
      · rw [if_neg h3]
        by_cases h4 : j = 4
        · rw [if_pos h4, if_neg (by omega)]
        · rw [if_neg h4]
          by_cases h5 : j = 5
          · rw [if_pos h5, if_neg (by omega)]
          · rw [if_neg h5]
theorem wO0_ok : wOk wO0 := by
  refine ⟨by decide, by decide, by decide, by decide, by decide, fun k q _ _ => (by show 0 / 2 ^ q % 2 = 0 / 2 ^ k % 2; rw [Nat.zero_div, Nat.zero_div]), wO0_out⟩
theorem cI_0 : cI M00 sT0 := ⟨n0_at (by decide), ⟨fun i => nI_0.symm, nI_0.symm⟩, ⟨wO0, n0_at (by decide), wO0_out⟩, ⟨wO0, n0_at (by decide), wO0_out⟩, Or.inl ⟨rfl, fun _ => 0, fun i => nI_0.symm, fun _ _ => rfl⟩, ⟨fun _ => 0, fun i => nI_0.symm, fun _ _ => rfl⟩, nI_0.symm, n0_at (by decide), n0_at (by decide)⟩
theorem rI_0 : rI M00 sT0 := by
  refine ⟨uM_ext (fun a i => ?_) rfl, fun i => nI_0.symm, nI_0.symm, fun _ => 0, fun i => nI_0.symm, Or.inl ⟨rfl, rfl⟩, Or.inl ⟨rfl, rfl⟩⟩
  show (if a = 71 then (if i = 6 then nI (wO0 0 7) else if i = 7 then nI (wO0 0 8) else if i = 10 then nI (wO0 7 2) else M00.1 a i) else if 72 ≤ a ∧ a < 78 then nI (wO0 (a - 71) i) else if 78 ≤ a ∧ a < 80 then nI (wO0 (a - 70) i) else M00.1 a i) = M00.1 a i
  by_cases h1 : a = 71
  · subst h1
    rw [if_pos rfl]
    by_cases h6 : i = 6
    · subst h6
      rfl
    · rw [if_neg h6]
      by_cases h7 : i = 7
      · subst h7
        rfl
      · rw [if_neg h7]
        by_cases h10 : i = 10
        · subst h10
          rfl
        · rw [if_neg h10]
  · rw [if_neg h1]
    by_cases h2 : 72 ≤ a ∧ a < 78
    · rw [if_pos h2]
      rcases (show a = 72 ∨ a = 73 ∨ a = 74 ∨ a = 75 ∨ a = 76 ∨ a = 77 by omega) with rfl | rfl | rfl | rfl | rfl | rfl
      · exact (nHo_w i).symm
      · rfl
      · exact (nFl_w3 i).symm
      · exact (nFl_w4 i).symm
      · exact (nFl_w5 i).symm
      · rfl
    · rw [if_neg h2]
      by_cases h3 : 78 ≤ a ∧ a < 80
      · rw [if_pos h3]
        rcases (show a = 78 ∨ a = 79 by omega) with rfl | rfl
        · rfl
        · rfl
      · rw [if_neg h3]
theorem oI_0 : oI sT0 := ⟨wO0_ok, ⟨Nat.zero_le _, fun _ _ => rfl, fun _ => (by decide : 0 < 127)⟩, (by decide : 0 < 4), wO0_ok, wO0_ok⟩
def ad0 (h : Nat) (a : Nat → Nat) (h2 : Nat) (a2 : Nat → Nat) : Nat → Nat := fun k => if k = 0 then h else if k < 71 then a k else if k = 71 then h2 else a2 (k - 71)
set_option maxRecDepth 100000 in
set_option maxHeartbeats 4000000 in
theorem ws_0 (D : va_G) (cs : ClassId × ClassId × ClassId) (h : Nat) (a : Nat → Nat) (h2 : Nat) (a2 : Nat → Nat) : nCl cs h a ++ nMo cs h2 a2 = uWS (D, cs, ad0 h a h2 a2) M00 := by
  rfl
theorem law_K {s : State} {args : Array Value} (hts : ∀ w ∈ lw_tbl, w.before args s = true) : ∃ (D : va_G) (cs : ClassId × ClassId × ClassId), va_K D vwCl (uTc cs) s := by
  obtain ⟨c0, i0, h0⟩ := u_known (C := RX0) (T := TX0) (N := 5) (n := 5) hts inX0 (hts _ lI_RX0)
  obtain ⟨c1, i1, h1⟩ := u_known (C := RX1) (T := TX1) (N := 2) (n := 2) hts inX1 (hts _ lI_RX1)
  obtain ⟨c2, i2, h2⟩ := u_known (C := RX2) (T := TX2) (N := 6) (n := 6) hts inX2 (hts _ lI_RX2)
  obtain ⟨c3, i3, h3⟩ := u_known (C := RX3) (T := TX3) (N := 2) (n := 2) hts inX3 (hts _ lI_RX3)
  obtain ⟨c4, i4, h4⟩ := u_known (C := RX4) (T := TX4) (N := 6) (n := 6) hts inX4 (hts _ lI_RX4)
  obtain ⟨c5, i5, h5⟩ := u_known (C := RX6) (T := TX6) (N := 2) (n := 2) hts inX6 (hts _ lI_RX6)
  obtain ⟨c6, i6, h6⟩ := u_known (C := RX7) (T := TX7) (N := 3) (n := 3) hts inX7 (hts _ lI_RX7)
  obtain ⟨c7, i7, h7⟩ := u_known (C := RX8) (T := TX8) (N := 3) (n := 3) hts inX8 (hts _ lI_RX8)
  obtain ⟨c8, i8, h8⟩ := u_known (C := RX9) (T := TX9) (N := 8) (n := 8) hts inX9 (hts _ lI_RX9)
  obtain ⟨c9, i9, h9⟩ := u_known (C := RX10) (T := TX10) (N := 9) (n := 9) hts inX10 (hts _ lI_RX10)
  obtain ⟨c10, i10, h10⟩ := u_known (C := RX11) (T := TX11) (N := 13) (n := 13) hts inX11 (hts _ lI_RX11)
  obtain ⟨c11, i11, h11⟩ := u_known (C := RX12) (T := TX12) (N := 38) (n := 38) hts inX12 (hts _ lI_RX12)
  obtain ⟨cA, kA, pA, aA, bA, dA⟩ := Cond.arrayClass_spec (hts _ la_int)
  obtain ⟨cB, kB, pB, aB, bB, dB⟩ := Cond.arrayClass_spec (hts _ la_long)
  obtain ⟨cC, kC, pC, aC, bC, dC⟩ := Cond.arrayClass_spec (hts _ la_boolean)
  refine ⟨(fun k => [c0, c1, c2, c3, c4, c5, c6, c7, c8, c9, c10, c11].getD k c0, fun k => [i0, i1, i2, i3, i4, i5, i6, i7, i8, i9, i10, i11].getD k i0), (cA, cB, cC), fun k q hq => ?_, fun k q hq => ?_⟩
  · match k, hq with
    | 0, hq => cases hq; exact h0
    | 1, hq => cases hq; exact h1
    | 2, hq => cases hq; exact h2
    | 3, hq => cases hq; exact h3
    | 4, hq => cases hq; exact h4
    | 5, hq => cases hq; exact h5
    | 6, hq => cases hq; exact h6
    | 7, hq => cases hq; exact h7
    | 8, hq => cases hq; exact h8
    | 9, hq => cases hq; exact h9
    | 10, hq => cases hq; exact h10
    | 11, hq => cases hq; exact h11
    | k + 12, hq => cases hq
  · match k, hq with
    | 0, hq => cases hq; exact ⟨fun n z => ⟨fun k h => (by cases h), kA, bA, pA, dA⟩, aA⟩
    | 1, hq => cases hq; exact ⟨fun n z => ⟨fun k h => (by cases h), kB, bB, pB, dB⟩, aB⟩
    | 2, hq => cases hq; exact ⟨fun n z => ⟨fun k h => (by cases h), kC, bC, pC, dC⟩, aC⟩
    | k + 3, hq => cases hq
set_option maxHeartbeats 4000000 in
set_option maxRecDepth 100000 in
/-- from the entry, for every script of at most 384 ints, the law comes to its end with true -/
theorem whole_start {p : Program} {e : Env} {s : State} {m : MethodId} {below : List Frame} {meth : Method} {c : Code} (l : Launch) (hflags : l.flags = flags0) {b L : Nat} {xs : Nat → Int32} (hL : L ≤ 384) (C0 : lw_At p s m meth c b L xs) : W p l e room_1 s m #[Value.ref b] below meth c s.heap [] 0 0 (lw_Z below #[Value.ref b] s) (entryFrame m ([Value.ref b] : List Value).toArray 4) := by
  obtain ⟨hx, hb, hr, hml, hown, hts, hX, hbl, hlocks, hgv⟩ := id C0
  have S : CallFix p m c cL_law 4 s #[Value.ref b] lw_tbl RL := ⟨hx, hb, hml, hown, hts⟩
  obtain ⟨D, cs, hK⟩ := law_K hts
  have hA : ∀ q : Nat, s.heap.size ≤ q → (fun q : Nat => s.heap.size ≤ q) q := fun _ h => h
  have hbA : ¬ (fun q : Nat => s.heap.size ≤ q) b := Nat.not_le.mpr hbl
  have Z : nZ D (fun q : Nat => s.heap.size ≤ q) [] s.heap s.heap [] := ⟨fun k q h => by simp at h, ⟨fun i j p q h => by simp at h, fun k q h => by simp at h⟩, va_S.rf⟩
  have hl := lv_entry ([.ref b]) (n := 4) (Nat.le_of_ble_eq_true rfl)
  rw [lg_entry_eq]
  generalize (lg_sl ([.ref b]) ++ List.replicate (4 - (lg_sl ([.ref b])).length) Slot.unset).toArray = ls at hl ⊢
  have hl : lv_has ls 4 [(0, .ref b)] := hl
  refine n_new S hK hA Z (ci := 10) (fs := [.null, .null, .null, .null, .null, .null, .null, .null, .null, .null, .null, .null, .int 0]) rfl inX11 tyX11_ok lc_RX11 li_RX11 lz_RX11 dfX11 (Nat.le_of_ble_eq_true rfl) (Nat.le_of_ble_eq_true rfl) dL_law_0 (fun q0 H Z => ?_)
  refine W.widen (k := 1) (n := 13) (Nat.le_of_ble_eq_true rfl) (Nat.le_of_ble_eq_true rfl) ?_
  refine lv_dup S.1 S.2.1 dL_law_3 rfl ?_
  refine n_callI (X := []) (rest := [.ref q0]) S hK hA Z (c_X11_init l D cs q0) (cwI 0 S.2.2.2.2 gg_X11_init rfl rfl rfl (S.2.2.2.2 _ lz_RX11) (S.2.2.2.2 _ lm_X11_init) (S.2.2.2.2 _ ln_X11_init) rfl (by decide +kernel) ⟨Nat.le_of_ble_eq_true rfl, Nat.le_of_ble_eq_true rfl⟩) hl.1 (Nat.le_of_ble_eq_true rfl) dL_law_4 ⟨Nat.le_of_ble_eq_true rfl, Nat.le_of_ble_eq_true rfl⟩ (fun a0 H locs Z => ?_)
  refine W.widen (k := 71) (n := 1091) (Nat.le_of_ble_eq_true rfl) (Nat.le_of_ble_eq_true rfl) ?_
  have Z : nZ D (fun q : Nat => s.heap.size ≤ q) (nCl cs q0 a0) s.heap _ _ := Z
  refine lv_astore_n (lv' := [(1, .ref q0), (0, .ref b)]) S.1 S.2.1 dL_law_7 rfl hl (by decide) rfl (fun ls hl => ?_)
  refine n_new S hK hA Z (ci := 11) (fs := [.null, .null, .null, .null, .null, .null, .int 0, .int 0, .null, .null, .int 0, .null, .int 0, .null, .null, .null, .null, .int 0, .int 0, .int 0, .null, .int 0, .int 0, .int 0, .int 0, .null, .null, .null, .null, .null, .int 0, .null, .null, .null, .null, .null, .int 0, .int 0]) rfl inX12 tyX12_ok lc_RX12 li_RX12 lz_RX12 dfX12 (Nat.le_of_ble_eq_true rfl) (Nat.le_of_ble_eq_true rfl) dL_law_8 (fun q1 H Z => ?_)
  refine W.widen (k := 72) (n := 1129) (Nat.le_of_ble_eq_true rfl) (Nat.le_of_ble_eq_true rfl) ?_
  refine lv_dup S.1 S.2.1 dL_law_11 rfl ?_
  refine n_callI (X := nCl cs q0 a0) (rest := [.ref q1]) S hK hA Z (c_X12_init l D cs q1) (cwI 0 S.2.2.2.2 gg_X12_init rfl rfl rfl (S.2.2.2.2 _ lz_RX12) (S.2.2.2.2 _ lm_X12_init) (S.2.2.2.2 _ ln_X12_init) rfl (by decide +kernel) ⟨Nat.le_of_ble_eq_true rfl, Nat.le_of_ble_eq_true rfl⟩) hl.1 (Nat.le_of_ble_eq_true rfl) dL_law_12 ⟨Nat.le_of_ble_eq_true rfl, Nat.le_of_ble_eq_true rfl⟩ (fun a1 H locs Z => ?_)
  refine W.widen (k := 96) (n := 9673) (Nat.le_of_ble_eq_true rfl) (Nat.le_of_ble_eq_true rfl) ?_
  refine lv_astore_n (lv' := [(2, .ref q1), (1, .ref q0), (0, .ref b)]) S.1 S.2.1 dL_law_15 rfl hl (by decide) rfl (fun ls hl => ?_)
  refine lv_iconst (v := nI 0) S.1 S.2.1 dL_law_16 (by decide) ?_
  refine lv_istore_n (lv' := [(3, .int (nI 0)), (2, .ref q1), (1, .ref q0), (0, .ref b)]) S.1 S.2.1 dL_law_17 rfl hl (by decide) rfl (fun ls hl => ?_)
  have Z2 : uZ (D, cs, ad0 q0 a0 q1 a1) (fun q : Nat => s.heap.size ≤ q) M00 s.heap H locs := by
    unfold uZ
    rw [← ws_0 D cs q0 a0 q1 a1]
    exact Z
  exact law_loop (G := (D, cs, ad0 q0 a0 q1 a1)) S hK hA hX hbl hbA hL (fun _ h => h) (fun H ls => lw_ret hx hb hr hlocks dL_law_1025) L 0 (by omega) (Nat.zero_le _) M00 sT0 H locs ls Z2 cI_0 rI_0 oI_0 hl
