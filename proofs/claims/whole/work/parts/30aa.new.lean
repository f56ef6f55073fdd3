def nSi (cs : ClassId × ClassId × ClassId) (h : Nat) (a : Nat → Nat) : va_W := [(h, .inr (7, [.ref (a 1), .ref (a 2), .int 0])), (a 1, .inl (cs.1, 8, .inl nz)), (a 2, .inl (cs.1, 8, .inl nz))]
def nWo (cs : ClassId × ClassId × ClassId) (h : Nat) (a : Nat → Nat) : va_W := [(h, .inr (9, [.ref (a 1), .ref (a 2), .ref (a 3), .ref (a 4), .ref (a 5), .ref (a 6), .ref (a 7), .int 255, .int 0])), (a 1, .inl (cs.1, 12, .inl (nHo 12))), (a 2, .inl (cs.1, 12, .inl nz)), (a 3, .inl (cs.1, 12, .inl (nFl nz 12 5))), (a 4, .inl (cs.1, 12, .inl (nFl nz 12 1))), (a 5, .inl (cs.1, 8, .inl (nFl nz 8 100))), (a 6, .inl (cs.1, 8, .inl nz))] ++ nSi cs (a 7) (fun j => a (7 + j))
def nPa (cs : ClassId × ClassId × ClassId) (h : Nat) (a : Nat → Nat) : va_W := [(h, .inr (3, [.ref (a 1), .int 0])), (a 1, .inl (cs.1, 60, .inl nz))]
def nTr (cs : ClassId × ClassId × ClassId) (h : Nat) (a : Nat → Nat) : va_W := [(h, .inr (8, [.ref (a 1), .int 0, .int 0, .int 0, .int 0, .int 0, .int 0, .int 0]))] ++ nWo cs (a 1) (fun j => a (1 + j))
def nSa (cs : ClassId × ClassId × ClassId) (h : Nat) (a : Nat → Nat) : va_W := [(h, .inr (5, [.ref (a 1), .ref (a 2)])), (a 1, .inl (cs.1, 100, .inl nz)), (a 2, .inl (cs.1, 100, .inl nz))]
def nRi (cs : ClassId × ClassId × ClassId) (h : Nat) (a : Nat → Nat) : va_W := [(h, .inr (4, [.ref (a 1), .ref (a 2), .ref (a 3), .int 0, .int 0, .int 0])), (a 1, .inl (cs.1, 8, .inl nz)), (a 2, .inl (cs.1, 8, .inl nz)), (a 3, .inl (cs.1, 8, .inl nz))]
def nCa (cs : ClassId × ClassId × ClassId) (h : Nat) (a : Nat → Nat) : va_W := [(h, .inr (0, [.ref (a 1), .int 0, .int 0, .long 0, .long 0])), (a 1, .inl (cs.1, 9, .inl nz))]
def nHa (cs : ClassId × ClassId × ClassId) (h : Nat) (a : Nat → Nat) : va_W := [(h, .inr (2, [.ref (a 1), .ref (a 2), .int 0, .int 0, .int 0, .int 0])), (a 1, .inl (cs.1, 5, .inl nz)), (a 2, .inl (cs.1, 25, .inl nz))]
def nSh (cs : ClassId × ClassId × ClassId) (h : Nat) (a : Nat → Nat) : va_W := [(h, .inr (6, [.ref (a 1), .ref (a 2), .int 0])), (a 1, .inl (cs.1, 243, .inl nz)), (a 2, .inl (cs.1, 5, .inl nz))]
def nCh (cs : ClassId × ClassId × ClassId) (h : Nat) (a : Nat → Nat) : va_W := [(h, .inr (1, [.ref (a 1), .long 0])), (a 1, .inl (cs.2.1, 13, .inr (.inl (fun _ => 0))))]
def nCl (cs : ClassId × ClassId × ClassId) (h : Nat) (a : Nat → Nat) : va_W := [(h, .inr (10, [.ref (a 1), .ref (a 11), .ref (a 21), .ref (a 23), .ref (a 34), .ref (a 37), .ref (a 41), .ref (a 43), .ref (a 46), .ref (a 49), .ref (a 51), .ref (a 61), .int 0]))] ++ nWo cs (a 1) (fun j => a (1 + j)) ++ nWo cs (a 11) (fun j => a (11 + j)) ++ nPa cs (a 21) (fun j => a (21 + j)) ++ nTr cs (a 23) (fun j => a (23 + j)) ++ nSa cs (a 34) (fun j => a (34 + j)) ++ nRi cs (a 37) (fun j => a (37 + j)) ++ nCa cs (a 41) (fun j => a (41 + j)) ++ nHa cs (a 43) (fun j => a (43 + j)) ++ nSh cs (a 46) (fun j => a (46 + j)) ++ nCh cs (a 49) (fun j => a (49 + j)) ++ nWo cs (a 51) (fun j => a (51 + j)) ++ nWo cs (a 61) (fun j => a (61 + j))
def nMo (cs : ClassId × ClassId × ClassId) (h : Nat) (a : Nat → Nat) : va_W := [(h, .inr (11, [.ref (a 1), .ref (a 2), .ref (a 3), .ref (a 4), .ref (a 5), .ref (a 6), .int 255, .int 0, .ref (a 7), .ref (a 8), .int 0, .ref (a 9), .int 0, .ref (a 10), .ref (a 11), .ref (a 12), .ref (a 13), .int 0, .int 0, .int 0, .ref (a 14), .int 0, .int 0, .int 0, .int 0, .ref (a 15), .ref (a 16), .ref (a 17), .ref (a 18), .ref (a 19), .int 0, .ref (a 20), .ref (a 21), .ref (a 22), .ref (a 23), .ref (a 24), .int 0, .int 0])), (a 1, .inl (cs.1, 12, .inl (nHo 12))), (a 2, .inl (cs.1, 12, .inl nz)), (a 3, .inl (cs.1, 12, .inl (nFl nz 12 5))), (a 4, .inl (cs.1, 12, .inl (nFl nz 12 1))), (a 5, .inl (cs.1, 8, .inl (nFl nz 8 100))), (a 6, .inl (cs.1, 8, .inl nz)), (a 7, .inl (cs.1, 8, .inl nz)), (a 8, .inl (cs.1, 8, .inl nz)), (a 9, .inl (cs.1, 60, .inl nz)), (a 10, .inl (cs.1, 60, .inl nz)), (a 11, .inl (cs.1, 60, .inl nz)), (a 12, .inl (cs.1, 60, .inl nz)), (a 13, .inl (cs.1, 60, .inl nz)), (a 14, .inl (cs.1, 34, .inl nz)), (a 15, .inl (cs.1, 8, .inl nz)), (a 16, .inl (cs.1, 8, .inl nz)), (a 17, .inl (cs.1, 9, .inl nz)), (a 18, .inl (cs.1, 10, .inl nz)), (a 19, .inl (cs.1, 120, .inl nz)), (a 20, .inl (cs.2.2, 7776, .inl nz)), (a 21, .inl (cs.1, 5, .inl nz)), (a 22, .inl (cs.2.1, 12, .inr (.inl (fun _ => 0)))), (a 23, .inl (cs.1, 180, .inl nz)), (a 24, .inl (cs.2.2, 2, .inl nz))]
theorem dfX0 : ∀ j, j < 5 → defaultValue (tyX0 j) = vp_V [.null, .int 0, .int 0, .long 0, .long 0] j := by
  intro j hj
  rcases (show j = 0 ∨ j = 1 ∨ j = 2 ∨ j = 3 ∨ j = 4 by omega) with rfl | rfl | rfl | rfl | rfl <;> rfl
theorem dfX1 : ∀ j, j < 2 → defaultValue (tyX1 j) = vp_V [.null, .long 0] j := by
  intro j hj
  rcases (show j = 0 ∨ j = 1 by omega) with rfl | rfl <;> rfl
theorem dfX2 : ∀ j, j < 6 → defaultValue (tyX2 j) = vp_V [.null, .null, .int 0, .int 0, .int 0, .int 0] j := by
  intro j hj
  rcases (show j = 0 ∨ j = 1 ∨ j = 2 ∨ j = 3 ∨ j = 4 ∨ j = 5 by omega) with rfl | rfl | rfl | rfl | rfl | rfl <;> rfl
theorem dfX3 : ∀ j, j < 2 → defaultValue (tyX3 j) = vp_V [.null, .int 0] j := by
  intro j hj
  rcases (show j = 0 ∨ j = 1 by omega) with rfl | rfl <;> rfl
theorem dfX4 : ∀ j, j < 6 → defaultValue (tyX4 j) = vp_V [.null, .null, .null, .int 0, .int 0, .int 0] j := by
  intro j hj
  rcases (show j = 0 ∨ j = 1 ∨ j = 2 ∨ j = 3 ∨ j = 4 ∨ j = 5 by omega) with rfl | rfl | rfl | rfl | rfl | rfl <;> rfl
theorem dfX6 : ∀ j, j < 2 → defaultValue (tyX6 j) = vp_V [.null, .null] j := by
  intro j hj
  rcases (show j = 0 ∨ j = 1 by omega) with rfl | rfl <;> rfl
theorem dfX7 : ∀ j, j < 3 → defaultValue (tyX7 j) = vp_V [.null, .null, .int 0] j := by
  intro j hj
  rcases (show j = 0 ∨ j = 1 ∨ j = 2 by omega) with rfl | rfl | rfl <;> rfl
theorem dfX8 : ∀ j, j < 3 → defaultValue (tyX8 j) = vp_V [.null, .null, .int 0] j := by
  intro j hj
  rcases (show j = 0 ∨ j = 1 ∨ j = 2 by omega) with rfl | rfl | rfl <;> rfl
theorem dfX9 : ∀ j, j < 8 → defaultValue (tyX9 j) = vp_V [.null, .int 0, .int 0, .int 0, .int 0, .int 0, .int 0, .int 0] j := by
  intro j hj
  rcases (show j = 0 ∨ j = 1 ∨ j = 2 ∨ j = 3 ∨ j = 4 ∨ j = 5 ∨ j = 6 ∨ j = 7 by omega) with rfl | rfl | rfl | rfl | rfl | rfl | rfl | rfl <;> rfl
theorem dfX10 : ∀ j, j < 9 → defaultValue (tyX10 j) = vp_V [.null, .null, .null, .null, .null, .null, .null, .int 0, .int 0] j := by
  intro j hj
  rcases (show j = 0 ∨ j = 1 ∨ j = 2 ∨ j = 3 ∨ j = 4 ∨ j = 5 ∨ j = 6 ∨ j = 7 ∨ j = 8 by omega) with rfl | rfl | rfl | rfl | rfl | rfl | rfl | rfl | rfl <;> rfl
theorem dfX11 : ∀ j, j < 13 → defaultValue (tyX11 j) = vp_V [.null, .null, .null, .null, .null, .null, .null, .null, .null, .null, .null, .null, .int 0] j := by
  intro j hj
  rcases (show j = 0 ∨ j = 1 ∨ j = 2 ∨ j = 3 ∨ j = 4 ∨ j = 5 ∨ j = 6 ∨ j = 7 ∨ j = 8 ∨ j = 9 ∨ j = 10 ∨ j = 11 ∨ j = 12 by omega) with rfl | rfl | rfl | rfl | rfl | rfl | rfl | rfl | rfl | rfl | rfl | rfl | rfl <;> rfl
theorem dfX12 : ∀ j, j < 38 → defaultValue (tyX12 j) = vp_V [.null, .null, .null, .null, .null, .null, .int 0, .int 0, .null, .null, .int 0, .null, .int 0, .null, .null, .null, .null, .int 0, .int 0, .int 0, .null, .int 0, .int 0, .int 0, .int 0, .null, .null, .null, .null, .null, .int 0, .null, .null, .null, .null, .null, .int 0, .int 0] j := by
  intro j hj
  rcases (show j = 0 ∨ j = 1 ∨ j = 2 ∨ j = 3 ∨ j = 4 ∨ j = 5 ∨ j = 6 ∨ j = 7 ∨ j = 8 ∨ j = 9 ∨ j = 10 ∨ j = 11 ∨ j = 12 ∨ j = 13 ∨ j = 14 ∨ j = 15 ∨ j = 16 ∨ j = 17 ∨ j = 18 ∨ j = 19 ∨ j = 20 ∨ j = 21 ∨ j = 22 ∨ j = 23 ∨ j = 24 ∨ j = 25 ∨ j = 26 ∨ j = 27 ∨ j = 28 ∨ j = 29 ∨ j = 30 ∨ j = 31 ∨ j = 32 ∨ j = 33 ∨ j = 34 ∨ j = 35 ∨ j = 36 ∨ j = 37 by omega) with rfl | rfl | rfl | rfl | rfl | rfl | rfl | rfl | rfl | rfl | rfl | rfl | rfl | rfl | rfl | rfl | rfl | rfl | rfl | rfl | rfl | rfl | rfl | rfl | rfl | rfl | rfl | rfl | rfl | rfl | rfl | rfl | rfl | rfl | rfl | rfl | rfl | rfl <;> rfl
set_option maxHeartbeats 4000000 in
set_option maxRecDepth 100000 in
theorem c_n_put (l : Launch) (D : va_G) (cs : ClassId × ClassId × ClassId) (a n j : Nat) (f : Nat → Int32) (x : Int32) (hn : n < 8000) (hj : j < n) : CN l yX5_put wsX5_put 0 0 0 0 D cs [.ref a, .int (nI j), .int x] [(a, .inl (cs.1, n, .inl f))] (fun _ => [(a, .inl (cs.1, n, .inl (upd f j x)))]) := by
  refine n_start (cc := cX5_put) (maxL := 3) (own := RX5) rfl (by decide) rfl (Nat.le_of_ble_eq_true rfl) ?_
  intro xp xe xs xm xa xb xt xc xA ls S hK hA Z hre hlk hin2 hl
  have hl : lv_has ls 3 [(0, .ref a), (1, .int (nI j)), (2, .int x)] := hl
  refine lv_iload_n S.1 S.2.1 dX5_put_0 rfl (lv_at hl 1 rfl) ?_
  refine lv_if_lt (tgt := 14) S.1 S.2.1 dX5_put_1 (by decide) (fun c_1 => absurd c_1 (nI_pos (by omega))) (fun c_1 => ?_)
  refine lv_iload_n S.1 S.2.1 dX5_put_4 rfl (lv_at hl 1 rfl) ?_
  refine lv_aload_n S.1 S.2.1 dX5_put_5 rfl (lv_at hl 0 rfl) ?_
  refine n_len (q0 := 0) S hK Z rfl dX5_put_6 ?_
  refine lv_icmp_ge (tgt := 14) S.1 S.2.1 dX5_put_7 (by decide) (fun c_2 => absurd ((nI_leI (a := n) (b := j) (by omega) (by omega)).mp c_2) (by omega)) (fun c_2 => ?_)
  refine lv_aload_n S.1 S.2.1 dX5_put_10 rfl (lv_at hl 0 rfl) ?_
  refine lv_iload_n S.1 S.2.1 dX5_put_11 rfl (lv_at hl 1 rfl) ?_
  refine lv_iload_n S.1 S.2.1 dX5_put_12 rfl (lv_at hl 2 rfl) ?_
  refine n_ist (q0 := 0) (f := f) S hK Z j rfl hn hj dX5_put_13 (fun H locs Z => ?_)
  exact n_ret (w1 := fun _ => [(a, .inl (cs.1, n, .inl (upd f j x)))]) (fun _ => 0) S hK Z hre hlk rfl (Nat.le_of_ble_eq_true rfl) (Nat.le_of_ble_eq_true rfl) dX5_put_14
set_option maxHeartbeats 4000000 in
set_option maxRecDepth 100000 in
theorem c_n_fill (l : Launch) (D : va_G) (cs : ClassId × ClassId × ClassId) (a n : Nat) (f : Nat → Int32) (x : Int32) (hn : n < 8000) : CN l yX5_fill wsX5_fill 0 0 0 0 D cs [.ref a, .int x] [(a, .inl (cs.1, n, .inl f))] (fun _ => [(a, .inl (cs.1, n, .inl (nFl f n x)))]) := by
  refine n_start (cc := cX5_fill) (maxL := 3) (own := RX5) rfl (by decide) rfl (Nat.le_of_ble_eq_true rfl) ?_
  intro xp xe xs xm xa xb xt xc xA ls S hK hA Z hre hlk hin2 hl
  have hl : lv_has ls 3 [(0, .ref a), (1, .int x)] := hl
  refine lv_iconst (v := 0) S.1 S.2.1 dX5_fill_0 (by decide) ?_
  refine lv_istore_n (lv' := [(2, .int (nI 0)), (0, .ref a), (1, .int x)]) S.1 S.2.1 dX5_fill_1 rfl hl (by decide) rfl (fun ls hl => ?_)
  have Z : nZ D xA [(a, .inl (cs.1, n, .inl (nFl f 0 x)))] xs.heap xs.heap [] := by
    rw [← nFl_0]
    exact Z
  have LP2 : ∀ (fU t : Nat), n < t + fU → t ≤ n → ∀ (H : Heap) (locs : List Loc) (ls : Array Slot), nZ D xA [(a, .inl (cs.1, n, .inl (nFl f t x)))] xs.heap H locs → lv_has ls 3 [(2, .int (nI t)), (0, .ref a), (1, .int x)] → W xp l xe (nRm 0 0 0 0) xs xm xa xb xt xc H locs 0 0 (MQ xb (va_Qv (fun _ : Nat → Nat => True) (fun b t => nB D cs xA ((fun _ : Nat → Nat => [(a, .inl (cs.1, n, .inl (nFl f n x)))]) b) t) xA) xa xs 0 0 xA) (F0 xm 2 ls []) := by
    intro fU
    induction fU with
    | zero =>
      intro t hfl i1 H locs ls Z hl
      exfalso
      omega
    | succ fU ih2 =>
      intro t hfl i1 H locs ls Z hl
      refine lv_iload_n S.1 S.2.1 dX5_fill_2 rfl (lv_at hl 0 rfl) ?_
      refine lv_aload_n S.1 S.2.1 dX5_fill_3 rfl (lv_at hl 1 rfl) ?_
      refine n_len (q0 := 0) S hK Z rfl dX5_fill_4 ?_
      refine lv_icmp_ge (tgt := 18) S.1 S.2.1 dX5_fill_5 (by decide) (fun c_1 => ?_) (fun c_1 => ?_)
      · have c_1 : n ≤ t := (nI_leI (a := n) (b := t) (by omega) (by omega)).mp c_1
        rw [show t = n from by omega] at Z
        exact n_ret (w1 := fun _ : Nat → Nat => [(a, .inl (cs.1, n, .inl (nFl f n x)))]) (fun _ => 0) S hK Z hre hlk rfl (Nat.le_of_ble_eq_true rfl) (Nat.le_of_ble_eq_true rfl) dX5_fill_18
      · have c_1 : ¬ n ≤ t := fun z9 => c_1 ((nI_leI (a := n) (b := t) (by omega) (by omega)).mpr z9)
        refine lv_aload_n S.1 S.2.1 dX5_fill_8 rfl (lv_at hl 1 rfl) ?_
        refine lv_iload_n S.1 S.2.1 dX5_fill_9 rfl (lv_at hl 0 rfl) ?_
        refine lv_iload_n S.1 S.2.1 dX5_fill_10 rfl (lv_at hl 2 rfl) ?_
        refine n_ist (q0 := 0) (f := nFl f t x) S hK Z t rfl hn (by omega) dX5_fill_11 (fun H locs Z => ?_)
        rw [nFl_s] at Z
        refine lv_iinc (v := (nI (t + 1))) (lv' := [(2, .int (nI (t + 1))), (0, .ref a), (1, .int x)]) S.1 S.2.1 dX5_fill_12 hl (k := 0) rfl (u_inc1 t) (by decide) rfl (fun ls hl => ?_)
        refine lv_goto (tgt := 2) S.1 S.2.1 dX5_fill_15 (by decide) ?_
        exact ih2 (t + 1) (by omega) (by omega) _ _ _ Z hl
  exact LP2 (n + 1) 0 (by omega) (by omega) _ _ _ Z hl
