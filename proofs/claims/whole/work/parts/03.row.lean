/-! plain rows on numbers -/
theorem u_inc1 (t : Nat) : nI t + Int32.ofInt 1 = nI (t + 1) := by
  rw [show Int32.ofInt 1 = (1 : Int32) from by decide]
  exact nI_1 t
theorem u_dec1 (t : Nat) : nI (t + 1) + Int32.ofInt (-1) = nI t := by
  rw [show Int32.ofInt (-1) = (-1 : Int32) from by decide]
  exact pk_m1 t
theorem u_mmax {a b : Nat} (ha : a < 2 ^ 31) (hb : b < 2 ^ 31) : (if nI a < nI b then nI b else nI a) = nI (max a b) := by
  by_cases h : a < b
  · rw [if_pos ((nI_ltI ha hb).mpr h), Nat.max_eq_right (Nat.le_of_lt h)]
  · rw [if_neg (fun q => h ((nI_ltI ha hb).mp q)), Nat.max_eq_left (by omega)]
theorem u_mmin {a b : Nat} (ha : a < 2 ^ 31) (hb : b < 2 ^ 31) : (if nI b < nI a then nI b else nI a) = nI (min a b) := by
  by_cases h : b < a
  · rw [if_pos ((nI_ltI hb ha).mpr h), Nat.min_eq_right (Nat.le_of_lt h)]
  · rw [if_neg (fun q => h ((nI_ltI hb ha).mp q)), Nat.min_eq_left (by omega)]
theorem u_rng {x : Int32} {n : Nat} (h0 : ¬ x < 0) (h : ¬ nI n ≤ x) (hn : n < 2 ^ 31) : ∃ j : Nat, j < n ∧ x = nI j := by
  obtain ⟨j, hj, rfl⟩ := nI_of h0
  exact ⟨j, by
    rcases Nat.lt_or_ge j n with q | q
    · exact q
    · exact absurd (nI_le q hj) h, rfl⟩
theorem u_rng2 {x : Int32} {n : Nat} (h0 : 0 ≤ x) (h : x ≤ nI n) (hn : n < 2 ^ 31) : ∃ j : Nat, j ≤ n ∧ x = nI j := by
  obtain ⟨j, hj, rfl⟩ := nI_of (Int32.not_lt.mpr h0)
  exact ⟨j, (nI_leI hj hn).mp h, rfl⟩
def uFill (M : uM) (k n : Nat) (x : Int32) : uM := (fun a i => if a = k ∧ i < n then x else M.1 a i, M.2)
def uCpy (M : uM) (f k n : Nat) : uM := (fun a i => if a = k ∧ i < n then M.1 f i else M.1 a i, M.2)
theorem uM_ext {M M' : uM} (h1 : ∀ a i, M.1 a i = M'.1 a i) (h2 : M.2 = M'.2) : M = M' := Prod.ext (funext fun a => funext fun i => h1 a i) h2
theorem uFill_0 (M : uM) (k : Nat) (x : Int32) : uFill M k 0 x = M := uM_ext (fun a i => by simp [uFill]) rfl
theorem uFill_1 (M : uM) (k t : Nat) (x : Int32) : u1 (uFill M k t x) k t x = uFill M k (t + 1) x := uM_ext (fun a i => by
  simp only [u1_1, uFill]
  by_cases h : a = k
  · subst h
    by_cases h2 : i = t
    · subst h2
      simp
    · simp only [h2, and_false, if_false, true_and]
      by_cases h3 : i < t
      · rw [if_pos h3, if_pos (by omega)]
      · rw [if_neg h3, if_neg (by omega)]
  · simp [h]) rfl
theorem uCpy_0 (M : uM) (f k : Nat) : uCpy M f k 0 = M := uM_ext (fun a i => by simp [uCpy]) rfl
theorem uCpy_1 (M : uM) {f k : Nat} (t : Nat) (hne : f ≠ k) : u1 (uCpy M f k t) k t ((uCpy M f k t).1 f t) = uCpy M f k (t + 1) := uM_ext (fun a i => by
  simp only [u1_1, uCpy]
  by_cases h : a = k
  · subst h
    by_cases h2 : i = t
    · subst h2
      simp [hne]
    · simp only [h2, and_false, if_false, true_and]
      by_cases h3 : i < t
      · rw [if_pos h3, if_pos (by omega)]
      · rw [if_neg h3, if_neg (by omega)]
  · simp [h]) rfl
set_option maxHeartbeats 4000000 in
set_option maxRecDepth 100000 in
theorem c_X5_within (l : Launch) (G : uG) (n lo hi : Int32) (M : uM) : CTi l G yX5_within wsX5_within 0 0 [.int n, .int lo, .int hi] M (fun r M2 => ((r = 1 ∧ lo ≤ n ∧ n ≤ hi) ∨ (r = 0 ∧ ¬ (lo ≤ n ∧ n ≤ hi))) ∧ M2 = M) := by
  refine ustart_i (cc := cX5_within) (maxL := 3) (ret := (some .boolean)) (own := RX5) rfl (by decide) rfl (Nat.le_of_ble_eq_true rfl) ?_
  intro xp xe xs xm xa xb xt xc xA ls S hK hA Z hre hlk hl
  have hl : lv_has ls 3 [(0, .int n), (1, .int lo), (2, .int hi)] := hl
  refine lv_iload_n S.1 S.2.1 dX5_within_0 rfl (lv_at hl 0 rfl) ?_
  refine lv_iload_n S.1 S.2.1 dX5_within_1 rfl (lv_at hl 1 rfl) ?_
  refine lv_icmp_lt (tgt := 14) S.1 S.2.1 dX5_within_2 (by decide) (fun c_1 => ?_) (fun c_1 => ?_)
  · skip
    refine lv_iconst (v := 0) S.1 S.2.1 dX5_within_14 (by decide) ?_
    refine uret_z S hK Z hre hlk (by decide) dX5_within_15 ?_
    refine ⟨Or.inr ⟨rfl, fun q => ?_⟩, rfl⟩
    first | exact absurd q.1 (Int32.not_le.mpr c_1) | exact absurd q.2 (Int32.not_le.mpr c_2)
  · skip
    refine lv_iload_n S.1 S.2.1 dX5_within_5 rfl (lv_at hl 0 rfl) ?_
    refine lv_iload_n S.1 S.2.1 dX5_within_6 rfl (lv_at hl 2 rfl) ?_
    refine lv_icmp_gt (tgt := 14) S.1 S.2.1 dX5_within_7 (by decide) (fun c_2 => ?_) (fun c_2 => ?_)
    · skip
      refine lv_iconst (v := 0) S.1 S.2.1 dX5_within_14 (by decide) ?_
      refine uret_z S hK Z hre hlk (by decide) dX5_within_15 ?_
      refine ⟨Or.inr ⟨rfl, fun q => ?_⟩, rfl⟩
      first | exact absurd q.1 (Int32.not_le.mpr c_1) | exact absurd q.2 (Int32.not_le.mpr c_2)
    · skip
      refine lv_iconst (v := 1) S.1 S.2.1 dX5_within_10 (by decide) ?_
      refine lv_goto (tgt := 15) S.1 S.2.1 dX5_within_11 (by decide) ?_
      refine uret_z S hK Z hre hlk (by decide) dX5_within_15 ?_
      exact ⟨Or.inl ⟨rfl, Int32.not_lt.mp c_1, Int32.not_lt.mp c_2⟩, rfl⟩
set_option maxHeartbeats 4000000 in
set_option maxRecDepth 100000 in
theorem c_X5_at (l : Launch) (G : uG) (k n j : Nat) (hk : k < 96) (hs : uSh k = .inr (0, n)) (hj : j < n) (M : uM) : CTi l G yX5_at wsX5_at 0 0 [.ref (G.2.2 k), .int (nI j)] M (fun r M2 => r = M.1 k j ∧ M2 = M) := by
  have hn : n < 8000 := uSh_lt k hk (0, n) hs
  refine ustart_i (cc := cX5_at) (maxL := 2) (ret := (some .int)) (own := RX5) rfl (by decide) rfl (Nat.le_of_ble_eq_true rfl) ?_
  intro xp xe xs xm xa xb xt xc xA ls S hK hA Z hre hlk hl
  have hl : lv_has ls 2 [(0, .ref (G.2.2 k)), (1, .int (nI j))] := hl
  refine lv_iload_n S.1 S.2.1 dX5_at_0 rfl (lv_at hl 1 rfl) ?_
  refine lv_if_lt (tgt := 16) S.1 S.2.1 dX5_at_1 (by decide) (fun c_1 => ?_) (fun c_1 => ?_)
  · skip
    have c_1 : j < 0 := (nI_ltI (a := j) (b := 0) (by omega) (by omega)).mp c_1
    omega
  · skip
    have c_1 : ¬ j < 0 := fun z9 => c_1 ((nI_ltI (a := j) (b := 0) (by omega) (by omega)).mpr z9)
    refine lv_iload_n S.1 S.2.1 dX5_at_4 rfl (lv_at hl 1 rfl) ?_
    refine lv_aload_n S.1 S.2.1 dX5_at_5 rfl (lv_at hl 0 rfl) ?_
    refine ua_len S hK Z hk hs dX5_at_6 ?_
    refine lv_icmp_ge (tgt := 16) S.1 S.2.1 dX5_at_7 (by decide) (fun c_2 => ?_) (fun c_2 => ?_)
    · skip
      have c_2 : n ≤ j := (nI_leI (a := n) (b := j) (by omega) (by omega)).mp c_2
      omega
    · skip
      have c_2 : ¬ n ≤ j := fun z9 => c_2 ((nI_leI (a := n) (b := j) (by omega) (by omega)).mpr z9)
      refine lv_aload_n S.1 S.2.1 dX5_at_10 rfl (lv_at hl 0 rfl) ?_
      refine lv_iload_n S.1 S.2.1 dX5_at_11 rfl (lv_at hl 1 rfl) ?_
      refine ua_ild S hK Z j hk hs rfl (by omega) dX5_at_12 ?_
      refine lv_goto (tgt := 17) S.1 S.2.1 dX5_at_13 (by decide) ?_
      refine uret_i S hK Z hre hlk dX5_at_17 ?_
      exact ⟨rfl, rfl⟩
set_option maxHeartbeats 4000000 in
set_option maxRecDepth 100000 in
theorem c_X5_atg (l : Launch) (G : uG) (k n : Nat) (hk : k < 96) (hs : uSh k = .inr (0, n)) (i : Int32) (M : uM) : CTi l G yX5_at wsX5_at 0 0 [.ref (G.2.2 k), .int i] M (fun _ M2 => M2 = M) := by
  have hn : n < 8000 := uSh_lt k hk (0, n) hs
  refine ustart_i (cc := cX5_at) (maxL := 2) (ret := (some .int)) (own := RX5) rfl (by decide) rfl (Nat.le_of_ble_eq_true rfl) ?_
  intro xp xe xs xm xa xb xt xc xA ls S hK hA Z hre hlk hl
  have hl : lv_has ls 2 [(0, .ref (G.2.2 k)), (1, .int i)] := hl
  refine lv_iload_n S.1 S.2.1 dX5_at_0 rfl (lv_at hl 1 rfl) ?_
  refine lv_if_lt (tgt := 16) S.1 S.2.1 dX5_at_1 (by decide) (fun c_1 => ?_) (fun c_1 => ?_)
  · skip
    refine lv_iconst (v := 0) S.1 S.2.1 dX5_at_16 (by decide) ?_
    refine uret_i S hK Z hre hlk dX5_at_17 ?_
    exact rfl
  · skip
    refine lv_iload_n S.1 S.2.1 dX5_at_4 rfl (lv_at hl 1 rfl) ?_
    refine lv_aload_n S.1 S.2.1 dX5_at_5 rfl (lv_at hl 0 rfl) ?_
    refine ua_len S hK Z hk hs dX5_at_6 ?_
    refine lv_icmp_ge (tgt := 16) S.1 S.2.1 dX5_at_7 (by decide) (fun c_2 => ?_) (fun c_2 => ?_)
    · skip
      refine lv_iconst (v := 0) S.1 S.2.1 dX5_at_16 (by decide) ?_
      refine uret_i S hK Z hre hlk dX5_at_17 ?_
      exact rfl
    · skip
      obtain ⟨j, hj, rfl⟩ := u_rng c_1 c_2 (by omega)
      refine lv_aload_n S.1 S.2.1 dX5_at_10 rfl (lv_at hl 0 rfl) ?_
      refine lv_iload_n S.1 S.2.1 dX5_at_11 rfl (lv_at hl 1 rfl) ?_
      refine ua_ild S hK Z j hk hs rfl (by omega) dX5_at_12 ?_
      refine lv_goto (tgt := 17) S.1 S.2.1 dX5_at_13 (by decide) ?_
      refine uret_i S hK Z hre hlk dX5_at_17 ?_
      exact rfl
set_option maxHeartbeats 4000000 in
set_option maxRecDepth 100000 in
theorem c_X5_put (l : Launch) (G : uG) (k n j : Nat) (hk : k < 96) (hs : uSh k = .inr (0, n)) (hj : j < n) (x : Int32) (M : uM) : CTv l G yX5_put wsX5_put 0 0 [.ref (G.2.2 k), .int (nI j), .int x] M (fun M2 => M2 = u1 M k j x) := by
  have hn : n < 8000 := uSh_lt k hk (0, n) hs
  refine ustart_v (cc := cX5_put) (maxL := 3) (ret := none) (own := RX5) rfl (by decide) rfl (Nat.le_of_ble_eq_true rfl) ?_
  intro xp xe xs xm xa xb xt xc xA ls S hK hA Z hre hlk hl
  have hl : lv_has ls 3 [(0, .ref (G.2.2 k)), (1, .int (nI j)), (2, .int x)] := hl
  refine lv_iload_n S.1 S.2.1 dX5_put_0 rfl (lv_at hl 1 rfl) ?_
  refine lv_if_lt (tgt := 14) S.1 S.2.1 dX5_put_1 (by decide) (fun c_1 => ?_) (fun c_1 => ?_)
  · skip
    have c_1 : j < 0 := (nI_ltI (a := j) (b := 0) (by omega) (by omega)).mp c_1
    omega
  · skip
    have c_1 : ¬ j < 0 := fun z9 => c_1 ((nI_ltI (a := j) (b := 0) (by omega) (by omega)).mpr z9)
    refine lv_iload_n S.1 S.2.1 dX5_put_4 rfl (lv_at hl 1 rfl) ?_
    refine lv_aload_n S.1 S.2.1 dX5_put_5 rfl (lv_at hl 0 rfl) ?_
    refine ua_len S hK Z hk hs dX5_put_6 ?_
    refine lv_icmp_ge (tgt := 14) S.1 S.2.1 dX5_put_7 (by decide) (fun c_2 => ?_) (fun c_2 => ?_)
    · skip
      have c_2 : n ≤ j := (nI_leI (a := n) (b := j) (by omega) (by omega)).mp c_2
      omega
    · skip
      have c_2 : ¬ n ≤ j := fun z9 => c_2 ((nI_leI (a := n) (b := j) (by omega) (by omega)).mpr z9)
      refine lv_aload_n S.1 S.2.1 dX5_put_10 rfl (lv_at hl 0 rfl) ?_
      refine lv_iload_n S.1 S.2.1 dX5_put_11 rfl (lv_at hl 1 rfl) ?_
      refine lv_iload_n S.1 S.2.1 dX5_put_12 rfl (lv_at hl 2 rfl) ?_
      refine ua_ist S hK Z j hk hs rfl (by omega) dX5_put_13 (fun H locs Z => ?_)
      refine uret_v S hK Z hre hlk dX5_put_14 ?_
      exact rfl
set_option maxHeartbeats 4000000 in
set_option maxRecDepth 100000 in
theorem c_X5_fill (l : Launch) (G : uG) (k n : Nat) (hk : k < 96) (hs : uSh k = .inr (0, n)) (x : Int32) (M : uM) : CTv l G yX5_fill wsX5_fill 0 0 [.ref (G.2.2 k), .int x] M (fun M2 => M2 = uFill M k n x) := by
  have hn : n < 8000 := uSh_lt k hk (0, n) hs
  refine ustart_v (cc := cX5_fill) (maxL := 3) (ret := none) (own := RX5) rfl (by decide) rfl (Nat.le_of_ble_eq_true rfl) ?_
  intro xp xe xs xm xa xb xt xc xA ls S hK hA Z hre hlk hl
  have hl : lv_has ls 3 [(0, .ref (G.2.2 k)), (1, .int x)] := hl
  refine lv_iconst (v := 0) S.1 S.2.1 dX5_fill_0 (by decide) ?_
  refine lv_istore_n (lv' := [(2, .int 0), (0, .ref (G.2.2 k)), (1, .int x)]) S.1 S.2.1 dX5_fill_1 rfl hl (by decide) rfl (fun ls hl => ?_)
  have LP2 : ∀ (fU : Nat) (t : Nat) (M1 : uM), (n < t + fU) → (t ≤ n) → (M1 = uFill M k t x) → ∀ (H : Heap) (locs : List Loc) (ls : Array Slot), uZ G xA M1 xs.heap H locs → lv_has ls 3 [(2, .int (nI t)), (0, .ref (G.2.2 k)), (1, .int x)] → W xp l xe (uRm 0 0) xs xm xa xb xt xc H locs 0 0 (MQ xb (va_Qv (fun M2 => M2 = uFill M k n x) (fun M' t => uB G M' t) xA) xa xs 0 0 xA) (F0 xm 2 ls []) := by
    intro fU
    induction fU with
    | zero =>
      intro t M1 hfl h1 h2 H locs ls Z hl
      exfalso
      omega
    | succ fU ih2 =>
      intro t M1 hfl h1 h2 H locs ls Z hl
      refine lv_iload_n S.1 S.2.1 dX5_fill_2 rfl (lv_at hl 0 rfl) ?_
      refine lv_aload_n S.1 S.2.1 dX5_fill_3 rfl (lv_at hl 1 rfl) ?_
      refine ua_len S hK Z hk hs dX5_fill_4 ?_
      refine lv_icmp_ge (tgt := 18) S.1 S.2.1 dX5_fill_5 (by decide) (fun c_1 => ?_) (fun c_1 => ?_)
      · skip
        have c_1 : n ≤ t := (nI_leI (a := n) (b := t) (by omega) (by omega)).mp c_1
        refine uret_v S hK Z hre hlk dX5_fill_18 ?_
        rw [h2, show t = n from by omega]
      · skip
        have c_1 : ¬ n ≤ t := fun z9 => c_1 ((nI_leI (a := n) (b := t) (by omega) (by omega)).mpr z9)
        refine lv_aload_n S.1 S.2.1 dX5_fill_8 rfl (lv_at hl 1 rfl) ?_
        refine lv_iload_n S.1 S.2.1 dX5_fill_9 rfl (lv_at hl 0 rfl) ?_
        refine lv_iload_n S.1 S.2.1 dX5_fill_10 rfl (lv_at hl 2 rfl) ?_
        refine ua_ist S hK Z t hk hs rfl (by omega) dX5_fill_11 (fun H locs Z => ?_)
        refine lv_iinc (v := (nI (t + 1))) (lv' := [(2, .int (nI (t + 1))), (0, .ref (G.2.2 k)), (1, .int x)]) S.1 S.2.1 dX5_fill_12 hl (k := 0) rfl (u_inc1 t) (by decide) rfl (fun ls hl => ?_)
        refine lv_goto (tgt := 2) S.1 S.2.1 dX5_fill_15 (by decide) ?_
        exact ih2 (t + 1) (u1 M1 k t x) (by omega) (by omega) (by rw [h2, uFill_1]) _ _ _ Z (lv_sub hl [0, 1, 2] rfl)
  exact LP2 (n + 1) 0 M (by omega) (by omega) (by rw [uFill_0]) _ _ _ Z (lv_sub hl [0, 1, 2] rfl)
set_option maxHeartbeats 4000000 in
set_option maxRecDepth 100000 in
theorem c_X5_copy (l : Launch) (G : uG) (f k n : Nat) (hf : f < 96) (hk : k < 96) (hsf : uSh f = .inr (0, n)) (hs : uSh k = .inr (0, n)) (hne : f ≠ k) (M : uM) : CTv l G yX5_copy wsX5_copy 1 21 [.ref (G.2.2 f), .ref (G.2.2 k)] M (fun M2 => M2 = uCpy M f k n) := by
  have hn : n < 8000 := uSh_lt k hk (0, n) hs
  refine ustart_v (cc := cX5_copy) (maxL := 3) (ret := none) (own := RX5) rfl (by decide) rfl (Nat.le_of_ble_eq_true rfl) ?_
  intro xp xe xs xm xa xb xt xc xA ls S hK hA Z hre hlk hl
  have hl : lv_has ls 3 [(0, .ref (G.2.2 f)), (1, .ref (G.2.2 k))] := hl
  refine lv_iconst (v := 0) S.1 S.2.1 dX5_copy_0 (by decide) ?_
  refine lv_istore_n (lv' := [(2, .int 0), (0, .ref (G.2.2 f)), (1, .ref (G.2.2 k))]) S.1 S.2.1 dX5_copy_1 rfl hl (by decide) rfl (fun ls hl => ?_)
  have LP2 : ∀ (fU : Nat) (t : Nat) (M1 : uM), (n < t + fU) → (t ≤ n) → (M1 = uCpy M f k t) → ∀ (H : Heap) (locs : List Loc) (ls : Array Slot), uZ G xA M1 xs.heap H locs → lv_has ls 3 [(2, .int (nI t)), (0, .ref (G.2.2 f)), (1, .ref (G.2.2 k))] → W xp l xe (uRm 1 21) xs xm xa xb xt xc H locs 0 0 (MQ xb (va_Qv (fun M2 => M2 = uCpy M f k n) (fun M' t => uB G M' t) xA) xa xs 0 0 xA) (F0 xm 2 ls []) := by
    intro fU
    induction fU with
    | zero =>
      intro t M1 hfl h1 h2 H locs ls Z hl
      exfalso
      omega
    | succ fU ih2 =>
      intro t M1 hfl h1 h2 H locs ls Z hl
      refine lv_iload_n S.1 S.2.1 dX5_copy_2 rfl (lv_at hl 0 rfl) ?_
      refine lv_aload_n S.1 S.2.1 dX5_copy_3 rfl (lv_at hl 2 rfl) ?_
      refine ua_len S hK Z hk hs dX5_copy_4 ?_
      refine lv_icmp_ge (tgt := 22) S.1 S.2.1 dX5_copy_5 (by decide) (fun c_1 => ?_) (fun c_1 => ?_)
      · skip
        have c_1 : n ≤ t := (nI_leI (a := n) (b := t) (by omega) (by omega)).mp c_1
        refine uret_v S hK Z hre hlk dX5_copy_22 ?_
        rw [h2, show t = n from by omega]
      · skip
        have c_1 : ¬ n ≤ t := fun z9 => c_1 ((nI_leI (a := n) (b := t) (by omega) (by omega)).mpr z9)
        refine lv_aload_n S.1 S.2.1 dX5_copy_8 rfl (lv_at hl 2 rfl) ?_
        refine lv_iload_n S.1 S.2.1 dX5_copy_9 rfl (lv_at hl 0 rfl) ?_
        refine lv_aload_n S.1 S.2.1 dX5_copy_10 rfl (lv_at hl 1 rfl) ?_
        refine lv_iload_n S.1 S.2.1 dX5_copy_11 rfl (lv_at hl 0 rfl) ?_
        refine ud_Si (As := [.ref (G.2.2 f), .int (nI t)]) (rest := [.int (nI t), .ref (G.2.2 k)]) S hK hA Z (c_X5_at l G f n t hf hsf (by omega) M1) (va_cwS 2 S.2.2.2.2 gX5_copy_X5_at rfl rfl rfl (by decide +kernel) ⟨Nat.le_of_ble_eq_true rfl, Nat.le_of_ble_eq_true rfl⟩) rfl hl.1 rfl (Nat.le_of_ble_eq_true rfl) dX5_copy_12 ⟨Nat.zero_le _, Nat.zero_le _⟩ (fun H locs Z => ?_)
        refine ua_ist S hK Z t hk hs rfl (by omega) dX5_copy_15 (fun H locs Z => ?_)
        refine lv_iinc (v := (nI (t + 1))) (lv' := [(2, .int (nI (t + 1))), (0, .ref (G.2.2 f)), (1, .ref (G.2.2 k))]) S.1 S.2.1 dX5_copy_16 hl (k := 0) rfl (u_inc1 t) (by decide) rfl (fun ls hl => ?_)
        refine lv_goto (tgt := 2) S.1 S.2.1 dX5_copy_19 (by decide) ?_
        exact ih2 (t + 1) (u1 M1 k t (M1.1 f t)) (by omega) (by omega) (by rw [h2, uCpy_1 M t hne]) _ _ _ Z (lv_sub hl [0, 1, 2] rfl)
  exact LP2 (n + 1) 0 M (by omega) (by omega) (by rw [uCpy_0]) _ _ _ Z (lv_sub hl [0, 1, 2] rfl)
