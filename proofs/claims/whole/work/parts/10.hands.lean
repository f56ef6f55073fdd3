/-! what a contract says may be said with fewer words -/
theorem CTi_mono {l : Launch} {G : uG} {y : MethodName} {ws : List Cond} {fr lo : Nat} {av : List Value} {M : uM} {P P' : Int32 → uM → Prop} (h : CTi l G y ws fr lo av M P) (hp : ∀ r M2, P r M2 → P' r M2) : CTi l G y ws fr lo av M P' := fun sz p e a1 a2 a3 s m args below b1 b2 b3 b4 => by
  obtain ⟨n, o, h1, h2, h3, ⟨⟨⟨r, u, q1, q2, q3⟩, q4⟩, q5⟩⟩ := h sz p e a1 a2 a3 s m args below b1 b2 b3 b4
  exact ⟨n, o, h1, h2, h3, ⟨⟨⟨r, u, q1, hp r u q2, q3⟩, q4⟩, q5⟩⟩
theorem CTl_mono {l : Launch} {G : uG} {y : MethodName} {ws : List Cond} {fr lo : Nat} {av : List Value} {M : uM} {P P' : Int64 → uM → Prop} (h : CTl l G y ws fr lo av M P) (hp : ∀ r M2, P r M2 → P' r M2) : CTl l G y ws fr lo av M P' := fun sz p e a1 a2 a3 s m args below b1 b2 b3 b4 => by
  obtain ⟨n, o, h1, h2, h3, ⟨⟨⟨r, u, q1, q2, q3⟩, q4⟩, q5⟩⟩ := h sz p e a1 a2 a3 s m args below b1 b2 b3 b4
  exact ⟨n, o, h1, h2, h3, ⟨⟨⟨r, u, q1, hp r u q2, q3⟩, q4⟩, q5⟩⟩
theorem CTv_mono {l : Launch} {G : uG} {y : MethodName} {ws : List Cond} {fr lo : Nat} {av : List Value} {M : uM} {P P' : uM → Prop} (h : CTv l G y ws fr lo av M P) (hp : ∀ M2, P M2 → P' M2) : CTv l G y ws fr lo av M P' := fun sz p e a1 a2 a3 s m args below b1 b2 b3 b4 => by
  obtain ⟨n, o, h1, h2, h3, ⟨⟨⟨u, q1, q2, q3⟩, q4⟩, q5⟩⟩ := h sz p e a1 a2 a3 s m args below b1 b2 b3 b4
  exact ⟨n, o, h1, h2, h3, ⟨⟨⟨u, q1, hp u q2, q3⟩, q4⟩, q5⟩⟩
theorem jS_1 {wd : Nat → Nat} {t i kp op : Nat} (h0 : 1 ≤ i) (e1 : kp * (10 - t) = (10 - t) ^ i) (e2 : op * 10 = 10 ^ i) (h : ¬ wd i * (kp * (10 - t)) * (jS wd t i).2.2 ≤ (jS wd t i).2.1 * (op * 10)) : jS wd t (i + 1) = (i, wd i * (kp * (10 - t)), op * 10) := by
  rw [e1, e2] at h ⊢
  rw [jS, if_neg (by omega), if_pos (by omega)]
theorem jS_2 {wd : Nat → Nat} {t i kp op : Nat} (h0 : 1 ≤ i) (e1 : kp * (10 - t) = (10 - t) ^ i) (e2 : op * 10 = 10 ^ i) (h : wd i * (kp * (10 - t)) * (jS wd t i).2.2 ≤ (jS wd t i).2.1 * (op * 10)) : jS wd t (i + 1) = jS wd t i := by
  rw [e1, e2] at h
  rw [jS, if_neg (by omega), if_neg (by omega)]
theorem pw_s (b i : Nat) (h : 1 ≤ i) : b ^ (i - 1) * b = b ^ i := by
  rw [← Nat.pow_succ, show (i - 1).succ = i from by omega]
/-! who had it: the rows of five -/
def fh (pl : Nat → Nat) : Nat → Nat → Nat → Nat
  | 0, _, _ => 0
  | f + 1, h, q => if pl h = 4294967290 then (if q = 0 then h else fh pl f (h + 1) (q - 1)) else fh pl f (h + 1) q
theorem fh_le {pl : Nat → Nat} : ∀ f h q, h + f = 5 → fh pl f h q < 5 := by
  intro f
  induction f with
  | zero => intro h q _; show (0 : Nat) < 5; decide
  | succ f ih =>
    intro h q hf
    rw [fh]
    split
    · split
      · omega
      · exact ih (h + 1) (q - 1) (by omega)
    · exact ih (h + 1) q (by omega)
theorem fh_congr {pl pl' : Nat → Nat} (hp : ∀ h, h < 5 → pl h = pl' h) : ∀ f h q, h + f = 5 → fh pl f h q = fh pl' f h q := by
  intro f
  induction f with
  | zero => intro h q _; rfl
  | succ f ih =>
    intro h q hf
    rw [fh, fh, hp h (by omega), ih (h + 1) (q - 1) (by omega), ih (h + 1) q (by omega)]
theorem n6_iff {p : Nat} (h : p = 4294967290 ∨ p < 5) : nI p = -6 ↔ p = 4294967290 := by
  constructor
  · intro q
    rcases h with h | h
    · exact h
    · exact absurd q (nI_nm6 (by omega))
  · intro q
    subst q
    exact n6
def lst (k : Nat) : Nat → Nat × Nat × (Nat → Nat) × Nat
  | 0 => (k, 120, fun _ => 4294967290, 0)
  | i + 1 => ((lst k i).1 % max 1 ((lst k i).2.1 / (5 - i)), max 1 ((lst k i).2.1 / (5 - i)), fu (lst k i).2.2.1 (fh (lst k i).2.2.1 5 0 ((lst k i).1 / max 1 ((lst k i).2.1 / (5 - i)))) i, (lst k i).2.2.2 * 10 + fh (lst k i).2.2.1 5 0 ((lst k i).1 / max 1 ((lst k i).2.1 / (5 - i))))
def lRow (k : Nat) : Nat := (lst k 5).2.2.2
def lPl (k h : Nat) : Nat := (lst k 5).2.2.1 h
theorem lPl_lt : ∀ k, k < 120 → ∀ h, h < 5 → lPl k h < 5 := by decide +kernel
theorem lRow_lt : ∀ k, k < 120 → lRow k < 100000 := by decide +kernel
theorem lst_bd (k : Nat) (hk : k < 120) : ∀ i, i ≤ 5 → (lst k i).1 < 120 ∧ (lst k i).2.1 ≤ 120 ∧ ∀ h, h < 5 → (lst k i).2.2.1 h = 4294967290 ∨ (lst k i).2.2.1 h < 5 := by
  intro i
  induction i with
  | zero => intro _; exact ⟨hk, Nat.le_refl _, fun h _ => Or.inl rfl⟩
  | succ i ih =>
    intro hi
    obtain ⟨h1, h2, h3⟩ := ih (by omega)
    have h4 := Nat.div_le_self (lst k i).2.1 (5 - i)
    rw [lst]
    refine ⟨?_, ?_, fun h hh => ?_⟩
    · exact Nat.lt_of_le_of_lt (Nat.mod_le _ _) h1
    · show max 1 _ ≤ 120
      omega
    · show fu _ _ _ h = _ ∨ fu _ _ _ h < 5
      unfold fu
      split
      · right; omega
      · exact h3 h hh
abbrev hOk (w : Nat → Nat → Nat) (pl : Nat → Nat) : Prop := ∀ i, i < w 7 2 → pl (w 8 i) < pl (w 9 i)
def hCnt (w : Nat → Nat → Nat) : Nat → Nat
  | 0 => 0
  | k + 1 => if hOk w (lPl k) then hCnt w k + 1 else hCnt w k
theorem hCnt_le (w : Nat → Nat → Nat) : ∀ n, hCnt w n ≤ n := by
  intro n
  induction n with
  | zero => exact Nat.le_refl _
  | succ n ih =>
    unfold hCnt
    split <;> omega
def hPr (w : Nat → Nat → Nat) (a b : Nat) : Nat → Nat
  | 0 => 0
  | k + 1 => if hOk w (lPl k) ∧ lPl k a < lPl k b then hPr w a b k + 1 else hPr w a b k
theorem hPr_le (w : Nat → Nat → Nat) (a b : Nat) : ∀ n, hPr w a b n ≤ hCnt w n := by
  intro n
  induction n with
  | zero => exact Nat.le_refl _
  | succ n ih =>
    unfold hPr hCnt
    by_cases h : hOk w (lPl n)
    · rw [if_pos h]
      split <;> omega
    · rw [if_neg h, if_neg (fun q => h q.1)]
      exact ih
theorem qX0_judgeStops_27 : Cond.fieldLink RX0 27 (TX0 2).1 (TX0 2).2.1 (TX0 2).2.2.1 ∈ wsX0_judgeStops := List.mem_of_getElem? (i := 1) rfl
theorem iX0_judgeStops_X0 : ∀ w ∈ wsX00, w ∈ wsX0_judgeStops := fun _ h => List.mem_cons_of_mem _ (List.mem_append_right _ h)
theorem qX0_judgeStops_9 : Cond.fieldLink RX0 9 (TX0 0).1 (TX0 0).2.1 (TX0 0).2.2.1 ∈ wsX0_judgeStops := List.mem_of_getElem? (i := 2) rfl
theorem qX0_judgeStops_34 : Cond.fieldLink RX0 34 (TX0 3).1 (TX0 3).2.1 (TX0 3).2.2.1 ∈ wsX0_judgeStops := List.mem_of_getElem? (i := 3) rfl
theorem qX0_judgeStops_38 : Cond.fieldLink RX0 38 (TX0 4).1 (TX0 4).2.1 (TX0 4).2.2.1 ∈ wsX0_judgeStops := List.mem_of_getElem? (i := 4) rfl
theorem qX0_judgeStops_19 : Cond.fieldLink RX0 19 (TX0 1).1 (TX0 1).2.1 (TX0 1).2.2.1 ∈ wsX0_judgeStops := List.mem_of_getElem? (i := 5) rfl
theorem qX0_judgeStops_41 : Cond.constantLong RX0 41 10 ∈ wsX0_judgeStops := List.mem_of_getElem? (i := 6) rfl
theorem qX2_freeHand_11 : Cond.fieldLink RX2 11 (TX2 0).1 (TX2 0).2.1 (TX2 0).2.2.1 ∈ wsX2_freeHand := List.mem_of_getElem? (i := 1) rfl
theorem iX2_freeHand_X2 : ∀ w ∈ wsX20, w ∈ wsX2_freeHand := fun _ h => List.mem_cons_of_mem _ (List.mem_append_right _ h)
theorem qX2_layOut_11 : Cond.fieldLink RX2 11 (TX2 0).1 (TX2 0).2.1 (TX2 0).2.2.1 ∈ wsX2_layOut := List.mem_of_getElem? (i := 1) rfl
theorem iX2_layOut_X2 : ∀ w ∈ wsX20, w ∈ wsX2_layOut := fun _ h => List.mem_cons_of_mem _ (List.mem_append_right _ h)
theorem qX2_layOut_24 : Cond.fieldLink RX2 24 (TX2 2).1 (TX2 2).2.1 (TX2 2).2.2.1 ∈ wsX2_layOut := List.mem_of_getElem? (i := 2) rfl
theorem qX2_layOut_28 : Cond.methodLink RX2 28 Lib.Math.max.name ∈ wsX2_layOut := List.mem_of_getElem? (i := 3) rfl
theorem qX2_layOut_w4 : Cond.static Lib.Math.max.name ∈ wsX2_layOut := List.mem_of_getElem? (i := 4) rfl
theorem qX2_layOut_w5 : Cond.initialized "java/lang/Math" ∈ wsX2_layOut := List.mem_of_getElem? (i := 5) rfl
theorem qX2_layOut_w6 : Cond.code Lib.Math.max.name Lib.Math.max.code 2 (some .int) ∈ wsX2_layOut := List.mem_of_getElem? (i := 6) rfl
theorem qX8_hold_16 : Cond.fieldLink RX8 16 (TX8 2).1 (TX8 2).2.1 (TX8 2).2.2.1 ∈ wsX8_hold := List.mem_of_getElem? (i := 1) rfl
theorem iX8_hold_X8 : ∀ w ∈ wsX80, w ∈ wsX8_hold := fun _ h => List.mem_cons_of_mem _ (List.mem_append_right _ h)
theorem qX8_hold_9 : Cond.fieldLink RX8 9 (TX8 0).1 (TX8 0).2.1 (TX8 0).2.2.1 ∈ wsX8_hold := List.mem_of_getElem? (i := 2) rfl
theorem qX8_hold_13 : Cond.fieldLink RX8 13 (TX8 1).1 (TX8 1).2.1 (TX8 1).2.2.1 ∈ wsX8_hold := List.mem_of_getElem? (i := 3) rfl
set_option maxHeartbeats 4000000 in
set_option maxRecDepth 100000 in
theorem c_X0_judgeStops (l : Launch) (G : uG) (t d : Nat) (ht : t ≤ 10) (hd1 : 1 ≤ d) (hd : d ≤ 9) (wd : Nat → Nat) (hwd : ∀ i, i < 9 → wd i ≤ 9) (M : uM) (hD0 : M.1 41 1 = nI d) (hW0 : ∀ i, i < d → M.1 42 i = nI (wd i)) : CTv l G yX0_judgeStops wsX0_judgeStops 1 21 [.ref (G.2.2 41), .int (nI t)] M (fun M2 => M2.1 41 2 = nI (jS wd t d).1 ∧ M2.2 41 3 = lN (jS wd t d).2.1 ∧ M2.2 41 4 = lN (jS wd t d).2.2 ∧ uSm 41 43 M M2) := by
  have hwd0 := hwd 0 (by decide)
  refine ustart_v (cc := cX0_judgeStops) (maxL := 9) (ret := none) (own := RX0) rfl (by decide) rfl (Nat.le_of_ble_eq_true rfl) ?_
  intro xp xe xs xm xa xb xt xc xA ls S hK hA Z hre hlk hl
  have hl : lv_has ls 9 [(0, .ref (G.2.2 41)), (1, .int (nI t))] := hl
  refine lv_aload_n S.1 S.2.1 dX0_judgeStops_0 rfl (lv_at hl 0 rfl) ?_
  refine lv_iconst (v := 0) S.1 S.2.1 dX0_judgeStops_1 (by decide) ?_
  refine up_i S hK Z (j := 2) (by decide) rfl rfl rfl (by decide) iX0_judgeStops_X0 tyX0_ok nmX0 qX0_judgeStops_27 rfl rfl rfl dX0_judgeStops_2 (fun H locs Z => ?_)
  refine lv_aload_n S.1 S.2.1 dX0_judgeStops_5 rfl (lv_at hl 0 rfl) ?_
  refine lv_aload_n S.1 S.2.1 dX0_judgeStops_6 rfl (lv_at hl 0 rfl) ?_
  refine ug_r S hK Z (j := 0) 42 (by decide) rfl rfl rfl (by decide) iX0_judgeStops_X0 qX0_judgeStops_9 dX0_judgeStops_7 ?_
  refine lv_iconst (v := 0) S.1 S.2.1 dX0_judgeStops_10 (by decide) ?_
  refine ud_Si (As := [.ref (G.2.2 42), .int 0]) (rest := [.ref (G.2.2 41)]) S hK hA Z (c_X5_at l G 42 9 0 (by decide) rfl (by omega) (u1 M 41 2 0)) (va_cwS 2 S.2.2.2.2 gX0_judgeStops_X5_at rfl rfl rfl (by decide +kernel) ⟨Nat.le_of_ble_eq_true rfl, Nat.le_of_ble_eq_true rfl⟩) rfl hl.1 rfl (Nat.le_of_ble_eq_true rfl) dX0_judgeStops_11 ⟨Nat.zero_le _, Nat.zero_le _⟩ (fun H locs Z => ?_)
  refine utop (y := nI (wd 0)) (hW0 0 (by omega)) ?_
  refine lv_i2l (v := (lN (wd 0))) S.1 S.2.1 dX0_judgeStops_14 (nI_l (by omega)) ?_
  refine up_l S hK Z (j := 3) (by decide) rfl rfl rfl (by decide) iX0_judgeStops_X0 tyX0_ok nmX0 qX0_judgeStops_34 rfl rfl rfl dX0_judgeStops_15 (fun H locs Z => ?_)
  refine lv_aload_n S.1 S.2.1 dX0_judgeStops_18 rfl (lv_at hl 0 rfl) ?_
  refine lv_lconst (v := 1) S.1 S.2.1 dX0_judgeStops_19 (by decide) ?_
  refine up_l S hK Z (j := 4) (by decide) rfl rfl rfl (by decide) iX0_judgeStops_X0 tyX0_ok nmX0 qX0_judgeStops_38 rfl rfl rfl dX0_judgeStops_20 (fun H locs Z => ?_)
  refine lv_lconst (v := 1) S.1 S.2.1 dX0_judgeStops_23 (by decide) ?_
  refine lv_lstore_n (lv' := [(2, .long 1), (0, .ref (G.2.2 41)), (1, .int (nI t))]) S.1 S.2.1 dX0_judgeStops_24 rfl hl (by decide) rfl (fun ls hl => ?_)
  refine lv_lconst (v := 1) S.1 S.2.1 dX0_judgeStops_25 (by decide) ?_
  refine lv_lstore (lv' := [(4, .long 1), (2, .long 1), (0, .ref (G.2.2 41)), (1, .int (nI t))]) S.1 S.2.1 dX0_judgeStops_26 hl (by decide) rfl (fun ls hl => ?_)
  refine lv_iconst (v := 1) S.1 S.2.1 dX0_judgeStops_28 (by decide) ?_
  refine lv_istore (lv' := [(6, .int 1), (4, .long 1), (2, .long 1), (0, .ref (G.2.2 41)), (1, .int (nI t))]) S.1 S.2.1 dX0_judgeStops_29 hl (by decide) rfl (fun ls hl => ?_)
  have LP31 : ∀ (fU : Nat) (i : Nat) (kp : Nat) (op : Nat) (M1 : uM), (d < i + fU) → (1 ≤ i) → (i ≤ d) → (kp = (10 - t) ^ (i - 1)) → (op = 10 ^ (i - 1)) → (M1.1 41 1 = nI d) → (∀ x, x < d → M1.1 42 x = nI (wd x)) → (M1.1 41 2 = nI (jS wd t i).1) → (M1.2 41 3 = lN (jS wd t i).2.1) → (M1.2 41 4 = lN (jS wd t i).2.2) → (uSm 41 43 M M1) → ∀ (H : Heap) (locs : List Loc) (ls : Array Slot), uZ G xA M1 xs.heap H locs → lv_has ls 9 [(6, .int (nI i)), (4, .long (lN op)), (2, .long (lN kp)), (0, .ref (G.2.2 41)), (1, .int (nI t))] → W xp l xe (uRm 1 21) xs xm xa xb xt xc H locs 0 0 (MQ xb (va_Qv (fun M2 => M2.1 41 2 = nI (jS wd t d).1 ∧ M2.2 41 3 = lN (jS wd t d).2.1 ∧ M2.2 41 4 = lN (jS wd t d).2.2 ∧ uSm 41 43 M M2) (fun M' t => uB G M' t) xA) xa xs 0 0 xA) (F0 xm 31 ls []) := by
    intro fU
    induction fU with
    | zero =>
      intro i kp op M1 hfl i1 i2 k1 k2 hD hW hT hU hB hs H locs ls Z hl
      exfalso
      omega
    | succ fU ih31 =>
      intro i kp op M1 hfl i1 i2 k1 k2 hD hW hT hU hB hs H locs ls Z hl
      refine lv_iload S.1 S.2.1 dX0_judgeStops_31 (lv_at hl 0 rfl) ?_
      refine lv_aload_n S.1 S.2.1 dX0_judgeStops_33 rfl (lv_at hl 3 rfl) ?_
      refine ug_i S hK Z (j := 1) (by decide) rfl rfl rfl (by decide) iX0_judgeStops_X0 qX0_judgeStops_19 dX0_judgeStops_34 ?_
      refine utop (y := (nI d)) hD ?_
      refine lv_icmp_ge (tgt := 119) S.1 S.2.1 dX0_judgeStops_37 (by decide) (fun c_2 => ?_) (fun c_2 => ?_)
      · skip
        have c_2 : d ≤ i := (nI_leI (a := d) (b := i) (by omega) (by omega)).mp c_2
        refine uret_v S hK Z hre hlk dX0_judgeStops_119 ?_
        obtain rfl : i = d := by omega
        exact ⟨hT, hU, hB, hs⟩
      · skip
        have c_2 : ¬ d ≤ i := fun z9 => c_2 ((nI_leI (a := d) (b := i) (by omega) (by omega)).mpr z9)
        refine lv_iload S.1 S.2.1 dX0_judgeStops_40 (lv_at hl 0 rfl) ?_
        refine lv_bipush (v := 9) S.1 S.2.1 dX0_judgeStops_42 (by decide) ?_
        refine lv_icmp_ge (tgt := 119) S.1 S.2.1 dX0_judgeStops_44 (by decide) (fun c_3 => ?_) (fun c_3 => ?_)
        · skip
          have c_3 : 9 ≤ i := (nI_leI (a := 9) (b := i) (by omega) (by omega)).mp c_3
          omega
        · skip
          have c_3 : ¬ 9 ≤ i := fun z9 => c_3 ((nI_leI (a := 9) (b := i) (by omega) (by omega)).mpr z9)
          have hwi := hwd i (by omega)
          have e1 : kp * (10 - t) = (10 - t) ^ i := by rw [k1]; exact pw_s _ _ i1
          have e2 : op * 10 = 10 ^ i := by rw [k2]; exact pw_s _ _ i1
          have b1 : (10 - t) ^ i ≤ 10 ^ i := Nat.pow_le_pow_left (by omega) i
          have b2 : 10 ^ i ≤ 10 ^ 8 := Nat.pow_le_pow_right (by decide) (by omega)
          obtain ⟨b3, b4, b5⟩ := jS_bd t hwd i (by omega)
          have b6 : wd i * (kp * (10 - t)) * (jS wd t i).2.2 ≤ 9 * 10 ^ 8 * 100000000 := Nat.mul_le_mul (Nat.mul_le_mul hwi (by rw [e1]; omega)) b4
          have b7 : (jS wd t i).2.1 * (op * 10) ≤ 900000000 * 10 ^ 8 := Nat.mul_le_mul b3 (by rw [e2]; omega)
          refine lv_lload_n S.1 S.2.1 dX0_judgeStops_47 rfl (lv_at hl 2 rfl) ?_
          refine lv_bipush (v := 10) S.1 S.2.1 dX0_judgeStops_48 (by decide) ?_
          refine lv_iload_n S.1 S.2.1 dX0_judgeStops_50 rfl (lv_at hl 4 rfl) ?_
          refine lv_isub S.1 S.2.1 dX0_judgeStops_51 ?_
          refine utop (pk_sub (a := 10) (b := t) (by omega)) ?_
          refine lv_i2l (v := (lN (10 - t))) S.1 S.2.1 dX0_judgeStops_52 (nI_l (by omega)) ?_
          refine lv_lmul S.1 S.2.1 dX0_judgeStops_53 ?_
          refine utopl (lN_mul kp (10 - t)) ?_
          refine lv_lstore_n (lv' := [(2, .long (lN (kp * (10 - t)))), (6, .int (nI i)), (4, .long (lN op)), (0, .ref (G.2.2 41)), (1, .int (nI t))]) S.1 S.2.1 dX0_judgeStops_54 rfl hl (by decide) rfl (fun ls hl => ?_)
          refine lv_lload S.1 S.2.1 dX0_judgeStops_55 (lv_at hl 2 rfl) ?_
          refine lv_ldc2 (v := 10) S.1 S.2.1 S.2.2.2.1 (S.2.2.2.2 _ qX0_judgeStops_41) dX0_judgeStops_57 ?_
          refine lv_lmul S.1 S.2.1 dX0_judgeStops_60 ?_
          refine utopl (lN_mul op 10) ?_
          refine lv_lstore (lv' := [(4, .long (lN (op * 10))), (2, .long (lN (kp * (10 - t)))), (6, .int (nI i)), (0, .ref (G.2.2 41)), (1, .int (nI t))]) S.1 S.2.1 dX0_judgeStops_61 hl (by decide) rfl (fun ls hl => ?_)
          refine lv_aload_n S.1 S.2.1 dX0_judgeStops_63 rfl (lv_at hl 3 rfl) ?_
          refine ug_r S hK Z (j := 0) 42 (by decide) rfl rfl rfl (by decide) iX0_judgeStops_X0 qX0_judgeStops_9 dX0_judgeStops_64 ?_
          refine lv_iload S.1 S.2.1 dX0_judgeStops_67 (lv_at hl 2 rfl) ?_
          refine ud_Si (As := [.ref (G.2.2 42), .int (nI i)]) (rest := []) S hK hA Z (c_X5_at l G 42 9 i (by decide) rfl (by omega) M1) (va_cwS 2 S.2.2.2.2 gX0_judgeStops_X5_at rfl rfl rfl (by decide +kernel) ⟨Nat.le_of_ble_eq_true rfl, Nat.le_of_ble_eq_true rfl⟩) rfl hl.1 rfl (Nat.le_of_ble_eq_true rfl) dX0_judgeStops_69 ⟨Nat.zero_le _, Nat.zero_le _⟩ (fun H locs Z => ?_)
          refine utop (y := (nI (wd i))) (hW i (by omega)) ?_
          refine lv_i2l (v := (lN (wd i))) S.1 S.2.1 dX0_judgeStops_72 (nI_l (by omega)) ?_
          refine lv_lload_n S.1 S.2.1 dX0_judgeStops_73 rfl (lv_at hl 1 rfl) ?_
          refine lv_lmul S.1 S.2.1 dX0_judgeStops_74 ?_
          refine utopl (lN_mul (wd i) (kp * (10 - t))) ?_
          refine lv_lstore (lv' := [(7, .long (lN ((wd i) * (kp * (10 - t))))), (4, .long (lN (op * 10))), (2, .long (lN (kp * (10 - t)))), (6, .int (nI i)), (0, .ref (G.2.2 41)), (1, .int (nI t))]) S.1 S.2.1 dX0_judgeStops_75 hl (by decide) rfl (fun ls hl => ?_)
          refine lv_lload S.1 S.2.1 dX0_judgeStops_77 (lv_at hl 0 rfl) ?_
          refine lv_aload_n S.1 S.2.1 dX0_judgeStops_79 rfl (lv_at hl 4 rfl) ?_
          refine ug_l S hK Z (j := 4) (by decide) rfl rfl rfl (by decide) iX0_judgeStops_X0 qX0_judgeStops_38 dX0_judgeStops_80 ?_
          refine utopl (y := (lN ((jS wd t i).2.2))) hB ?_
          refine lv_lmul S.1 S.2.1 dX0_judgeStops_83 ?_
          refine utopl (lN_mul ((wd i) * (kp * (10 - t))) ((jS wd t i).2.2)) ?_
          refine lv_aload_n S.1 S.2.1 dX0_judgeStops_84 rfl (lv_at hl 4 rfl) ?_
          refine ug_l S hK Z (j := 3) (by decide) rfl rfl rfl (by decide) iX0_judgeStops_X0 qX0_judgeStops_34 dX0_judgeStops_85 ?_
          refine utopl (y := (lN ((jS wd t i).2.1))) hU ?_
          refine lv_lload S.1 S.2.1 dX0_judgeStops_88 (lv_at hl 1 rfl) ?_
          refine lv_lmul S.1 S.2.1 dX0_judgeStops_90 ?_
          refine utopl (lN_mul ((jS wd t i).2.1) (op * 10)) ?_
          refine W.lcmp S.1 S.2.1 dX0_judgeStops_91 ?_
          refine lv_if_le (tgt := 113) S.1 S.2.1 dX0_judgeStops_92 (by decide) (fun c_5 => ?_) (fun c_5 => ?_)
          · skip
            have c_5 : (lN (((wd i) * (kp * (10 - t))) * ((jS wd t i).2.2))) ≤ (lN (((jS wd t i).2.1) * (op * 10))) := (lg_cmp_le (lN (((wd i) * (kp * (10 - t))) * ((jS wd t i).2.2))) (lN (((jS wd t i).2.1) * (op * 10)))).mp c_5
            have c_5 : (((wd i) * (kp * (10 - t))) * ((jS wd t i).2.2)) ≤ (((jS wd t i).2.1) * (op * 10)) := (pk_lLE (a := (((wd i) * (kp * (10 - t))) * ((jS wd t i).2.2))) (b := (((jS wd t i).2.1) * (op * 10))) (by omega) (by omega)).mp c_5
            refine lv_iinc (v := (nI (i + 1))) (lv' := [(6, .int (nI (i + 1))), (7, .long (lN ((wd i) * (kp * (10 - t))))), (4, .long (lN (op * 10))), (2, .long (lN (kp * (10 - t)))), (0, .ref (G.2.2 41)), (1, .int (nI t))]) S.1 S.2.1 dX0_judgeStops_113 hl (k := 3) rfl (u_inc1 i) (by decide) rfl (fun ls hl => ?_)
            refine lv_goto (tgt := 31) S.1 S.2.1 dX0_judgeStops_116 (by decide) ?_
            have hj := jS_2 i1 e1 e2 c_5
            exact ih31 (i + 1) (kp * (10 - t)) (op * 10) M1 (by omega) (by omega) (by omega) (by rw [e1, Nat.add_sub_cancel]) (by rw [e2, Nat.add_sub_cancel]) (by exact hD) (by exact hW) (by rw [hj]; exact hT) (by rw [hj]; exact hU) (by rw [hj]; exact hB) (by exact hs) _ _ _ Z (lv_sub hl [0, 2, 3, 4, 5] rfl)
          · skip
            have c_5 : ¬ (lN (((wd i) * (kp * (10 - t))) * ((jS wd t i).2.2))) ≤ (lN (((jS wd t i).2.1) * (op * 10))) := fun z9 => c_5 ((lg_cmp_le (lN (((wd i) * (kp * (10 - t))) * ((jS wd t i).2.2))) (lN (((jS wd t i).2.1) * (op * 10)))).mpr z9)
            have c_5 : ¬ (((wd i) * (kp * (10 - t))) * ((jS wd t i).2.2)) ≤ (((jS wd t i).2.1) * (op * 10)) := fun z9 => c_5 ((pk_lLE (a := (((wd i) * (kp * (10 - t))) * ((jS wd t i).2.2))) (b := (((jS wd t i).2.1) * (op * 10))) (by omega) (by omega)).mpr z9)
            refine lv_aload_n S.1 S.2.1 dX0_judgeStops_95 rfl (lv_at hl 4 rfl) ?_
            refine lv_iload S.1 S.2.1 dX0_judgeStops_96 (lv_at hl 3 rfl) ?_
            refine up_i S hK Z (j := 2) (by decide) rfl rfl rfl (by decide) iX0_judgeStops_X0 tyX0_ok nmX0 qX0_judgeStops_27 rfl rfl rfl dX0_judgeStops_98 (fun H locs Z => ?_)
            refine lv_aload_n S.1 S.2.1 dX0_judgeStops_101 rfl (lv_at hl 4 rfl) ?_
            refine lv_lload S.1 S.2.1 dX0_judgeStops_102 (lv_at hl 0 rfl) ?_
            refine up_l S hK Z (j := 3) (by decide) rfl rfl rfl (by decide) iX0_judgeStops_X0 tyX0_ok nmX0 qX0_judgeStops_34 rfl rfl rfl dX0_judgeStops_104 (fun H locs Z => ?_)
            refine lv_aload_n S.1 S.2.1 dX0_judgeStops_107 rfl (lv_at hl 4 rfl) ?_
            refine lv_lload S.1 S.2.1 dX0_judgeStops_108 (lv_at hl 1 rfl) ?_
            refine up_l S hK Z (j := 4) (by decide) rfl rfl rfl (by decide) iX0_judgeStops_X0 tyX0_ok nmX0 qX0_judgeStops_38 rfl rfl rfl dX0_judgeStops_110 (fun H locs Z => ?_)
            refine lv_iinc (v := (nI (i + 1))) (lv' := [(6, .int (nI (i + 1))), (7, .long (lN ((wd i) * (kp * (10 - t))))), (4, .long (lN (op * 10))), (2, .long (lN (kp * (10 - t)))), (0, .ref (G.2.2 41)), (1, .int (nI t))]) S.1 S.2.1 dX0_judgeStops_113 hl (k := 3) rfl (u_inc1 i) (by decide) rfl (fun ls hl => ?_)
            refine lv_goto (tgt := 31) S.1 S.2.1 dX0_judgeStops_116 (by decide) ?_
            have hj := jS_1 i1 e1 e2 c_5
            exact ih31 (i + 1) (kp * (10 - t)) (op * 10) (u2 (u2 (u1 M1 41 2 (nI i)) 41 3 (lN ((wd i) * (kp * (10 - t))))) 41 4 (lN (op * 10))) (by omega) (by omega) (by omega) (by rw [e1, Nat.add_sub_cancel]) (by rw [e2, Nat.add_sub_cancel]) (by exact hD) (by exact hW) (by rw [hj]; rfl) (by rw [hj]; rfl) (by rw [hj]; rfl) (by exact uSm_2 (uSm_2 (uSm_1 hs (by decide) (by decide)))) _ _ _ Z (lv_sub hl [0, 2, 3, 4, 5] rfl)
  exact LP31 (d + 1) 1 1 1 (u2 (u2 (u1 M 41 2 0) 41 3 (lN (wd 0))) 41 4 1) (by omega) (by omega) (by omega) (by rfl) (by rfl) (by exact hD0) (by exact hW0) (by rfl) (by rfl) (by rfl) (by exact uSm_2 (uSm_2 (uSm_1 (uSm_rf 41 43 M) (by decide) (by decide)))) _ _ _ Z (lv_sub hl [0, 1, 2, 3, 4] rfl)
set_option maxHeartbeats 4000000 in
set_option maxRecDepth 100000 in
theorem c_X2_freeHand (l : Launch) (G : uG) (q : Nat) (hq : q < 1000) (M : uM) (pl : Nat → Nat) (hpl : ∀ i, M.1 44 i = nI (pl i)) (hv : ∀ h, h < 5 → pl h = 4294967290 ∨ pl h < 5) : CTi l G yX2_freeHand wsX2_freeHand 1 21 [.ref (G.2.2 43), .int (nI q)] M (fun r M2 => r = nI (fh pl 5 0 q) ∧ M2 = M) := by
  refine ustart_i (cc := cX2_freeHand) (maxL := 4) (ret := (some .int)) (own := RX2) rfl (by decide) rfl (Nat.le_of_ble_eq_true rfl) ?_
  intro xp xe xs xm xa xb xt xc xA ls S hK hA Z hre hlk hl
  have hl : lv_has ls 4 [(0, .ref (G.2.2 43)), (1, .int (nI q))] := hl
  refine lv_iload_n S.1 S.2.1 dX2_freeHand_0 rfl (lv_at hl 1 rfl) ?_
  refine lv_istore_n (lv' := [(2, .int (nI q)), (0, .ref (G.2.2 43)), (1, .int (nI q))]) S.1 S.2.1 dX2_freeHand_1 rfl hl (by decide) rfl (fun ls hl => ?_)
  refine lv_iconst (v := 0) S.1 S.2.1 dX2_freeHand_2 (by decide) ?_
  refine lv_istore_n (lv' := [(3, .int 0), (2, .int (nI q)), (0, .ref (G.2.2 43)), (1, .int (nI q))]) S.1 S.2.1 dX2_freeHand_3 rfl hl (by decide) rfl (fun ls hl => ?_)
  have LP4 : ∀ (fU : Nat) (z : Nat) (h : Nat), (5 < h + fU) → (h ≤ 5) → (z < 1000) → (fh pl (5 - h) h z = fh pl 5 0 q) → ∀ (H : Heap) (locs : List Loc) (ls : Array Slot), uZ G xA M xs.heap H locs → lv_has ls 4 [(3, .int (nI h)), (2, .int (nI z)), (0, .ref (G.2.2 43)), (1, .int (nI q))] → W xp l xe (uRm 1 21) xs xm xa xb xt xc H locs 0 0 (MQ xb (va_Qi (fun r M2 => r = nI (fh pl 5 0 q) ∧ M2 = M) (fun M' t => uB G M' t) xA) xa xs 0 0 xA) (F0 xm 4 ls []) := by
    intro fU
    induction fU with
    | zero =>
      intro z h hfl i1 i2 i3 H locs ls Z hl
      exfalso
      omega
    | succ fU ih4 =>
      intro z h hfl i1 i2 i3 H locs ls Z hl
      refine lv_iload_n S.1 S.2.1 dX2_freeHand_4 rfl (lv_at hl 0 rfl) ?_
      refine lv_iconst (v := 5) S.1 S.2.1 dX2_freeHand_5 (by decide) ?_
      refine lv_icmp_ge (tgt := 37) S.1 S.2.1 dX2_freeHand_6 (by decide) (fun c_1 => ?_) (fun c_1 => ?_)
      · skip
        have c_1 : 5 ≤ h := (nI_leI (a := 5) (b := h) (by omega) (by omega)).mp c_1
        refine lv_iconst (v := 0) S.1 S.2.1 dX2_freeHand_37 (by decide) ?_
        refine uret_i S hK Z hre hlk dX2_freeHand_38 ?_
        rw [← i3, show 5 - h = 0 from by omega]
        exact ⟨rfl, rfl⟩
      · skip
        have c_1 : ¬ 5 ≤ h := fun z9 => c_1 ((nI_leI (a := 5) (b := h) (by omega) (by omega)).mpr z9)
        have e0 : 5 - h = (5 - (h + 1)) + 1 := by omega
        refine lv_aload_n S.1 S.2.1 dX2_freeHand_9 rfl (lv_at hl 2 rfl) ?_
        refine ug_r S hK Z (j := 0) 44 (by decide) rfl rfl rfl (by decide) iX2_freeHand_X2 qX2_freeHand_11 dX2_freeHand_10 ?_
        refine lv_iload_n S.1 S.2.1 dX2_freeHand_13 rfl (lv_at hl 0 rfl) ?_
        refine ud_Si (As := [.ref (G.2.2 44), .int (nI h)]) (rest := []) S hK hA Z (c_X5_at l G 44 5 h (by decide) rfl (by omega) M) (va_cwS 2 S.2.2.2.2 gX2_freeHand_X5_at rfl rfl rfl (by decide +kernel) ⟨Nat.le_of_ble_eq_true rfl, Nat.le_of_ble_eq_true rfl⟩) rfl hl.1 rfl (Nat.le_of_ble_eq_true rfl) dX2_freeHand_14 ⟨Nat.zero_le _, Nat.zero_le _⟩ (fun H locs Z => ?_)
        refine utop (y := (nI (pl h))) (hpl h) ?_
        refine lv_bipush (v := (-6)) S.1 S.2.1 dX2_freeHand_17 (by decide) ?_
        refine lv_icmp_ne (tgt := 31) S.1 S.2.1 dX2_freeHand_19 (by decide) (fun c_3 => ?_) (fun c_3 => ?_)
        · skip
          refine lv_iinc (v := (nI (h + 1))) (lv' := [(3, .int (nI (h + 1))), (2, .int (nI z)), (0, .ref (G.2.2 43)), (1, .int (nI q))]) S.1 S.2.1 dX2_freeHand_31 hl (k := 0) rfl (u_inc1 h) (by decide) rfl (fun ls hl => ?_)
          refine lv_goto (tgt := 4) S.1 S.2.1 dX2_freeHand_34 (by decide) ?_
          exact ih4 z (h + 1) (by omega) (by omega) (by omega) (by
              rw [← i3, e0, fh]
              first
                | rw [if_pos ((n6_iff (hv h (by omega))).mp (by assumption)), if_neg (by assumption)]
                | rw [if_neg (fun y => absurd ((n6_iff (hv h (by omega))).mpr y) (by assumption))]) _ _ _ Z (lv_sub hl [0, 1, 2, 3] rfl)
        · skip
          refine lv_iload_n S.1 S.2.1 dX2_freeHand_22 rfl (lv_at hl 1 rfl) ?_
          refine lv_if_ne (tgt := 28) S.1 S.2.1 dX2_freeHand_23 (by decide) (fun c_4 => ?_) (fun c_4 => ?_)
          · skip
            have c_4 : ¬ z = 0 := fun z9 => c_4 ((nI_eq (a := z) (b := 0) (by omega) (by omega)).mpr z9)
            refine lv_iinc (v := (nI (z - 1))) (lv' := [(2, .int (nI (z - 1))), (3, .int (nI h)), (0, .ref (G.2.2 43)), (1, .int (nI q))]) S.1 S.2.1 dX2_freeHand_28 hl (k := 1) rfl (u_dec (r := z) (by omega)) (by decide) rfl (fun ls hl => ?_)
            refine lv_iinc (v := (nI (h + 1))) (lv' := [(3, .int (nI (h + 1))), (2, .int (nI (z - 1))), (0, .ref (G.2.2 43)), (1, .int (nI q))]) S.1 S.2.1 dX2_freeHand_31 hl (k := 1) rfl (u_inc1 h) (by decide) rfl (fun ls hl => ?_)
            refine lv_goto (tgt := 4) S.1 S.2.1 dX2_freeHand_34 (by decide) ?_
            exact ih4 (z - 1) (h + 1) (by omega) (by omega) (by omega) (by
                rw [← i3, e0, fh]
                first
                  | rw [if_pos ((n6_iff (hv h (by omega))).mp (by assumption)), if_neg (by assumption)]
                  | rw [if_neg (fun y => absurd ((n6_iff (hv h (by omega))).mpr y) (by assumption))]) _ _ _ Z (lv_sub hl [0, 1, 2, 3] rfl)
          · skip
            have c_4 : z = 0 := (nI_eq (a := z) (b := 0) (by omega) (by omega)).mp c_4
            refine lv_iload_n S.1 S.2.1 dX2_freeHand_26 rfl (lv_at hl 0 rfl) ?_
            refine uret_i S hK Z hre hlk dX2_freeHand_27 ?_
            rw [← i3, e0, fh, if_pos ((n6_iff (hv h (by omega))).mp (by assumption)), if_pos (by assumption)]
            exact ⟨rfl, rfl⟩
  exact LP4 6 q 0 (by omega) (by omega) (by omega) (by rfl) _ _ _ Z (lv_sub hl [0, 1, 2, 3] rfl)
set_option maxHeartbeats 4000000 in
set_option maxRecDepth 100000 in
theorem c_X2_layOut (l : Launch) (G : uG) (k : Nat) (hk : k < 120) (M : uM) (rf pl : Nat → Nat) : CTv l G yX2_layOut wsX2_layOut 2 44 [.ref (G.2.2 43), .int (nI k)] (uAr (uAr M 43 rf) 44 pl) (fun M2 => ∃ rf2 pl2, M2 = uAr (uAr M 43 rf2) 44 pl2 ∧ rf2 2 = lRow k ∧ (∀ h, h < 5 → pl2 h = lPl k h) ∧ ∀ x, x ≠ 2 → rf2 x = rf x) := by
  refine ustart_v (cc := cX2_layOut) (maxL := 6) (ret := none) (own := RX2) rfl (by decide) rfl (Nat.le_of_ble_eq_true rfl) ?_
  intro xp xe xs xm xa xb xt xc xA ls S hK hA Z hre hlk hl
  have hl : lv_has ls 6 [(0, .ref (G.2.2 43)), (1, .int (nI k))] := hl
  refine lv_aload_n S.1 S.2.1 dX2_layOut_0 rfl (lv_at hl 0 rfl) ?_
  refine ug_r S hK Z (j := 0) 44 (by decide) rfl rfl rfl (by decide) iX2_layOut_X2 qX2_layOut_11 dX2_layOut_1 ?_
  refine lv_bipush (v := (-6)) S.1 S.2.1 dX2_layOut_4 (by decide) ?_
  refine ud_Sv (As := [.ref (G.2.2 44), .int (-6)]) (rest := []) S hK hA Z (c_X5_fill l G 44 5 (by decide) rfl (-6) (uAr (uAr M 43 rf) 44 pl)) (va_cwS 2 S.2.2.2.2 gX2_layOut_X5_fill rfl rfl rfl (by decide +kernel) ⟨Nat.le_of_ble_eq_true rfl, Nat.le_of_ble_eq_true rfl⟩) rfl hl.1 rfl (Nat.le_of_ble_eq_true rfl) dX2_layOut_6 ⟨Nat.zero_le _, Nat.zero_le _⟩ (fun H locs Z => ?_)
  have Z := uZ_eq (M' := (uAr (uAr M 43 rf) 44 (fun i => if i < 5 then 4294967290 else pl i))) (by rw [← n6]; exact (uAr_fill (uAr M 43 rf) 44 pl 5 4294967290)) Z
  refine lv_aload_n S.1 S.2.1 dX2_layOut_9 rfl (lv_at hl 0 rfl) ?_
  refine lv_iconst (v := 0) S.1 S.2.1 dX2_layOut_10 (by decide) ?_
  refine up_i S hK Z (j := 2) (by decide) rfl rfl rfl (by decide) iX2_layOut_X2 tyX2_ok nmX2 qX2_layOut_24 rfl rfl rfl dX2_layOut_11 (fun H locs Z => ?_)
  have Z := uZ_eq ((uAr_c (uAr M 43 rf) 44 (fun i => if i < 5 then 4294967290 else pl i) (a := 43) 2 (nI 0) (by decide)).trans (congrArg (fun X => uAr X 44 (fun i => if i < 5 then 4294967290 else pl i)) (uAr_s M 43 rf 2 0))) Z
  refine lv_iload_n S.1 S.2.1 dX2_layOut_14 rfl (lv_at hl 1 rfl) ?_
  refine lv_istore_n (lv' := [(2, .int (nI k)), (0, .ref (G.2.2 43)), (1, .int (nI k))]) S.1 S.2.1 dX2_layOut_15 rfl hl (by decide) rfl (fun ls hl => ?_)
  refine lv_bipush (v := 120) S.1 S.2.1 dX2_layOut_16 (by decide) ?_
  refine lv_istore_n (lv' := [(3, .int 120), (2, .int (nI k)), (0, .ref (G.2.2 43)), (1, .int (nI k))]) S.1 S.2.1 dX2_layOut_18 rfl hl (by decide) rfl (fun ls hl => ?_)
  refine lv_iconst (v := 0) S.1 S.2.1 dX2_layOut_19 (by decide) ?_
  refine lv_istore (lv' := [(4, .int 0), (3, .int 120), (2, .int (nI k)), (0, .ref (G.2.2 43)), (1, .int (nI k))]) S.1 S.2.1 dX2_layOut_20 hl (by decide) rfl (fun ls hl => ?_)
  have LP22 : ∀ (fU : Nat) (i : Nat) (rs : Nat) (re : Nat) (rf1 : Nat → Nat) (pl1 : Nat → Nat), (5 < i + fU) → (i ≤ 5) → (rs = (lst k i).1) → (re = (lst k i).2.1) → (∀ h, h < 5 → pl1 h = (lst k i).2.2.1 h) → (rf1 2 = (lst k i).2.2.2) → (∀ x, x ≠ 2 → rf1 x = rf x) → ∀ (H : Heap) (locs : List Loc) (ls : Array Slot), uZ G xA (uAr (uAr M 43 rf1) 44 pl1) xs.heap H locs → lv_has ls 6 [(4, .int (nI i)), (3, .int (nI re)), (2, .int (nI rs)), (0, .ref (G.2.2 43)), (1, .int (nI k))] → W xp l xe (uRm 2 44) xs xm xa xb xt xc H locs 0 0 (MQ xb (va_Qv (fun M2 => ∃ rf2 pl2, M2 = uAr (uAr M 43 rf2) 44 pl2 ∧ rf2 2 = lRow k ∧ (∀ h, h < 5 → pl2 h = lPl k h) ∧ ∀ x, x ≠ 2 → rf2 x = rf x) (fun M' t => uB G M' t) xA) xa xs 0 0 xA) (F0 xm 22 ls []) := by
    intro fU
    induction fU with
    | zero =>
      intro i rs re rf1 pl1 hfl i1 i2 i3 i4 i5 i6 H locs ls Z hl
      exfalso
      omega
    | succ fU ih22 =>
      intro i rs re rf1 pl1 hfl i1 i2 i3 i4 i5 i6 H locs ls Z hl
      have bd := lst_bd k hk i i1
      rw [← i2, ← i3] at bd
      obtain ⟨bd1, bd2, -⟩ := id bd
      have y1 := Nat.div_le_self re (5 - i)
      have y2 : 1 ≤ max 1 (re / (5 - i)) := Nat.le_max_left _ _
      have y3 : max 1 (re / (5 - i)) ≤ 120 := by omega
      have y4 := Nat.div_le_self rs (max 1 (re / (5 - i)))
      have y5 : fh pl1 5 0 (rs / max 1 (re / (5 - i))) = fh (lst k i).2.2.1 5 0 (rs / max 1 (re / (5 - i))) := fh_congr i4 5 0 _ rfl
      have y6 := fh_le (pl := pl1) 5 0 (rs / max 1 (re / (5 - i))) rfl
      refine lv_iload S.1 S.2.1 dX2_layOut_22 (lv_at hl 0 rfl) ?_
      refine lv_iconst (v := 5) S.1 S.2.1 dX2_layOut_24 (by decide) ?_
      refine lv_icmp_ge (tgt := 83) S.1 S.2.1 dX2_layOut_25 (by decide) (fun c_2 => ?_) (fun c_2 => ?_)
      · skip
        have c_2 : 5 ≤ i := (nI_leI (a := 5) (b := i) (by omega) (by omega)).mp c_2
        refine uret_v S hK Z hre hlk dX2_layOut_83 ?_
        obtain rfl : i = 5 := by omega
        exact ⟨_, _, rfl, i5, i4, i6⟩
      · skip
        have c_2 : ¬ 5 ≤ i := fun z9 => c_2 ((nI_leI (a := 5) (b := i) (by omega) (by omega)).mpr z9)
        refine lv_iconst (v := 1) S.1 S.2.1 dX2_layOut_28 (by decide) ?_
        refine lv_iload_n S.1 S.2.1 dX2_layOut_29 rfl (lv_at hl 1 rfl) ?_
        refine lv_iconst (v := 5) S.1 S.2.1 dX2_layOut_30 (by decide) ?_
        refine lv_iload S.1 S.2.1 dX2_layOut_31 (lv_at hl 0 rfl) ?_
        refine lv_isub S.1 S.2.1 dX2_layOut_33 ?_
        refine utop (pk_sub (a := 5) (b := i) (by omega)) ?_
        refine lv_idiv S.1 S.2.1 dX2_layOut_34 (nI_ne0 (by omega) (by omega)) ?_
        refine utop (pk_div (a := re) (d := (5 - i)) (by omega) (by omega) (by omega)) ?_
        refine va_mmax S.1 S.2.1 (S.2.2.1.trans hl.1.symm) S.2.2.2.1 (S.2.2.2.2 _ qX2_layOut_28) (S.2.2.2.2 _ qX2_layOut_w4) (S.2.2.2.2 _ qX2_layOut_w5) (S.2.2.2.2 _ qX2_layOut_w6) (Nat.le_of_ble_eq_true rfl) (Nat.le_of_ble_eq_true rfl) (Nat.zero_le _) (Nat.zero_le _) dX2_layOut_35 ?_
        refine utop (u_mmax (a := 1) (b := (re / (5 - i))) (by omega) (by omega)) ?_
        refine lv_istore_n (lv' := [(3, .int (nI (max 1 (re / (5 - i))))), (4, .int (nI i)), (2, .int (nI rs)), (0, .ref (G.2.2 43)), (1, .int (nI k))]) S.1 S.2.1 dX2_layOut_38 rfl hl (by decide) rfl (fun ls hl => ?_)
        refine lv_aload_n S.1 S.2.1 dX2_layOut_39 rfl (lv_at hl 3 rfl) ?_
        refine lv_iload_n S.1 S.2.1 dX2_layOut_40 rfl (lv_at hl 2 rfl) ?_
        refine lv_iload_n S.1 S.2.1 dX2_layOut_41 rfl (lv_at hl 0 rfl) ?_
        refine lv_idiv S.1 S.2.1 dX2_layOut_42 (nI_ne0 (by omega) (by omega)) ?_
        refine utop (pk_div (a := rs) (d := (max 1 (re / (5 - i)))) (by omega) (by omega) (by omega)) ?_
        refine ud_Vi (As := [.int (nI (rs / (max 1 (re / (5 - i)))))]) (rest := []) S hK hA Z (c_X2_freeHand l G (rs / (max 1 (re / (5 - i)))) (by omega) (uAr (uAr M 43 rf1) 44 pl1) pl1 (fun x => uAr_g _ _ _ x) (fun x hx => by rw [i4 x hx]; exact bd.2.2 x hx)) (cwV 1 S.2.2.2.2 gX2_layOut_X2_freeHand rfl rfl rfl (by decide +kernel) ⟨Nat.le_of_ble_eq_true rfl, Nat.le_of_ble_eq_true rfl⟩) (by decide) rfl rfl rfl hl.1 rfl (Nat.le_of_ble_eq_true rfl) dX2_layOut_43 ⟨Nat.zero_le _, Nat.zero_le _⟩ (fun H locs Z => ?_)
        refine lv_istore (lv' := [(5, .int (nI (fh pl1 5 0 (rs / (max 1 (re / (5 - i))))))), (3, .int (nI (max 1 (re / (5 - i))))), (4, .int (nI i)), (2, .int (nI rs)), (0, .ref (G.2.2 43)), (1, .int (nI k))]) S.1 S.2.1 dX2_layOut_46 hl (by decide) rfl (fun ls hl => ?_)
        refine lv_iload_n S.1 S.2.1 dX2_layOut_48 rfl (lv_at hl 3 rfl) ?_
        refine lv_iload_n S.1 S.2.1 dX2_layOut_49 rfl (lv_at hl 1 rfl) ?_
        refine lv_irem S.1 S.2.1 dX2_layOut_50 (nI_ne0 (by omega) (by omega)) ?_
        refine utop (pk_rem (a := rs) (d := (max 1 (re / (5 - i)))) (by omega) (by omega) (by omega)) ?_
        refine lv_istore_n (lv' := [(2, .int (nI (rs % (max 1 (re / (5 - i)))))), (5, .int (nI (fh pl1 5 0 (rs / (max 1 (re / (5 - i))))))), (3, .int (nI (max 1 (re / (5 - i))))), (4, .int (nI i)), (0, .ref (G.2.2 43)), (1, .int (nI k))]) S.1 S.2.1 dX2_layOut_51 rfl hl (by decide) rfl (fun ls hl => ?_)
        refine lv_aload_n S.1 S.2.1 dX2_layOut_52 rfl (lv_at hl 4 rfl) ?_
        refine ug_r S hK Z (j := 0) 44 (by decide) rfl rfl rfl (by decide) iX2_layOut_X2 qX2_layOut_11 dX2_layOut_53 ?_
        refine lv_iload S.1 S.2.1 dX2_layOut_56 (lv_at hl 1 rfl) ?_
        refine lv_iload S.1 S.2.1 dX2_layOut_58 (lv_at hl 3 rfl) ?_
        refine ud_Sv (As := [.ref (G.2.2 44), .int (nI (fh pl1 5 0 (rs / (max 1 (re / (5 - i)))))), .int (nI i)]) (rest := []) S hK hA Z (c_X5_put l G 44 5 (fh pl1 5 0 (rs / (max 1 (re / (5 - i))))) (by decide) rfl (by omega) (nI i) (uAr (uAr M 43 rf1) 44 pl1)) (va_cwS 3 S.2.2.2.2 gX2_layOut_X5_put rfl rfl rfl (by decide +kernel) ⟨Nat.le_of_ble_eq_true rfl, Nat.le_of_ble_eq_true rfl⟩) rfl hl.1 rfl (Nat.le_of_ble_eq_true rfl) dX2_layOut_60 ⟨Nat.zero_le _, Nat.zero_le _⟩ (fun H locs Z => ?_)
        have Z := uZ_eq (uAr_s (uAr M 43 rf1) 44 pl1 (fh pl1 5 0 (rs / (max 1 (re / (5 - i))))) i) Z
        refine lv_aload_n S.1 S.2.1 dX2_layOut_63 rfl (lv_at hl 4 rfl) ?_
        refine lv_aload_n S.1 S.2.1 dX2_layOut_64 rfl (lv_at hl 4 rfl) ?_
        refine ug_i S hK Z (j := 2) (by decide) rfl rfl rfl (by decide) iX2_layOut_X2 qX2_layOut_24 dX2_layOut_65 ?_
        refine utop (y := (nI (rf1 2))) ((uAr_o (uAr M 43 rf1) 44 (fu pl1 (fh pl1 5 0 (rs / (max 1 (re / (5 - i))))) i) 2 (a := 43) (by decide)).trans (uAr_g M 43 rf1 2)) ?_
        refine lv_bipush (v := 10) S.1 S.2.1 dX2_layOut_68 (by decide) ?_
        refine lv_imul S.1 S.2.1 dX2_layOut_70 ?_
        refine utop (pk_mul (rf1 2) 10) ?_
        refine lv_iload S.1 S.2.1 dX2_layOut_71 (lv_at hl 1 rfl) ?_
        refine lv_iadd S.1 S.2.1 dX2_layOut_73 ?_
        refine utop (nI_add ((rf1 2) * 10) (fh pl1 5 0 (rs / (max 1 (re / (5 - i)))))) ?_
        refine up_i S hK Z (j := 2) (by decide) rfl rfl rfl (by decide) iX2_layOut_X2 tyX2_ok nmX2 qX2_layOut_24 rfl rfl rfl dX2_layOut_74 (fun H locs Z => ?_)
        have Z := uZ_eq ((uAr_c (uAr M 43 rf1) 44 (fu pl1 (fh pl1 5 0 (rs / (max 1 (re / (5 - i))))) i) (a := 43) 2 (nI (((rf1 2) * 10) + (fh pl1 5 0 (rs / (max 1 (re / (5 - i))))))) (by decide)).trans (congrArg (fun X => uAr X 44 (fu pl1 (fh pl1 5 0 (rs / (max 1 (re / (5 - i))))) i)) (uAr_s M 43 rf1 2 (((rf1 2) * 10) + (fh pl1 5 0 (rs / (max 1 (re / (5 - i))))))))) Z
        refine lv_iinc (v := (nI (i + 1))) (lv' := [(4, .int (nI (i + 1))), (2, .int (nI (rs % (max 1 (re / (5 - i)))))), (5, .int (nI (fh pl1 5 0 (rs / (max 1 (re / (5 - i))))))), (3, .int (nI (max 1 (re / (5 - i))))), (0, .ref (G.2.2 43)), (1, .int (nI k))]) S.1 S.2.1 dX2_layOut_77 hl (k := 3) rfl (u_inc1 i) (by decide) rfl (fun ls hl => ?_)
        refine lv_goto (tgt := 22) S.1 S.2.1 dX2_layOut_80 (by decide) ?_
        exact ih22 (i + 1) (rs % (max 1 (re / (5 - i)))) (max 1 (re / (5 - i))) (fu rf1 2 (((rf1 2) * 10) + (fh pl1 5 0 (rs / (max 1 (re / (5 - i))))))) (fu pl1 (fh pl1 5 0 (rs / (max 1 (re / (5 - i))))) i) (by omega) (by omega) (by rw [lst, ← i2, ← i3]) (by rw [lst, ← i3]) (by
            intro h hh
            rw [lst, ← i2, ← i3, ← y5]
            show fu _ _ _ h = fu _ _ _ h
            unfold fu
            rw [i4 h hh]) (by rw [lst, ← i2, ← i3, ← y5, fu_eq, i5]) (by intro x hx; rw [fu_ne hx]; exact i6 x hx) _ _ _ Z (lv_sub hl [0, 3, 1, 4, 5] rfl)
  exact LP22 6 0 k 120 (fu rf 2 0) (fun i => if i < 5 then 4294967290 else pl i) (by omega) (by omega) (by rfl) (by rfl) (by intro h hh; exact if_pos hh) (by rw [fu_eq]; rfl) (by intro x hx; exact fu_ne hx) _ _ _ Z (lv_sub hl [0, 1, 2, 3, 4] rfl)
set_option maxHeartbeats 4000000 in
set_option maxRecDepth 100000 in
theorem c_X8_hold (l : Launch) (G : uG) (M : uM) (w : Nat → Nat → Nat) (pl : Nat → Nat) (hr : uRd M 1 w) (hw : wOk w) (hpl : ∀ i, M.1 44 i = nI (pl i)) (hp5 : ∀ h, h < 5 → pl h < 5) : CTi l G yX8_hold wsX8_hold 1 21 [.ref (G.2.2 8), .ref (G.2.2 44)] M (fun r M2 => ((r = 1 ∧ hOk w pl) ∨ (r = 0 ∧ ¬ hOk w pl)) ∧ M2 = M) := by
  have h72 := hw.2.2.2.2.1
  refine ustart_i (cc := cX8_hold) (maxL := 3) (ret := (some .boolean)) (own := RX8) rfl (by decide) rfl (Nat.le_of_ble_eq_true rfl) ?_
  intro xp xe xs xm xa xb xt xc xA ls S hK hA Z hre hlk hl
  have hl : lv_has ls 3 [(0, .ref (G.2.2 8)), (1, .ref (G.2.2 44))] := hl
  refine lv_iconst (v := 0) S.1 S.2.1 dX8_hold_0 (by decide) ?_
  refine lv_istore_n (lv' := [(2, .int 0), (0, .ref (G.2.2 8)), (1, .ref (G.2.2 44))]) S.1 S.2.1 dX8_hold_1 rfl hl (by decide) rfl (fun ls hl => ?_)
  have LP2 : ∀ (fU : Nat) (i : Nat), (w 7 2 < i + fU) → (i ≤ w 7 2) → (∀ x, x < i → pl (w 8 x) < pl (w 9 x)) → ∀ (H : Heap) (locs : List Loc) (ls : Array Slot), uZ G xA M xs.heap H locs → lv_has ls 3 [(2, .int (nI i)), (0, .ref (G.2.2 8)), (1, .ref (G.2.2 44))] → W xp l xe (uRm 1 21) xs xm xa xb xt xc H locs 0 0 (MQ xb (va_Qi (fun r M2 => ((r = 1 ∧ hOk w pl) ∨ (r = 0 ∧ ¬ hOk w pl)) ∧ M2 = M) (fun M' t => uB G M' t) xA) xa xs 0 0 xA) (F0 xm 2 ls []) := by
    intro fU
    induction fU with
    | zero =>
      intro i hfl i1 i2 H locs ls Z hl
      exfalso
      omega
    | succ fU ih2 =>
      intro i hfl i1 i2 H locs ls Z hl
      refine lv_iload_n S.1 S.2.1 dX8_hold_2 rfl (lv_at hl 0 rfl) ?_
      refine lv_aload_n S.1 S.2.1 dX8_hold_3 rfl (lv_at hl 1 rfl) ?_
      refine ug_i S hK Z (j := 2) (by decide) rfl rfl rfl (by decide) iX8_hold_X8 qX8_hold_16 dX8_hold_4 ?_
      refine utop (y := (nI (w 7 2))) (hr 7 (by decide) 2) ?_
      refine lv_icmp_ge (tgt := 51) S.1 S.2.1 dX8_hold_7 (by decide) (fun c_1 => ?_) (fun c_1 => ?_)
      · skip
        have c_1 : (w 7 2) ≤ i := (nI_leI (a := (w 7 2)) (b := i) (by omega) (by omega)).mp c_1
        refine lv_iconst (v := 1) S.1 S.2.1 dX8_hold_51 (by decide) ?_
        refine uret_z S hK Z hre hlk (by decide) dX8_hold_52 ?_
        exact ⟨Or.inl ⟨rfl, fun x hx => i2 x (by omega)⟩, rfl⟩
      · skip
        have c_1 : ¬ (w 7 2) ≤ i := fun z9 => c_1 ((nI_leI (a := (w 7 2)) (b := i) (by omega) (by omega)).mpr z9)
        refine lv_iload_n S.1 S.2.1 dX8_hold_10 rfl (lv_at hl 0 rfl) ?_
        refine lv_bipush (v := 8) S.1 S.2.1 dX8_hold_11 (by decide) ?_
        refine lv_icmp_ge (tgt := 51) S.1 S.2.1 dX8_hold_13 (by decide) (fun c_2 => ?_) (fun c_2 => ?_)
        · skip
          have c_2 : 8 ≤ i := (nI_leI (a := 8) (b := i) (by omega) (by omega)).mp c_2
          omega
        · skip
          have c_2 : ¬ 8 ≤ i := fun z9 => c_2 ((nI_leI (a := 8) (b := i) (by omega) (by omega)).mpr z9)
          obtain ⟨-, -, b1, b2⟩ := hw.2.1 i (by omega)
          have b3 := hp5 _ b1
          have b4 := hp5 _ b2
          refine lv_aload_n S.1 S.2.1 dX8_hold_16 rfl (lv_at hl 2 rfl) ?_
          refine lv_aload_n S.1 S.2.1 dX8_hold_17 rfl (lv_at hl 1 rfl) ?_
          refine ug_r S hK Z (j := 0) 9 (by decide) rfl rfl rfl (by decide) iX8_hold_X8 qX8_hold_9 dX8_hold_18 ?_
          refine lv_iload_n S.1 S.2.1 dX8_hold_21 rfl (lv_at hl 0 rfl) ?_
          refine ud_Si (As := [.ref (G.2.2 9), .int (nI i)]) (rest := [.ref (G.2.2 44)]) S hK hA Z (c_X5_at l G 9 8 i (by decide) rfl (by omega) M) (va_cwS 2 S.2.2.2.2 gX8_hold_X5_at rfl rfl rfl (by decide +kernel) ⟨Nat.le_of_ble_eq_true rfl, Nat.le_of_ble_eq_true rfl⟩) rfl hl.1 rfl (Nat.le_of_ble_eq_true rfl) dX8_hold_22 ⟨Nat.zero_le _, Nat.zero_le _⟩ (fun H locs Z => ?_)
          refine utop (y := (nI (w 8 i))) (hr 8 (by decide) i) ?_
          refine ud_Si (As := [.ref (G.2.2 44), .int (nI (w 8 i))]) (rest := []) S hK hA Z (c_X5_at l G 44 5 (w 8 i) (by decide) rfl (by omega) M) (va_cwS 2 S.2.2.2.2 gX8_hold_X5_at rfl rfl rfl (by decide +kernel) ⟨Nat.le_of_ble_eq_true rfl, Nat.le_of_ble_eq_true rfl⟩) rfl hl.1 rfl (Nat.le_of_ble_eq_true rfl) dX8_hold_25 ⟨Nat.zero_le _, Nat.zero_le _⟩ (fun H locs Z => ?_)
          refine utop (y := (nI (pl (w 8 i)))) (hpl (w 8 i)) ?_
          refine lv_aload_n S.1 S.2.1 dX8_hold_28 rfl (lv_at hl 2 rfl) ?_
          refine lv_aload_n S.1 S.2.1 dX8_hold_29 rfl (lv_at hl 1 rfl) ?_
          refine ug_r S hK Z (j := 1) 10 (by decide) rfl rfl rfl (by decide) iX8_hold_X8 qX8_hold_13 dX8_hold_30 ?_
          refine lv_iload_n S.1 S.2.1 dX8_hold_33 rfl (lv_at hl 0 rfl) ?_
          refine ud_Si (As := [.ref (G.2.2 10), .int (nI i)]) (rest := [.ref (G.2.2 44), .int (nI (pl (w 8 i)))]) S hK hA Z (c_X5_at l G 10 8 i (by decide) rfl (by omega) M) (va_cwS 2 S.2.2.2.2 gX8_hold_X5_at rfl rfl rfl (by decide +kernel) ⟨Nat.le_of_ble_eq_true rfl, Nat.le_of_ble_eq_true rfl⟩) rfl hl.1 rfl (Nat.le_of_ble_eq_true rfl) dX8_hold_34 ⟨Nat.zero_le _, Nat.zero_le _⟩ (fun H locs Z => ?_)
          refine utop (y := (nI (w 9 i))) (hr 9 (by decide) i) ?_
          refine ud_Si (As := [.ref (G.2.2 44), .int (nI (w 9 i))]) (rest := [.int (nI (pl (w 8 i)))]) S hK hA Z (c_X5_at l G 44 5 (w 9 i) (by decide) rfl (by omega) M) (va_cwS 2 S.2.2.2.2 gX8_hold_X5_at rfl rfl rfl (by decide +kernel) ⟨Nat.le_of_ble_eq_true rfl, Nat.le_of_ble_eq_true rfl⟩) rfl hl.1 rfl (Nat.le_of_ble_eq_true rfl) dX8_hold_37 ⟨Nat.zero_le _, Nat.zero_le _⟩ (fun H locs Z => ?_)
          refine utop (y := (nI (pl (w 9 i)))) (hpl (w 9 i)) ?_
          refine lv_icmp_lt (tgt := 45) S.1 S.2.1 dX8_hold_40 (by decide) (fun c_7 => ?_) (fun c_7 => ?_)
          · skip
            have c_7 : (pl (w 8 i)) < (pl (w 9 i)) := (nI_ltI (a := (pl (w 8 i))) (b := (pl (w 9 i))) (by omega) (by omega)).mp c_7
            refine lv_iinc (v := (nI (i + 1))) (lv' := [(2, .int (nI (i + 1))), (0, .ref (G.2.2 8)), (1, .ref (G.2.2 44))]) S.1 S.2.1 dX8_hold_45 hl (k := 0) rfl (u_inc1 i) (by decide) rfl (fun ls hl => ?_)
            refine lv_goto (tgt := 2) S.1 S.2.1 dX8_hold_48 (by decide) ?_
            exact ih2 (i + 1) (by omega) (by omega) (by
                intro x hx
                by_cases z : x = i
                · subst z
                  omega
                · exact i2 x (by omega)) _ _ _ Z (lv_sub hl [0, 1, 2] rfl)
          · skip
            have c_7 : ¬ (pl (w 8 i)) < (pl (w 9 i)) := fun z9 => c_7 ((nI_ltI (a := (pl (w 8 i))) (b := (pl (w 9 i))) (by omega) (by omega)).mpr z9)
            refine lv_iconst (v := 0) S.1 S.2.1 dX8_hold_43 (by decide) ?_
            refine uret_z S hK Z hre hlk (by decide) dX8_hold_44 ?_
            exact ⟨Or.inr ⟨rfl, fun q => by have := q i (by omega); omega⟩, rfl⟩
  exact LP2 (w 7 2 + 1) 0 (by omega) (by omega) (by intro x hx; omega) _ _ _ Z (lv_sub hl [0, 1, 2] rfl)
