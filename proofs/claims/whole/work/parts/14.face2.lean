theorem uAr_of {M : uM} {k : Nat} {f : Nat → Nat} (h : ∀ i, M.1 k i = nI (f i)) : uAr M k f = M := uM_ext (fun a i => by
  by_cases q : a = k
  · subst q
    rw [uAr_g, h]
  · rw [uAr_o _ _ _ _ q]) rfl
theorem uAr_ex2 (M : uM) (a b : Nat) : ∃ f g, uAr (uAr M a f) b g = M := by
  obtain ⟨f, hf⟩ := uAr_ex M a
  obtain ⟨g, hg⟩ := uAr_ex M b
  exact ⟨f, g, by rw [hf, hg]⟩
theorem uAr_ex3 (M : uM) (a b c : Nat) : ∃ f g h, uAr (uAr (uAr M a f) b g) c h = M := by
  obtain ⟨f, hf⟩ := uAr_ex M a
  obtain ⟨g, h, hg⟩ := uAr_ex2 M b c
  exact ⟨f, g, h, by rw [hf, hg]⟩
theorem u_lack : ∀ x, x ≤ 9 → (if (0 : Int32) < 2 - nI x then 2 - nI x else 0) = nI (2 - x) := by decide +kernel
theorem dg_lt (v n i : Nat) : dg v n i < 10 := Nat.mod_lt _ (by decide)
theorem it_congr {f g : Nat → Nat} {x : Nat} (h : ∀ i, i < 8 → f i = g i) (h8 : ∀ i, i < 8 → f i < 8) (hx : x < 8) : ∀ j, it f x j = it g x j := by
  intro j
  induction j with
  | zero => rfl
  | succ j ih => rw [it, it, ← ih, h _ (it_lt h8 hx j)]
theorem rEnd_congr {f g : Nat → Nat} {x N K : Nat} (h : ∀ j, it f x j = it g x j) (hr : rEnd f x N K) : rEnd g x N K := by
  obtain ⟨h1, h2, h3, h4, h5⟩ := hr
  refine ⟨h1, h2, h3, by rw [← h, ← h]; exact h4, fun a b ha hb => by rw [← h, ← h]; exact h5 a b ha hb⟩
theorem rowOk_neg {x : Int32} (h : x < 0) : ¬ rowOk x := fun ⟨v, h1, h2, _⟩ => by
  subst h1
  exact nI_pos h2 h
theorem rowOk_v {v : Nat} (hv : v < 2147483648) (h : ¬ rOk v) : ¬ rowOk (nI v) := fun ⟨v2, h1, h2, h3⟩ => by
  rw [nI_inj hv h2 h1] at h
  exact h h3
theorem cOk_neg {x n : Int32} (h : x < 0) : ¬ cOk x n := fun ⟨v, d, h1, h2, _⟩ => by
  subst h1
  exact nI_pos h2 h
theorem dn_bd {d n : Nat} (hd : d ≤ 10) (hn : n ≤ 12) : d ^ n < 17592186044416 := by
  have h1 : d ^ n ≤ 10 ^ n := Nat.pow_le_pow_left hd n
  have h2 : 10 ^ n ≤ 10 ^ 12 := Nat.pow_le_pow_right (by decide) hn
  omega
theorem u_no4 {a b c d : Prop} (h1 : a) (h2 : b) (h3 : c) (h4 : d) : ¬ (¬ a ∨ ¬ b ∨ ¬ c ∨ ¬ d) := fun q => q.elim (fun z => z h1) (fun q => q.elim (fun z => z h2) (fun q => q.elim (fun z => z h3) (fun z => z h4)))
theorem qX11_fewestNights_296 : Cond.methodLink RX11 296 Lib.Math.max.name ∈ wsX11_fewestNights := List.mem_of_getElem? (i := 3) rfl
theorem qX11_fewestNights_w4 : Cond.static Lib.Math.max.name ∈ wsX11_fewestNights := List.mem_of_getElem? (i := 4) rfl
theorem qX11_fewestNights_w5 : Cond.initialized "java/lang/Math" ∈ wsX11_fewestNights := List.mem_of_getElem? (i := 5) rfl
theorem qX11_fewestNights_w6 : Cond.code Lib.Math.max.name Lib.Math.max.code 2 (some .int) ∈ wsX11_fewestNights := List.mem_of_getElem? (i := 6) rfl
theorem qX11_fewestNights_10 : Cond.fieldLink RX11 10 (TX11 0).1 (TX11 0).2.1 (TX11 0).2.2.1 ∈ wsX11_fewestNights := List.mem_of_getElem? (i := 1) rfl
theorem iX11_fewestNights_X11 : ∀ w ∈ wsX110, w ∈ wsX11_fewestNights := fun _ h => List.mem_cons_of_mem _ (List.mem_append_left _ (List.mem_append_right _ h))
theorem qX11_fewestNights_110 : Cond.fieldLink RX11 110 (TX10 1).1 (TX10 1).2.1 (TX10 1).2.2.1 ∈ wsX11_fewestNights := List.mem_of_getElem? (i := 2) rfl
theorem iX11_fewestNights_X10 : ∀ w ∈ wsX100, w ∈ wsX11_fewestNights := fun _ h => List.mem_cons_of_mem _ (List.mem_append_right _ h)
theorem qX11_sack_36 : Cond.fieldLink RX11 36 (TX11 4).1 (TX11 4).2.1 (TX11 4).2.2.1 ∈ wsX11_sack := List.mem_of_getElem? (i := 1) rfl
theorem iX11_sack_X11 : ∀ w ∈ wsX110, w ∈ wsX11_sack := fun _ h => List.mem_cons_of_mem _ (List.mem_append_left _ (List.mem_append_left _ (List.mem_append_right _ h)))
theorem qX11_sack_10 : Cond.fieldLink RX11 10 (TX11 0).1 (TX11 0).2.1 (TX11 0).2.2.1 ∈ wsX11_sack := List.mem_of_getElem? (i := 2) rfl
theorem qX11_sack_193 : Cond.fieldLink RX11 193 (TX6 1).1 (TX6 1).2.1 (TX6 1).2.2.1 ∈ wsX11_sack := List.mem_of_getElem? (i := 4) rfl
theorem iX11_sack_X6 : ∀ w ∈ wsX60, w ∈ wsX11_sack := fun _ h => List.mem_cons_of_mem _ (List.mem_append_left _ (List.mem_append_right _ h))
theorem qX11_sack_192 : Cond.fieldLink RX11 192 (TX6 0).1 (TX6 0).2.1 (TX6 0).2.2.1 ∈ wsX11_sack := List.mem_of_getElem? (i := 3) rfl
theorem qX11_ring_200 : Cond.constant RX11 200 999999999 ∈ wsX11_ring := List.mem_of_getElem? (i := 1) rfl
theorem qX11_ring_43 : Cond.fieldLink RX11 43 (TX11 5).1 (TX11 5).2.1 (TX11 5).2.2.1 ∈ wsX11_ring := List.mem_of_getElem? (i := 2) rfl
theorem iX11_ring_X11 : ∀ w ∈ wsX110, w ∈ wsX11_ring := fun _ h => List.mem_cons_of_mem _ (List.mem_append_left _ (List.mem_append_right _ h))
theorem qX11_ring_213 : Cond.fieldLink RX11 213 (TX4 5).1 (TX4 5).2.1 (TX4 5).2.2.1 ∈ wsX11_ring := List.mem_of_getElem? (i := 4) rfl
theorem iX11_ring_X4 : ∀ w ∈ wsX40, w ∈ wsX11_ring := fun _ h => List.mem_cons_of_mem _ (List.mem_append_right _ h)
theorem qX11_ring_210 : Cond.fieldLink RX11 210 (TX4 3).1 (TX4 3).2.1 (TX4 3).2.2.1 ∈ wsX11_ring := List.mem_of_getElem? (i := 3) rfl
theorem qX11_sells_50 : Cond.fieldLink RX11 50 (TX11 6).1 (TX11 6).2.1 (TX11 6).2.2.1 ∈ wsX11_sells := List.mem_of_getElem? (i := 1) rfl
theorem iX11_sells_X11 : ∀ w ∈ wsX110, w ∈ wsX11_sells := fun _ h => List.mem_cons_of_mem _ (List.mem_append_left _ (List.mem_append_right _ h))
theorem qX11_sells_235 : Cond.fieldLink RX11 235 (TX0 2).1 (TX0 2).2.1 (TX0 2).2.2.1 ∈ wsX11_sells := List.mem_of_getElem? (i := 2) rfl
theorem iX11_sells_X0 : ∀ w ∈ wsX00, w ∈ wsX11_sells := fun _ h => List.mem_cons_of_mem _ (List.mem_append_right _ h)
theorem qX11_stop_50 : Cond.fieldLink RX11 50 (TX11 6).1 (TX11 6).2.1 (TX11 6).2.2.1 ∈ wsX11_stop := List.mem_of_getElem? (i := 1) rfl
theorem iX11_stop_X11 : ∀ w ∈ wsX110, w ∈ wsX11_stop := fun _ h => List.mem_cons_of_mem _ (List.mem_append_left _ (List.mem_append_right _ h))
theorem qX11_stop_224 : Cond.fieldLink RX11 224 (TX0 3).1 (TX0 3).2.1 (TX0 3).2.2.1 ∈ wsX11_stop := List.mem_of_getElem? (i := 3) rfl
theorem iX11_stop_X0 : ∀ w ∈ wsX00, w ∈ wsX11_stop := fun _ h => List.mem_cons_of_mem _ (List.mem_append_right _ h)
theorem qX11_stop_228 : Cond.fieldLink RX11 228 (TX0 4).1 (TX0 4).2.1 (TX0 4).2.2.1 ∈ wsX11_stop := List.mem_of_getElem? (i := 4) rfl
theorem qX11_stop_219 : Cond.constantLong RX11 219 (-1000000000000000002) ∈ wsX11_stop := List.mem_of_getElem? (i := 2) rfl
theorem qX11_fits_57 : Cond.fieldLink RX11 57 (TX11 7).1 (TX11 7).2.1 (TX11 7).2.2.1 ∈ wsX11_fits := List.mem_of_getElem? (i := 1) rfl
theorem iX11_fits_X11 : ∀ w ∈ wsX110, w ∈ wsX11_fits := fun _ h => List.mem_cons_of_mem _ (List.mem_append_left _ (List.mem_append_left _ (List.mem_append_left _ (List.mem_append_right _ h))))
theorem qX11_fits_10 : Cond.fieldLink RX11 10 (TX11 0).1 (TX11 0).2.1 (TX11 0).2.2.1 ∈ wsX11_fits := List.mem_of_getElem? (i := 2) rfl
theorem qX11_fits_238 : Cond.fieldLink RX11 238 (TX10 6).1 (TX10 6).2.1 (TX10 6).2.2.1 ∈ wsX11_fits := List.mem_of_getElem? (i := 3) rfl
theorem iX11_fits_X10 : ∀ w ∈ wsX100, w ∈ wsX11_fits := fun _ h => List.mem_cons_of_mem _ (List.mem_append_left _ (List.mem_append_left _ (List.mem_append_right _ h)))
theorem qX11_ask_57 : Cond.fieldLink RX11 57 (TX11 7).1 (TX11 7).2.1 (TX11 7).2.2.1 ∈ wsX11_ask := List.mem_of_getElem? (i := 1) rfl
theorem iX11_ask_X11 : ∀ w ∈ wsX110, w ∈ wsX11_ask := fun _ h => List.mem_cons_of_mem _ (List.mem_append_left _ (List.mem_append_left _ (List.mem_append_left _ (List.mem_append_right _ h))))
theorem qX11_ask_10 : Cond.fieldLink RX11 10 (TX11 0).1 (TX11 0).2.1 (TX11 0).2.2.1 ∈ wsX11_ask := List.mem_of_getElem? (i := 2) rfl
theorem qX11_ask_238 : Cond.fieldLink RX11 238 (TX10 6).1 (TX10 6).2.1 (TX10 6).2.2.1 ∈ wsX11_ask := List.mem_of_getElem? (i := 3) rfl
theorem iX11_ask_X10 : ∀ w ∈ wsX100, w ∈ wsX11_ask := fun _ h => List.mem_cons_of_mem _ (List.mem_append_left _ (List.mem_append_left _ (List.mem_append_right _ h)))
theorem qX11_ask_261 : Cond.fieldLink RX11 261 (TX2 5).1 (TX2 5).2.1 (TX2 5).2.2.1 ∈ wsX11_ask := List.mem_of_getElem? (i := 5) rfl
theorem iX11_ask_X2 : ∀ w ∈ wsX20, w ∈ wsX11_ask := fun _ h => List.mem_cons_of_mem _ (List.mem_append_left _ (List.mem_append_right _ h))
theorem qX11_ask_258 : Cond.fieldLink RX11 258 (TX2 4).1 (TX2 4).2.1 (TX2 4).2.2.1 ∈ wsX11_ask := List.mem_of_getElem? (i := 4) rfl
theorem qX11_doors_71 : Cond.fieldLink RX11 71 (TX11 9).1 (TX11 9).2.1 (TX11 9).2.2.1 ∈ wsX11_doors := List.mem_of_getElem? (i := 2) rfl
theorem iX11_doors_X11 : ∀ w ∈ wsX110, w ∈ wsX11_doors := fun _ h => List.mem_cons_of_mem _ (List.mem_append_left _ (List.mem_append_right _ h))
theorem qX11_doors_274 : Cond.fieldLink RX11 274 (TX1 1).1 (TX1 1).2.1 (TX1 1).2.2.1 ∈ wsX11_doors := List.mem_of_getElem? (i := 3) rfl
theorem iX11_doors_X1 : ∀ w ∈ wsX10, w ∈ wsX11_doors := fun _ h => List.mem_cons_of_mem _ (List.mem_append_right _ h)
theorem qX11_doors_219 : Cond.constantLong RX11 219 (-1000000000000000002) ∈ wsX11_doors := List.mem_of_getElem? (i := 1) rfl
set_option maxHeartbeats 4000000 in
set_option maxRecDepth 100000 in
theorem c_X11_fewest (l : Launch) (G : uG) (n st : Nat) (hn1 : 1 ≤ n) (hn : n ≤ 8) (hst : st ≤ 4095) (M : uM) (w : Nat → Nat → Nat) (hr : uRd M 1 w) (hw : wOk w) : CTi l G yX11_fewestNights wsX11_fewestNights 1 21 [.ref (G.2.2 0), .int (nI n), .int (nI st)] M (fun r M2 => r = nI (max (crM w st 12) ((crN w st 12 + n - 1) / n)) ∧ M2 = M) := by
  refine ustart_i (cc := cX11_fewestNights) (maxL := 7) (ret := (some .int)) (own := RX11) rfl (by decide) rfl (Nat.le_of_ble_eq_true rfl) ?_
  intro xp xe xs xm xa xb xt xc xA ls S hK hA Z hre hlk hl
  have hl : lv_has ls 7 [(0, .ref (G.2.2 0)), (1, .int (nI n)), (2, .int (nI st))] := hl
  refine lv_iconst (v := 0) S.1 S.2.1 dX11_fewestNights_0 (by decide) ?_
  refine lv_istore_n (lv' := [(3, .int 0), (0, .ref (G.2.2 0)), (1, .int (nI n)), (2, .int (nI st))]) S.1 S.2.1 dX11_fewestNights_1 rfl hl (by decide) rfl (fun ls hl => ?_)
  refine lv_iconst (v := 0) S.1 S.2.1 dX11_fewestNights_2 (by decide) ?_
  refine lv_istore (lv' := [(4, .int 0), (3, .int 0), (0, .ref (G.2.2 0)), (1, .int (nI n)), (2, .int (nI st))]) S.1 S.2.1 dX11_fewestNights_3 hl (by decide) rfl (fun ls hl => ?_)
  refine lv_iconst (v := 0) S.1 S.2.1 dX11_fewestNights_5 (by decide) ?_
  refine lv_istore (lv' := [(5, .int 0), (4, .int 0), (3, .int 0), (0, .ref (G.2.2 0)), (1, .int (nI n)), (2, .int (nI st))]) S.1 S.2.1 dX11_fewestNights_6 hl (by decide) rfl (fun ls hl => ?_)
  have LP8 : ∀ (fU : Nat) (t : Nat) (nd : Nat) (mx : Nat), (12 < t + fU) → (t ≤ 12) → (nd = crN w st t) → (mx = crM w st t) → ∀ (H : Heap) (locs : List Loc) (ls : Array Slot), uZ G xA M xs.heap H locs → lv_has ls 7 [(5, .int (nI t)), (4, .int (nI mx)), (3, .int (nI nd)), (0, .ref (G.2.2 0)), (1, .int (nI n)), (2, .int (nI st))] → W xp l xe (uRm 1 21) xs xm xa xb xt xc H locs 0 0 (MQ xb (va_Qi (fun r M2 => r = nI (max (crM w st 12) ((crN w st 12 + n - 1) / n)) ∧ M2 = M) (fun M' t => uB G M' t) xA) xa xs 0 0 xA) (F0 xm 8 ls []) := by
    intro fU
    induction fU with
    | zero =>
      intro t nd mx hfl i1 i2 i3 H locs ls Z hl
      exfalso
      omega
    | succ fU ih8 =>
      intro t nd mx hfl i1 i2 i3 H locs ls Z hl
      obtain ⟨b1, b2⟩ := crN_le w st t
      rw [← i2] at b1
      rw [← i3] at b2
      refine lv_iload S.1 S.2.1 dX11_fewestNights_8 (lv_at hl 0 rfl) ?_
      refine lv_bipush (v := 12) S.1 S.2.1 dX11_fewestNights_10 (by decide) ?_
      refine lv_icmp_ge (tgt := 65) S.1 S.2.1 dX11_fewestNights_12 (by decide) (fun c_1 => ?_) (fun c_1 => ?_)
      · skip
        have c_1 : 12 ≤ t := (nI_leI (a := 12) (b := t) (by omega) (by omega)).mp c_1
        refine lv_iload_n S.1 S.2.1 dX11_fewestNights_65 rfl (lv_at hl 4 rfl) ?_
        refine lv_if_le (tgt := 79) S.1 S.2.1 dX11_fewestNights_66 (by decide) (fun c_2 => ?_) (fun c_2 => ?_)
        · skip
          have c_2 : n ≤ 0 := (nI_leI (a := n) (b := 0) (by omega) (by omega)).mp c_2
          omega
        · skip
          have c_2 : ¬ n ≤ 0 := fun z9 => c_2 ((nI_leI (a := n) (b := 0) (by omega) (by omega)).mpr z9)
          have b3 := Nat.div_le_self (nd + n - 1) n
          refine lv_iload_n S.1 S.2.1 dX11_fewestNights_69 rfl (lv_at hl 2 rfl) ?_
          refine lv_iload_n S.1 S.2.1 dX11_fewestNights_70 rfl (lv_at hl 4 rfl) ?_
          refine lv_iadd S.1 S.2.1 dX11_fewestNights_71 ?_
          refine utop (nI_add nd n) ?_
          refine lv_iconst (v := 1) S.1 S.2.1 dX11_fewestNights_72 (by decide) ?_
          refine lv_isub S.1 S.2.1 dX11_fewestNights_73 ?_
          refine utop (pk_sub (a := (nd + n)) (b := 1) (by omega)) ?_
          refine lv_iload_n S.1 S.2.1 dX11_fewestNights_74 rfl (lv_at hl 4 rfl) ?_
          refine lv_idiv S.1 S.2.1 dX11_fewestNights_75 (nI_ne0 (by omega) (by omega)) ?_
          refine utop (pk_div (a := ((nd + n) - 1)) (d := n) (by omega) (by omega) (by omega)) ?_
          refine lv_goto (tgt := 80) S.1 S.2.1 dX11_fewestNights_76 (by decide) ?_
          refine lv_istore (lv' := [(5, .int (nI (((nd + n) - 1) / n))), (4, .int (nI mx)), (3, .int (nI nd)), (0, .ref (G.2.2 0)), (1, .int (nI n)), (2, .int (nI st))]) S.1 S.2.1 dX11_fewestNights_80 hl (by decide) rfl (fun ls hl => ?_)
          refine lv_iload S.1 S.2.1 dX11_fewestNights_82 (lv_at hl 1 rfl) ?_
          refine lv_iload S.1 S.2.1 dX11_fewestNights_84 (lv_at hl 0 rfl) ?_
          refine va_mmax S.1 S.2.1 (S.2.2.1.trans hl.1.symm) S.2.2.2.1 (S.2.2.2.2 _ qX11_fewestNights_296) (S.2.2.2.2 _ qX11_fewestNights_w4) (S.2.2.2.2 _ qX11_fewestNights_w5) (S.2.2.2.2 _ qX11_fewestNights_w6) (Nat.le_of_ble_eq_true rfl) (Nat.le_of_ble_eq_true rfl) (Nat.zero_le _) (Nat.zero_le _) dX11_fewestNights_86 ?_
          refine utop (u_mmax (a := mx) (b := (((nd + n) - 1) / n)) (by omega) (by omega)) ?_
          refine uret_i S hK Z hre hlk dX11_fewestNights_89 ?_
          obtain rfl : t = 12 := by omega
          rw [← i2, ← i3]
          exact ⟨rfl, rfl⟩
      · skip
        have c_1 : ¬ 12 ≤ t := fun z9 => c_1 ((nI_leI (a := 12) (b := t) (by omega) (by omega)).mpr z9)
        refine lv_iload_n S.1 S.2.1 dX11_fewestNights_15 rfl (lv_at hl 5 rfl) ?_
        refine lv_iload S.1 S.2.1 dX11_fewestNights_16 (lv_at hl 0 rfl) ?_
        refine lv_ishr S.1 S.2.1 dX11_fewestNights_18 ?_
        refine lv_iconst (v := 1) S.1 S.2.1 dX11_fewestNights_19 (by decide) ?_
        refine lv_iand S.1 S.2.1 dX11_fewestNights_20 ?_
        refine utop (u_bit (a := st) (k := t) (by omega) (by omega)) ?_
        refine lv_iconst (v := 1) S.1 S.2.1 dX11_fewestNights_21 (by decide) ?_
        refine lv_icmp_ne (tgt := 59) S.1 S.2.1 dX11_fewestNights_22 (by decide) (fun c_3 => ?_) (fun c_3 => ?_)
        · skip
          have c_3 : ¬ (st / 2 ^ t % 2) = 1 := fun z9 => c_3 ((nI_eq (a := (st / 2 ^ t % 2)) (b := 1) (by omega) (by omega)).mpr z9)
          refine lv_iinc (v := (nI (t + 1))) (lv' := [(5, .int (nI (t + 1))), (4, .int (nI mx)), (3, .int (nI nd)), (0, .ref (G.2.2 0)), (1, .int (nI n)), (2, .int (nI st))]) S.1 S.2.1 dX11_fewestNights_59 hl (k := 0) rfl (u_inc1 t) (by decide) rfl (fun ls hl => ?_)
          refine lv_goto (tgt := 8) S.1 S.2.1 dX11_fewestNights_62 (by decide) ?_
          exact ih8 (t + 1) nd mx (by omega) (by omega) (by
              rw [crN, lackT, ← i2]
              first | rw [if_pos (by assumption)] | rw [if_neg (by assumption), Nat.add_zero]) (by
              rw [crM, lackT, ← i3]
              first | rw [if_pos (by assumption)] | rw [if_neg (by assumption), Nat.max_zero]) _ _ _ Z (lv_sub hl [0, 1, 2, 3, 4, 5] rfl)
        · skip
          have c_3 : (st / 2 ^ t % 2) = 1 := (nI_eq (a := (st / 2 ^ t % 2)) (b := 1) (by omega) (by omega)).mp c_3
          have h2t := (hw.1 t (by omega)).2.1
          refine lv_iconst (v := 0) S.1 S.2.1 dX11_fewestNights_25 (by decide) ?_
          refine lv_iconst (v := 2) S.1 S.2.1 dX11_fewestNights_26 (by decide) ?_
          refine lv_aload_n S.1 S.2.1 dX11_fewestNights_27 rfl (lv_at hl 3 rfl) ?_
          refine ug_r S hK Z (j := 0) 1 (by decide) rfl rfl rfl (by decide) iX11_fewestNights_X11 qX11_fewestNights_10 dX11_fewestNights_28 ?_
          refine ug_r S hK Z (j := 1) 3 (by decide) rfl rfl rfl (by decide) iX11_fewestNights_X10 qX11_fewestNights_110 dX11_fewestNights_31 ?_
          refine lv_iload S.1 S.2.1 dX11_fewestNights_34 (lv_at hl 0 rfl) ?_
          refine ud_Si (As := [.ref (G.2.2 3), .int (nI t)]) (rest := [.int 2, .int 0]) S hK hA Z (c_X5_at l G 3 12 t (by decide) rfl (by omega) M) (va_cwS 2 S.2.2.2.2 gX11_fewestNights_X5_at rfl rfl rfl (by decide +kernel) ⟨Nat.le_of_ble_eq_true rfl, Nat.le_of_ble_eq_true rfl⟩) rfl hl.1 rfl (Nat.le_of_ble_eq_true rfl) dX11_fewestNights_36 ⟨Nat.zero_le _, Nat.zero_le _⟩ (fun H locs Z => ?_)
          refine utop (y := (nI (w 2 t))) (hr 2 (by decide) t) ?_
          refine lv_isub S.1 S.2.1 dX11_fewestNights_39 ?_
          refine va_mmax S.1 S.2.1 (S.2.2.1.trans hl.1.symm) S.2.2.2.1 (S.2.2.2.2 _ qX11_fewestNights_296) (S.2.2.2.2 _ qX11_fewestNights_w4) (S.2.2.2.2 _ qX11_fewestNights_w5) (S.2.2.2.2 _ qX11_fewestNights_w6) (Nat.le_of_ble_eq_true rfl) (Nat.le_of_ble_eq_true rfl) (Nat.zero_le _) (Nat.zero_le _) dX11_fewestNights_40 ?_
          refine utop (u_lack (w 2 t) h2t) ?_
          refine lv_istore (lv' := [(6, .int (nI (2 - w 2 t))), (5, .int (nI t)), (4, .int (nI mx)), (3, .int (nI nd)), (0, .ref (G.2.2 0)), (1, .int (nI n)), (2, .int (nI st))]) S.1 S.2.1 dX11_fewestNights_43 hl (by decide) rfl (fun ls hl => ?_)
          refine lv_iload_n S.1 S.2.1 dX11_fewestNights_45 rfl (lv_at hl 3 rfl) ?_
          refine lv_iload S.1 S.2.1 dX11_fewestNights_46 (lv_at hl 0 rfl) ?_
          refine lv_iadd S.1 S.2.1 dX11_fewestNights_48 ?_
          refine utop (nI_add nd (2 - w 2 t)) ?_
          refine lv_istore_n (lv' := [(3, .int (nI (nd + (2 - w 2 t)))), (6, .int (nI (2 - w 2 t))), (5, .int (nI t)), (4, .int (nI mx)), (0, .ref (G.2.2 0)), (1, .int (nI n)), (2, .int (nI st))]) S.1 S.2.1 dX11_fewestNights_49 rfl hl (by decide) rfl (fun ls hl => ?_)
          refine lv_iload S.1 S.2.1 dX11_fewestNights_50 (lv_at hl 3 rfl) ?_
          refine lv_iload S.1 S.2.1 dX11_fewestNights_52 (lv_at hl 1 rfl) ?_
          refine va_mmax S.1 S.2.1 (S.2.2.1.trans hl.1.symm) S.2.2.2.1 (S.2.2.2.2 _ qX11_fewestNights_296) (S.2.2.2.2 _ qX11_fewestNights_w4) (S.2.2.2.2 _ qX11_fewestNights_w5) (S.2.2.2.2 _ qX11_fewestNights_w6) (Nat.le_of_ble_eq_true rfl) (Nat.le_of_ble_eq_true rfl) (Nat.zero_le _) (Nat.zero_le _) dX11_fewestNights_54 ?_
          refine utop (u_mmax (a := mx) (b := (2 - w 2 t)) (by omega) (by omega)) ?_
          refine lv_istore (lv' := [(4, .int (nI (max mx (2 - w 2 t)))), (3, .int (nI (nd + (2 - w 2 t)))), (6, .int (nI (2 - w 2 t))), (5, .int (nI t)), (0, .ref (G.2.2 0)), (1, .int (nI n)), (2, .int (nI st))]) S.1 S.2.1 dX11_fewestNights_57 hl (by decide) rfl (fun ls hl => ?_)
          refine lv_iinc (v := (nI (t + 1))) (lv' := [(5, .int (nI (t + 1))), (4, .int (nI (max mx (2 - w 2 t)))), (3, .int (nI (nd + (2 - w 2 t)))), (6, .int (nI (2 - w 2 t))), (0, .ref (G.2.2 0)), (1, .int (nI n)), (2, .int (nI st))]) S.1 S.2.1 dX11_fewestNights_59 hl (k := 3) rfl (u_inc1 t) (by decide) rfl (fun ls hl => ?_)
          refine lv_goto (tgt := 8) S.1 S.2.1 dX11_fewestNights_62 (by decide) ?_
          exact ih8 (t + 1) (nd + (2 - w 2 t)) (max mx (2 - w 2 t)) (by omega) (by omega) (by
              rw [crN, lackT, ← i2]
              first | rw [if_pos (by assumption)] | rw [if_neg (by assumption), Nat.add_zero]) (by
              rw [crM, lackT, ← i3]
              first | rw [if_pos (by assumption)] | rw [if_neg (by assumption), Nat.max_zero]) _ _ _ Z (lv_sub hl [0, 1, 2, 4, 5, 6] rfl)
  exact LP8 13 0 0 0 (by omega) (by omega) (by rfl) (by rfl) _ _ _ Z (lv_sub hl [0, 1, 2, 3, 4, 5] rfl)
set_option maxHeartbeats 4000000 in
set_option maxRecDepth 100000 in
theorem c_X11_careers (l : Launch) (G : uG) (n st : Int32) (M : uM) (w : Nat → Nat → Nat) (hr : uRd M 1 w) (hw : wOk w) : CTi l G yX11_careers wsX11_careers 2 47 [.ref (G.2.2 0), .int n, .int st] M (fun r M2 => r = spCareers w n st ∧ M2 = M) := by
  refine ustart_i (cc := cX11_careers) (maxL := 3) (ret := (some .int)) (own := RX11) rfl (by decide) rfl (Nat.le_of_ble_eq_true rfl) ?_
  intro xp xe xs xm xa xb xt xc xA ls S hK hA Z hre hlk hl
  have hl : lv_has ls 3 [(0, .ref (G.2.2 0)), (1, .int n), (2, .int st)] := hl
  refine lv_iload_n S.1 S.2.1 dX11_careers_0 rfl (lv_at hl 1 rfl) ?_
  refine lv_iconst (v := 1) S.1 S.2.1 dX11_careers_1 (by decide) ?_
  refine lv_bipush (v := 8) S.1 S.2.1 dX11_careers_2 (by decide) ?_
  refine uc_Si (As := [.int n, .int 1, .int 8]) (rest := []) S hK hA Z (c_X5_within l G n 1 8 M) (va_cwS 3 S.2.2.2.2 gX11_careers_X5_within rfl rfl rfl (by decide +kernel) ⟨Nat.le_of_ble_eq_true rfl, Nat.le_of_ble_eq_true rfl⟩) rfl hl.1 rfl (Nat.le_of_ble_eq_true rfl) dX11_careers_4 ⟨Nat.zero_le _, Nat.zero_le _⟩ (fun r_1 M_1 H locs hp Z => ?_)
  obtain ⟨⟨rfl, w_1⟩ | ⟨rfl, w_1⟩, hM_1⟩ := hp
  · skip
    rw [hM_1] at Z
    refine lv_if_eq (tgt := 21) S.1 S.2.1 dX11_careers_7 (by decide) (fun c => absurd c (by decide)) (fun _ => ?_)
    refine lv_iload_n S.1 S.2.1 dX11_careers_10 rfl (lv_at hl 2 rfl) ?_
    refine lv_iconst (v := 0) S.1 S.2.1 dX11_careers_11 (by decide) ?_
    refine lv_sipush (v := 4095) S.1 S.2.1 dX11_careers_12 (by decide) ?_
    refine uc_Si (As := [.int st, .int 0, .int 4095]) (rest := []) S hK hA Z (c_X5_within l G st 0 4095 M) (va_cwS 3 S.2.2.2.2 gX11_careers_X5_within rfl rfl rfl (by decide +kernel) ⟨Nat.le_of_ble_eq_true rfl, Nat.le_of_ble_eq_true rfl⟩) rfl hl.1 rfl (Nat.le_of_ble_eq_true rfl) dX11_careers_15 ⟨Nat.zero_le _, Nat.zero_le _⟩ (fun r_3 M_3 H locs hp Z => ?_)
    obtain ⟨⟨rfl, w_3⟩ | ⟨rfl, w_3⟩, hM_3⟩ := hp
    · skip
      rw [hM_3] at Z
      refine lv_if_ne (tgt := 24) S.1 S.2.1 dX11_careers_18 (by decide) (fun _ => ?_) (fun c => absurd c (by decide))
      obtain ⟨j, hj1, hj, rfl⟩ := u_in1 (n := 8) (show inr n 1 8 by assumption) (by decide)
      obtain ⟨q, hq, rfl⟩ := u_in0 (n := 4095) (show inr st 0 4095 by assumption) (by decide)
      refine lv_aload_n S.1 S.2.1 dX11_careers_24 rfl (lv_at hl 0 rfl) ?_
      refine lv_iload_n S.1 S.2.1 dX11_careers_25 rfl (lv_at hl 1 rfl) ?_
      refine lv_iload_n S.1 S.2.1 dX11_careers_26 rfl (lv_at hl 2 rfl) ?_
      refine ud_Vi (As := [.int (nI j), .int (nI q)]) (rest := []) S hK hA Z (c_X11_fewest l G j q hj1 (by omega) (by omega) M w hr hw) (cwV 2 S.2.2.2.2 gX11_careers_X11_fewestNights rfl rfl rfl (by decide +kernel) ⟨Nat.le_of_ble_eq_true rfl, Nat.le_of_ble_eq_true rfl⟩) (by decide) rfl rfl rfl hl.1 rfl (Nat.le_of_ble_eq_true rfl) dX11_careers_27 ⟨Nat.zero_le _, Nat.zero_le _⟩ (fun H locs Z => ?_)
      refine uret_i S hK Z hre hlk dX11_careers_30 ?_
      rw [spCareers, if_neg (u_no2 (by assumption) (by assumption)), nI_clamp (show j < 2 ^ 31 by omega), nI_clamp (show q < 2 ^ 31 by omega)]
      exact ⟨rfl, rfl⟩
    · skip
      rw [hM_3] at Z
      refine lv_if_ne (tgt := 24) S.1 S.2.1 dX11_careers_18 (by decide) (fun c => absurd c (by decide)) (fun _ => ?_)
      refine lv_bipush (v := (-2)) S.1 S.2.1 dX11_careers_21 (by decide) ?_
      refine uret_i S hK Z hre hlk dX11_careers_23 ?_
      rw [spCareers, if_pos (by first | exact Or.inl (by assumption) | exact Or.inr (by assumption))]
      exact ⟨rfl, rfl⟩
  · skip
    rw [hM_1] at Z
    refine lv_if_eq (tgt := 21) S.1 S.2.1 dX11_careers_7 (by decide) (fun _ => ?_) (fun c => absurd c (by decide))
    refine lv_bipush (v := (-2)) S.1 S.2.1 dX11_careers_21 (by decide) ?_
    refine uret_i S hK Z hre hlk dX11_careers_23 ?_
    rw [spCareers, if_pos (by first | exact Or.inl (by assumption) | exact Or.inr (by assumption))]
    exact ⟨rfl, rfl⟩
set_option maxHeartbeats 4000000 in
set_option maxRecDepth 100000 in
theorem c_X11_sack (l : Launch) (G : uG) (x c0 h : Int32) (M : uM) (w : Nat → Nat → Nat) (hr : uRd M 1 w) (hw : wOk w) : CTi l G yX11_sack wsX11_sack 3 72 [.ref (G.2.2 0), .int x, .int c0, .int h] M (fun r M2 => r = spSack w x c0 h ∧ uSm 34 37 M M2) := by
  obtain ⟨fo, go, hfg⟩ := uAr_ex2 M 35 36
  refine ustart_i (cc := cX11_sack) (maxL := 4) (ret := (some .int)) (own := RX11) rfl (by decide) rfl (Nat.le_of_ble_eq_true rfl) ?_
  intro xp xe xs xm xa xb xt xc xA ls S hK hA Z hre hlk hl
  have hl : lv_has ls 4 [(0, .ref (G.2.2 0)), (1, .int x), (2, .int c0), (3, .int h)] := hl
  refine lv_iload_n S.1 S.2.1 dX11_sack_0 rfl (lv_at hl 1 rfl) ?_
  refine uc_Si (As := [.int x]) (rest := []) S hK hA Z (c_X11_isOne l G x M) (va_cwS 1 S.2.2.2.2 gX11_sack_X11_isOne rfl rfl rfl (by decide +kernel) ⟨Nat.le_of_ble_eq_true rfl, Nat.le_of_ble_eq_true rfl⟩) rfl hl.1 rfl (Nat.le_of_ble_eq_true rfl) dX11_sack_1 ⟨Nat.zero_le _, Nat.zero_le _⟩ (fun r_1 M_1 H locs hp Z => ?_)
  obtain ⟨⟨rfl, w_1⟩ | ⟨rfl, w_1⟩, hM_1⟩ := hp
  · skip
    rw [hM_1] at Z
    refine lv_if_ne (tgt := 9) S.1 S.2.1 dX11_sack_4 (by decide) (fun _ => ?_) (fun c => absurd c (by decide))
    refine lv_iload_n S.1 S.2.1 dX11_sack_9 rfl (lv_at hl 2 rfl) ?_
    refine lv_iconst (v := 0) S.1 S.2.1 dX11_sack_10 (by decide) ?_
    refine lv_bipush (v := 99) S.1 S.2.1 dX11_sack_11 (by decide) ?_
    refine uc_Si (As := [.int c0, .int 0, .int 99]) (rest := []) S hK hA Z (c_X5_within l G c0 0 99 M) (va_cwS 3 S.2.2.2.2 gX11_sack_X5_within rfl rfl rfl (by decide +kernel) ⟨Nat.le_of_ble_eq_true rfl, Nat.le_of_ble_eq_true rfl⟩) rfl hl.1 rfl (Nat.le_of_ble_eq_true rfl) dX11_sack_13 ⟨Nat.zero_le _, Nat.zero_le _⟩ (fun r_3 M_3 H locs hp Z => ?_)
    obtain ⟨⟨rfl, w_3⟩ | ⟨rfl, w_3⟩, hM_3⟩ := hp
    · skip
      rw [hM_3] at Z
      refine lv_if_eq (tgt := 28) S.1 S.2.1 dX11_sack_16 (by decide) (fun c => absurd c (by decide)) (fun _ => ?_)
      refine lv_iload_n S.1 S.2.1 dX11_sack_19 rfl (lv_at hl 3 rfl) ?_
      refine lv_iconst (v := 0) S.1 S.2.1 dX11_sack_20 (by decide) ?_
      refine lv_iconst (v := 1) S.1 S.2.1 dX11_sack_21 (by decide) ?_
      refine uc_Si (As := [.int h, .int 0, .int 1]) (rest := []) S hK hA Z (c_X5_within l G h 0 1 M) (va_cwS 3 S.2.2.2.2 gX11_sack_X5_within rfl rfl rfl (by decide +kernel) ⟨Nat.le_of_ble_eq_true rfl, Nat.le_of_ble_eq_true rfl⟩) rfl hl.1 rfl (Nat.le_of_ble_eq_true rfl) dX11_sack_22 ⟨Nat.zero_le _, Nat.zero_le _⟩ (fun r_5 M_5 H locs hp Z => ?_)
      obtain ⟨⟨rfl, w_5⟩ | ⟨rfl, w_5⟩, hM_5⟩ := hp
      · skip
        rw [hM_5] at Z
        refine lv_if_ne (tgt := 31) S.1 S.2.1 dX11_sack_25 (by decide) (fun _ => ?_) (fun c => absurd c (by decide))
        obtain ⟨k, hk, rfl⟩ := u_in0 (n := 7) (show inr x 0 7 by assumption) (by decide)
        obtain ⟨j, hj, rfl⟩ := u_in0 (n := 99) (show inr c0 0 99 by assumption) (by decide)
        have Z := uZ_eq hfg.symm Z
        obtain ⟨e1, e2⟩ := dpS_congr (w := w) k j (f := f0 100 fo) (g := f0 100 go) (f' := fun _ => 0) (g' := fun _ => 0) (fun i hi => by unfold f0; rw [if_pos (by omega)]) (fun i hi => by unfold f0; rw [if_pos (by omega)]) 12 j (Nat.le_refl _)
        refine lv_aload_n S.1 S.2.1 dX11_sack_31 rfl (lv_at hl 0 rfl) ?_
        refine ug_r S hK Z (j := 4) 34 (by decide) rfl rfl rfl (by decide) iX11_sack_X11 qX11_sack_36 dX11_sack_32 ?_
        refine lv_aload_n S.1 S.2.1 dX11_sack_35 rfl (lv_at hl 0 rfl) ?_
        refine ug_r S hK Z (j := 0) 1 (by decide) rfl rfl rfl (by decide) iX11_sack_X11 qX11_sack_10 dX11_sack_36 ?_
        refine lv_iload_n S.1 S.2.1 dX11_sack_39 rfl (lv_at hl 1 rfl) ?_
        refine lv_iload_n S.1 S.2.1 dX11_sack_40 rfl (lv_at hl 2 rfl) ?_
        refine ud_Vv (As := [.ref (G.2.2 1), .int (nI k), .int (nI j)]) (rest := []) S hK hA Z (c_X6_fill l G k j (by omega) (by omega) M w fo go hr hw) (cwV 3 S.2.2.2.2 gX11_sack_X6_fill rfl rfl rfl (by decide +kernel) ⟨Nat.le_of_ble_eq_true rfl, Nat.le_of_ble_eq_true rfl⟩) (by decide) rfl rfl rfl hl.1 rfl (Nat.le_of_ble_eq_true rfl) dX11_sack_41 ⟨Nat.zero_le _, Nat.zero_le _⟩ (fun H locs Z => ?_)
        refine lv_iload_n S.1 S.2.1 dX11_sack_44 rfl (lv_at hl 3 rfl) ?_
        refine lv_if_ne (tgt := 62) S.1 S.2.1 dX11_sack_45 (by decide) (fun c_8 => ?_) (fun c_8 => ?_)
        · skip
          refine lv_aload_n S.1 S.2.1 dX11_sack_62 rfl (lv_at hl 0 rfl) ?_
          refine ug_r S hK Z (j := 4) 34 (by decide) rfl rfl rfl (by decide) iX11_sack_X11 qX11_sack_36 dX11_sack_63 ?_
          refine ug_r S hK Z (j := 1) 36 (by decide) rfl rfl rfl (by decide) iX11_sack_X6 qX11_sack_193 dX11_sack_66 ?_
          refine lv_iload_n S.1 S.2.1 dX11_sack_69 rfl (lv_at hl 2 rfl) ?_
          refine ud_Si (As := [.ref (G.2.2 36), .int (nI j)]) (rest := []) S hK hA Z (c_X5_at l G 36 100 j (by decide) rfl (by omega) (uAr (uAr M 35 ((dpS w k j (f0 100 fo) (f0 100 go) 12).1)) 36 ((dpS w k j (f0 100 fo) (f0 100 go) 12).2))) (va_cwS 2 S.2.2.2.2 gX11_sack_X5_at rfl rfl rfl (by decide +kernel) ⟨Nat.le_of_ble_eq_true rfl, Nat.le_of_ble_eq_true rfl⟩) rfl hl.1 rfl (Nat.le_of_ble_eq_true rfl) dX11_sack_70 ⟨Nat.zero_le _, Nat.zero_le _⟩ (fun H locs Z => ?_)
          refine utop (y := (nI (((dpS w k j (f0 100 fo) (f0 100 go) 12).2) j))) (uAr_g (uAr M 35 ((dpS w k j (f0 100 fo) (f0 100 go) 12).1)) 36 ((dpS w k j (f0 100 fo) (f0 100 go) 12).2) j) ?_
          refine uret_i S hK Z hre hlk dX11_sack_73 ?_
          rw [spSack, if_neg (not_not_intro (by assumption)), if_neg (u_no2 (by assumption) (by assumption)), nI_clamp (show k < 2 ^ 31 by omega), nI_clamp (show j < 2 ^ 31 by omega)]
          first | (rw [if_pos (show h = 0 by assumption), ← e1]; exact ⟨rfl, uSm_r (uSm_r (uSm_rf 34 37 M) (by decide) (by decide)) (by decide) (by decide)⟩) | (rw [if_neg (show ¬ h = 0 by assumption), ← e2]; exact ⟨rfl, uSm_r (uSm_r (uSm_rf 34 37 M) (by decide) (by decide)) (by decide) (by decide)⟩)
        · skip
          refine lv_aload_n S.1 S.2.1 dX11_sack_48 rfl (lv_at hl 0 rfl) ?_
          refine ug_r S hK Z (j := 4) 34 (by decide) rfl rfl rfl (by decide) iX11_sack_X11 qX11_sack_36 dX11_sack_49 ?_
          refine ug_r S hK Z (j := 0) 35 (by decide) rfl rfl rfl (by decide) iX11_sack_X6 qX11_sack_192 dX11_sack_52 ?_
          refine lv_iload_n S.1 S.2.1 dX11_sack_55 rfl (lv_at hl 2 rfl) ?_
          refine ud_Si (As := [.ref (G.2.2 35), .int (nI j)]) (rest := []) S hK hA Z (c_X5_at l G 35 100 j (by decide) rfl (by omega) (uAr (uAr M 35 ((dpS w k j (f0 100 fo) (f0 100 go) 12).1)) 36 ((dpS w k j (f0 100 fo) (f0 100 go) 12).2))) (va_cwS 2 S.2.2.2.2 gX11_sack_X5_at rfl rfl rfl (by decide +kernel) ⟨Nat.le_of_ble_eq_true rfl, Nat.le_of_ble_eq_true rfl⟩) rfl hl.1 rfl (Nat.le_of_ble_eq_true rfl) dX11_sack_56 ⟨Nat.zero_le _, Nat.zero_le _⟩ (fun H locs Z => ?_)
          refine utop (y := (nI (((dpS w k j (f0 100 fo) (f0 100 go) 12).1) j))) ((uAr_o (uAr M 35 ((dpS w k j (f0 100 fo) (f0 100 go) 12).1)) 36 ((dpS w k j (f0 100 fo) (f0 100 go) 12).2) j (a := 35) (by decide)).trans (uAr_g M 35 ((dpS w k j (f0 100 fo) (f0 100 go) 12).1) j)) ?_
          refine lv_goto (tgt := 73) S.1 S.2.1 dX11_sack_59 (by decide) ?_
          refine uret_i S hK Z hre hlk dX11_sack_73 ?_
          rw [spSack, if_neg (not_not_intro (by assumption)), if_neg (u_no2 (by assumption) (by assumption)), nI_clamp (show k < 2 ^ 31 by omega), nI_clamp (show j < 2 ^ 31 by omega)]
          first | (rw [if_pos (show h = 0 by assumption), ← e1]; exact ⟨rfl, uSm_r (uSm_r (uSm_rf 34 37 M) (by decide) (by decide)) (by decide) (by decide)⟩) | (rw [if_neg (show ¬ h = 0 by assumption), ← e2]; exact ⟨rfl, uSm_r (uSm_r (uSm_rf 34 37 M) (by decide) (by decide)) (by decide) (by decide)⟩)
      · skip
        rw [hM_5] at Z
        refine lv_if_ne (tgt := 31) S.1 S.2.1 dX11_sack_25 (by decide) (fun c => absurd c (by decide)) (fun _ => ?_)
        refine lv_bipush (v := (-2)) S.1 S.2.1 dX11_sack_28 (by decide) ?_
        refine uret_i S hK Z hre hlk dX11_sack_30 ?_
        rw [spSack, if_neg (not_not_intro (by assumption)), if_pos (by first | exact Or.inl (by assumption) | exact Or.inr (by assumption))]
        exact ⟨rfl, uSm_rf _ _ _⟩
    · skip
      rw [hM_3] at Z
      refine lv_if_eq (tgt := 28) S.1 S.2.1 dX11_sack_16 (by decide) (fun _ => ?_) (fun c => absurd c (by decide))
      refine lv_bipush (v := (-2)) S.1 S.2.1 dX11_sack_28 (by decide) ?_
      refine uret_i S hK Z hre hlk dX11_sack_30 ?_
      rw [spSack, if_neg (not_not_intro (by assumption)), if_pos (by first | exact Or.inl (by assumption) | exact Or.inr (by assumption))]
      exact ⟨rfl, uSm_rf _ _ _⟩
  · skip
    rw [hM_1] at Z
    refine lv_if_ne (tgt := 9) S.1 S.2.1 dX11_sack_4 (by decide) (fun c => absurd c (by decide)) (fun _ => ?_)
    refine lv_iconst (v := (-1)) S.1 S.2.1 dX11_sack_7 (by decide) ?_
    refine uret_i S hK Z hre hlk dX11_sack_8 ?_
    rw [spSack, if_pos (by assumption)]
    exact ⟨rfl, uSm_rf _ _ _⟩
set_option maxHeartbeats 4000000 in
set_option maxRecDepth 100000 in
theorem c_X11_ringA (l : Launch) (G : uG) (v : Nat) (hv : v < 2147483648) (x m h : Int32) (M : uM) : CTi l G yX11_ring wsX11_ring 3 69 [.ref (G.2.2 0), .int (nI v), .int x, .int m, .int h] M (fun r M2 => SpRing (nI v) x m h r ∧ uSm 37 41 M M2) := by
  obtain ⟨nx, hnx⟩ := uAr_ex M 38
  obtain ⟨rf, pa, no, hrpn⟩ := uAr_ex3 (uAr M 38 (fun i => if i < 8 then dg v 8 i else nx i)) 37 39 40
  refine ustart_i (cc := cX11_ring) (maxL := 5) (ret := (some .int)) (own := RX11) rfl (by decide) rfl (Nat.le_of_ble_eq_true rfl) ?_
  intro xp xe xs xm xa xb xt xc xA ls S hK hA Z hre hlk hl
  have hl : lv_has ls 5 [(0, .ref (G.2.2 0)), (1, .int (nI v)), (2, .int x), (3, .int m), (4, .int h)] := hl
  refine lv_iload_n S.1 S.2.1 dX11_ring_0 rfl (lv_at hl 2 rfl) ?_
  refine uc_Si (As := [.int x]) (rest := []) S hK hA Z (c_X11_isOne l G x M) (va_cwS 1 S.2.2.2.2 gX11_ring_X11_isOne rfl rfl rfl (by decide +kernel) ⟨Nat.le_of_ble_eq_true rfl, Nat.le_of_ble_eq_true rfl⟩) rfl hl.1 rfl (Nat.le_of_ble_eq_true rfl) dX11_ring_1 ⟨Nat.zero_le _, Nat.zero_le _⟩ (fun r_1 M_1 H locs hp Z => ?_)
  obtain ⟨⟨rfl, w_1⟩ | ⟨rfl, w_1⟩, hM_1⟩ := hp
  · skip
    rw [hM_1] at Z
    refine lv_if_ne (tgt := 9) S.1 S.2.1 dX11_ring_4 (by decide) (fun _ => ?_) (fun c => absurd c (by decide))
    refine lv_iload_n S.1 S.2.1 dX11_ring_9 rfl (lv_at hl 3 rfl) ?_
    refine lv_iconst (v := 0) S.1 S.2.1 dX11_ring_10 (by decide) ?_
    refine lv_ldc (v := 999999999) S.1 S.2.1 S.2.2.2.1 (S.2.2.2.2 _ qX11_ring_200) dX11_ring_11 ?_
    refine uc_Si (As := [.int m, .int 0, .int 999999999]) (rest := []) S hK hA Z (c_X5_within l G m 0 999999999 M) (va_cwS 3 S.2.2.2.2 gX11_ring_X5_within rfl rfl rfl (by decide +kernel) ⟨Nat.le_of_ble_eq_true rfl, Nat.le_of_ble_eq_true rfl⟩) rfl hl.1 rfl (Nat.le_of_ble_eq_true rfl) dX11_ring_13 ⟨Nat.zero_le _, Nat.zero_le _⟩ (fun r_3 M_3 H locs hp Z => ?_)
    obtain ⟨⟨rfl, w_3⟩ | ⟨rfl, w_3⟩, hM_3⟩ := hp
    · skip
      rw [hM_3] at Z
      refine lv_if_eq (tgt := 40) S.1 S.2.1 dX11_ring_16 (by decide) (fun c => absurd c (by decide)) (fun _ => ?_)
      refine lv_iload S.1 S.2.1 dX11_ring_19 (lv_at hl 4 rfl) ?_
      refine lv_iconst (v := 0) S.1 S.2.1 dX11_ring_21 (by decide) ?_
      refine lv_iconst (v := 2) S.1 S.2.1 dX11_ring_22 (by decide) ?_
      refine uc_Si (As := [.int h, .int 0, .int 2]) (rest := []) S hK hA Z (c_X5_within l G h 0 2 M) (va_cwS 3 S.2.2.2.2 gX11_ring_X5_within rfl rfl rfl (by decide +kernel) ⟨Nat.le_of_ble_eq_true rfl, Nat.le_of_ble_eq_true rfl⟩) rfl hl.1 rfl (Nat.le_of_ble_eq_true rfl) dX11_ring_23 ⟨Nat.zero_le _, Nat.zero_le _⟩ (fun r_5 M_5 H locs hp Z => ?_)
      obtain ⟨⟨rfl, w_5⟩ | ⟨rfl, w_5⟩, hM_5⟩ := hp
      · skip
        rw [hM_5] at Z
        refine lv_if_eq (tgt := 40) S.1 S.2.1 dX11_ring_26 (by decide) (fun c => absurd c (by decide)) (fun _ => ?_)
        have Z := uZ_eq hnx.symm Z
        refine lv_aload_n S.1 S.2.1 dX11_ring_29 rfl (lv_at hl 0 rfl) ?_
        refine ug_r S hK Z (j := 5) 37 (by decide) rfl rfl rfl (by decide) iX11_ring_X11 qX11_ring_43 dX11_ring_30 ?_
        refine lv_iload_n S.1 S.2.1 dX11_ring_33 rfl (lv_at hl 1 rfl) ?_
        refine uc_Vi (As := [.int (nI v)]) (rest := []) S hK hA Z (c_X4_read l G v hv M nx) (cwV 1 S.2.2.2.2 gX11_ring_X4_read rfl rfl rfl (by decide +kernel) ⟨Nat.le_of_ble_eq_true rfl, Nat.le_of_ble_eq_true rfl⟩) (by decide) rfl rfl rfl hl.1 rfl (Nat.le_of_ble_eq_true rfl) dX11_ring_34 ⟨Nat.zero_le _, Nat.zero_le _⟩ (fun r_7 M_7 H locs hp Z => ?_)
        obtain ⟨⟨rfl, w_7⟩ | ⟨rfl, w_7⟩, hM_7⟩ := hp
        · skip
          have hrk := w_7
          rw [hM_7] at Z
          refine lv_if_ne (tgt := 43) S.1 S.2.1 dX11_ring_37 (by decide) (fun _ => ?_) (fun c => absurd c (by decide))
          obtain ⟨k, hk, rfl⟩ := u_in0 (n := 7) (show inr x 0 7 by assumption) (by decide)
          obtain ⟨m0, hm0, rfl⟩ := u_in0 (n := 999999999) (show inr m 0 999999999 by assumption) (by decide)
          have hn8 : ∀ i, i < 8 → (fun i => if i < 8 then dg v 8 i else nx i) i < 8 := fun i hi => by
            have h1 := hrk.2 i hi
            have h2 : (fun i => if i < 8 then dg v 8 i else nx i) i = dg v 8 i := if_pos hi
            omega
          have hit := it_congr (f := (fun i => if i < 8 then dg v 8 i else nx i)) (g := dg v 8) (x := k) (fun i hi => if_pos hi) hn8 (by omega)
          have Z := uZ_eq hrpn.symm Z
          refine lv_aload_n S.1 S.2.1 dX11_ring_43 rfl (lv_at hl 0 rfl) ?_
          refine ug_r S hK Z (j := 5) 37 (by decide) rfl rfl rfl (by decide) iX11_ring_X11 qX11_ring_43 dX11_ring_44 ?_
          refine lv_iload_n S.1 S.2.1 dX11_ring_47 rfl (lv_at hl 2 rfl) ?_
          refine uc_Vv (As := [.int (nI k)]) (rest := []) S hK hA Z (c_X4_follow l G k (by omega) (uAr M 38 (fun i => if i < 8 then dg v 8 i else nx i)) rf pa no (fun i => if i < 8 then dg v 8 i else nx i) (fun i => uAr_g _ _ _ _) hn8) (cwV 1 S.2.2.2.2 gX11_ring_X4_follow rfl rfl rfl (by decide +kernel) ⟨Nat.le_of_ble_eq_true rfl, Nat.le_of_ble_eq_true rfl⟩) (by decide) rfl rfl rfl hl.1 rfl (Nat.le_of_ble_eq_true rfl) dX11_ring_48 ⟨Nat.zero_le _, Nat.zero_le _⟩ (fun M_9 H locs hp Z => ?_)
          obtain ⟨N, K, rf2, pa2, no2, hE, hM, hf3, hf4, hf5, hpa⟩ := hp
          rw [hM] at Z
          have hE2 := rEnd_congr hit hE
          obtain ⟨hE3, hE4, hE5, -, -⟩ := id hE
          refine lv_iload S.1 S.2.1 dX11_ring_51 (lv_at hl 4 rfl) ?_
          refine lv_if_ne (tgt := 65) S.1 S.2.1 dX11_ring_53 (by decide) (fun c_10 => ?_) (fun c_10 => ?_)
          · skip
            refine lv_iload S.1 S.2.1 dX11_ring_65 (lv_at hl 4 rfl) ?_
            refine lv_iconst (v := 1) S.1 S.2.1 dX11_ring_67 (by decide) ?_
            refine lv_icmp_ne (tgt := 81) S.1 S.2.1 dX11_ring_68 (by decide) (fun c_11 => ?_) (fun c_11 => ?_)
            · skip
              refine lv_aload_n S.1 S.2.1 dX11_ring_81 rfl (lv_at hl 0 rfl) ?_
              refine ug_r S hK Z (j := 5) 37 (by decide) rfl rfl rfl (by decide) iX11_ring_X11 qX11_ring_43 dX11_ring_82 ?_
              refine ug_i S hK Z (j := 5) (by decide) rfl rfl rfl (by decide) iX11_ring_X4 qX11_ring_213 dX11_ring_85 ?_
              refine utop (y := (nI (rf2 5))) ((uAr_o (uAr (uAr (uAr M 38 (fun i => if i < 8 then dg v 8 i else nx i)) 37 rf2) 39 pa2) 40 no2 5 (a := 37) (by decide)).trans ((uAr_o (uAr (uAr M 38 (fun i => if i < 8 then dg v 8 i else nx i)) 37 rf2) 39 pa2 5 (a := 37) (by decide)).trans (uAr_g (uAr M 38 (fun i => if i < 8 then dg v 8 i else nx i)) 37 rf2 5))) ?_
              refine uret_i S hK Z hre hlk dX11_ring_88 ?_
              first | (exact ⟨Or.inr (Or.inr ⟨by assumption, by assumption, by assumption, v, N, K, rfl, hv, hrk, by rw [nI_clamp (show k < 2 ^ 31 by omega)]; exact hE2, by rw [nI_clamp (show k < 2 ^ 31 by omega), if_neg (show ¬ h = 0 by assumption), if_pos (show h = 1 by assumption), hf3]⟩), uSm_r (uSm_r (uSm_r (uSm_r (uSm_rf 37 41 M) (by decide) (by decide)) (by decide) (by decide)) (by decide) (by decide)) (by decide) (by decide)⟩) | (exact ⟨Or.inr (Or.inr ⟨by assumption, by assumption, by assumption, v, N, K, rfl, hv, hrk, by rw [nI_clamp (show k < 2 ^ 31 by omega)]; exact hE2, by rw [nI_clamp (show k < 2 ^ 31 by omega), if_neg (show ¬ h = 0 by assumption), if_neg (show ¬ h = 1 by assumption), hf5]⟩), uSm_r (uSm_r (uSm_r (uSm_r (uSm_rf 37 41 M) (by decide) (by decide)) (by decide) (by decide)) (by decide) (by decide)) (by decide) (by decide)⟩)
            · skip
              refine lv_aload_n S.1 S.2.1 dX11_ring_71 rfl (lv_at hl 0 rfl) ?_
              refine ug_r S hK Z (j := 5) 37 (by decide) rfl rfl rfl (by decide) iX11_ring_X11 qX11_ring_43 dX11_ring_72 ?_
              refine ug_i S hK Z (j := 3) (by decide) rfl rfl rfl (by decide) iX11_ring_X4 qX11_ring_210 dX11_ring_75 ?_
              refine utop (y := (nI (rf2 3))) ((uAr_o (uAr (uAr (uAr M 38 (fun i => if i < 8 then dg v 8 i else nx i)) 37 rf2) 39 pa2) 40 no2 3 (a := 37) (by decide)).trans ((uAr_o (uAr (uAr M 38 (fun i => if i < 8 then dg v 8 i else nx i)) 37 rf2) 39 pa2 3 (a := 37) (by decide)).trans (uAr_g (uAr M 38 (fun i => if i < 8 then dg v 8 i else nx i)) 37 rf2 3))) ?_
              refine lv_goto (tgt := 88) S.1 S.2.1 dX11_ring_78 (by decide) ?_
              refine uret_i S hK Z hre hlk dX11_ring_88 ?_
              first | (exact ⟨Or.inr (Or.inr ⟨by assumption, by assumption, by assumption, v, N, K, rfl, hv, hrk, by rw [nI_clamp (show k < 2 ^ 31 by omega)]; exact hE2, by rw [nI_clamp (show k < 2 ^ 31 by omega), if_neg (show ¬ h = 0 by assumption), if_pos (show h = 1 by assumption), hf3]⟩), uSm_r (uSm_r (uSm_r (uSm_r (uSm_rf 37 41 M) (by decide) (by decide)) (by decide) (by decide)) (by decide) (by decide)) (by decide) (by decide)⟩) | (exact ⟨Or.inr (Or.inr ⟨by assumption, by assumption, by assumption, v, N, K, rfl, hv, hrk, by rw [nI_clamp (show k < 2 ^ 31 by omega)]; exact hE2, by rw [nI_clamp (show k < 2 ^ 31 by omega), if_neg (show ¬ h = 0 by assumption), if_neg (show ¬ h = 1 by assumption), hf5]⟩), uSm_r (uSm_r (uSm_r (uSm_r (uSm_rf 37 41 M) (by decide) (by decide)) (by decide) (by decide)) (by decide) (by decide)) (by decide) (by decide)⟩)
          · skip
            refine lv_aload_n S.1 S.2.1 dX11_ring_56 rfl (lv_at hl 0 rfl) ?_
            refine ug_r S hK Z (j := 5) 37 (by decide) rfl rfl rfl (by decide) iX11_ring_X11 qX11_ring_43 dX11_ring_57 ?_
            refine lv_iload_n S.1 S.2.1 dX11_ring_60 rfl (lv_at hl 3 rfl) ?_
            refine ud_Vi (As := [.int (nI m0)]) (rest := []) S hK hA Z (c_X4_holderBehind l G m0 (by omega) (uAr (uAr (uAr (uAr M 38 (fun i => if i < 8 then dg v 8 i else nx i)) 37 rf2) 39 pa2) 40 no2) N K rf2 pa2 (fun i => ((uAr_o (uAr (uAr (uAr M 38 (fun i => if i < 8 then dg v 8 i else nx i)) 37 rf2) 39 pa2) 40 no2 i (a := 37) (by decide)).trans ((uAr_o (uAr (uAr M 38 (fun i => if i < 8 then dg v 8 i else nx i)) 37 rf2) 39 pa2 i (a := 37) (by decide)).trans (uAr_g (uAr M 38 (fun i => if i < 8 then dg v 8 i else nx i)) 37 rf2 i)))) (fun i => ((uAr_o (uAr (uAr (uAr M 38 (fun i => if i < 8 then dg v 8 i else nx i)) 37 rf2) 39 pa2) 40 no2 i (a := 39) (by decide)).trans (uAr_g (uAr (uAr M 38 (fun i => if i < 8 then dg v 8 i else nx i)) 37 rf2) 39 pa2 i))) hf3 hf4 hf5 (by omega) hE5) (cwV 1 S.2.2.2.2 gX11_ring_X4_holderBehind rfl rfl rfl (by decide +kernel) ⟨Nat.le_of_ble_eq_true rfl, Nat.le_of_ble_eq_true rfl⟩) (by decide) rfl rfl rfl hl.1 rfl (Nat.le_of_ble_eq_true rfl) dX11_ring_61 ⟨Nat.zero_le _, Nat.zero_le _⟩ (fun H locs Z => ?_)
            refine uret_i S hK Z hre hlk dX11_ring_64 ?_
            have hlt : (if m0 < N then m0 else K + (m0 - K) % (N - K)) < N := by
              split
              · assumption
              · have := Nat.mod_lt (m0 - K) (show 0 < N - K by omega)
                omega
            exact ⟨Or.inr (Or.inr ⟨by assumption, by assumption, by assumption, v, N, K, rfl, hv, hrk, by rw [nI_clamp (show k < 2 ^ 31 by omega)]; exact hE2, by rw [nI_clamp (show k < 2 ^ 31 by omega), nI_clamp (show m0 < 2 ^ 31 by omega), if_pos (show h = 0 by assumption), hpa _ hlt, hit]⟩), uSm_r (uSm_r (uSm_r (uSm_r (uSm_rf 37 41 M) (by decide) (by decide)) (by decide) (by decide)) (by decide) (by decide)) (by decide) (by decide)⟩
        · skip
          have hrk := w_7
          rw [hM_7] at Z
          refine lv_if_ne (tgt := 43) S.1 S.2.1 dX11_ring_37 (by decide) (fun c => absurd c (by decide)) (fun _ => ?_)
          refine lv_bipush (v := (-2)) S.1 S.2.1 dX11_ring_40 (by decide) ?_
          refine uret_i S hK Z hre hlk dX11_ring_42 ?_
          exact ⟨Or.inr (Or.inl ⟨by assumption, Or.inr (Or.inr (rowOk_v hv hrk)), rfl⟩), uSm_r (uSm_rf 37 41 M) (by decide) (by decide)⟩
      · skip
        rw [hM_5] at Z
        refine lv_if_eq (tgt := 40) S.1 S.2.1 dX11_ring_26 (by decide) (fun _ => ?_) (fun c => absurd c (by decide))
        refine lv_bipush (v := (-2)) S.1 S.2.1 dX11_ring_40 (by decide) ?_
        refine uret_i S hK Z hre hlk dX11_ring_42 ?_
        exact ⟨Or.inr (Or.inl ⟨by assumption, by first | exact Or.inl (by assumption) | exact Or.inr (Or.inl (by assumption)), rfl⟩), uSm_rf _ _ _⟩
    · skip
      rw [hM_3] at Z
      refine lv_if_eq (tgt := 40) S.1 S.2.1 dX11_ring_16 (by decide) (fun _ => ?_) (fun c => absurd c (by decide))
      refine lv_bipush (v := (-2)) S.1 S.2.1 dX11_ring_40 (by decide) ?_
      refine uret_i S hK Z hre hlk dX11_ring_42 ?_
      exact ⟨Or.inr (Or.inl ⟨by assumption, by first | exact Or.inl (by assumption) | exact Or.inr (Or.inl (by assumption)), rfl⟩), uSm_rf _ _ _⟩
  · skip
    rw [hM_1] at Z
    refine lv_if_ne (tgt := 9) S.1 S.2.1 dX11_ring_4 (by decide) (fun c => absurd c (by decide)) (fun _ => ?_)
    refine lv_iconst (v := (-1)) S.1 S.2.1 dX11_ring_7 (by decide) ?_
    refine uret_i S hK Z hre hlk dX11_ring_8 ?_
    exact ⟨Or.inl ⟨by assumption, rfl⟩, uSm_rf _ _ _⟩
set_option maxHeartbeats 4000000 in
set_option maxRecDepth 100000 in
theorem c_X11_ringN (l : Launch) (G : uG) (row : Int32) (hx0 : row < 0) (x m h : Int32) (M : uM) : CTi l G yX11_ring wsX11_ring 3 69 [.ref (G.2.2 0), .int row, .int x, .int m, .int h] M (fun r M2 => SpRing row x m h r ∧ uSm 37 41 M M2) := by
  refine ustart_i (cc := cX11_ring) (maxL := 5) (ret := (some .int)) (own := RX11) rfl (by decide) rfl (Nat.le_of_ble_eq_true rfl) ?_
  intro xp xe xs xm xa xb xt xc xA ls S hK hA Z hre hlk hl
  have hl : lv_has ls 5 [(0, .ref (G.2.2 0)), (1, .int row), (2, .int x), (3, .int m), (4, .int h)] := hl
  refine lv_iload_n S.1 S.2.1 dX11_ring_0 rfl (lv_at hl 2 rfl) ?_
  refine uc_Si (As := [.int x]) (rest := []) S hK hA Z (c_X11_isOne l G x M) (va_cwS 1 S.2.2.2.2 gX11_ring_X11_isOne rfl rfl rfl (by decide +kernel) ⟨Nat.le_of_ble_eq_true rfl, Nat.le_of_ble_eq_true rfl⟩) rfl hl.1 rfl (Nat.le_of_ble_eq_true rfl) dX11_ring_1 ⟨Nat.zero_le _, Nat.zero_le _⟩ (fun r_1 M_1 H locs hp Z => ?_)
  obtain ⟨⟨rfl, w_1⟩ | ⟨rfl, w_1⟩, hM_1⟩ := hp
  · skip
    rw [hM_1] at Z
    refine lv_if_ne (tgt := 9) S.1 S.2.1 dX11_ring_4 (by decide) (fun _ => ?_) (fun c => absurd c (by decide))
    refine lv_iload_n S.1 S.2.1 dX11_ring_9 rfl (lv_at hl 3 rfl) ?_
    refine lv_iconst (v := 0) S.1 S.2.1 dX11_ring_10 (by decide) ?_
    refine lv_ldc (v := 999999999) S.1 S.2.1 S.2.2.2.1 (S.2.2.2.2 _ qX11_ring_200) dX11_ring_11 ?_
    refine uc_Si (As := [.int m, .int 0, .int 999999999]) (rest := []) S hK hA Z (c_X5_within l G m 0 999999999 M) (va_cwS 3 S.2.2.2.2 gX11_ring_X5_within rfl rfl rfl (by decide +kernel) ⟨Nat.le_of_ble_eq_true rfl, Nat.le_of_ble_eq_true rfl⟩) rfl hl.1 rfl (Nat.le_of_ble_eq_true rfl) dX11_ring_13 ⟨Nat.zero_le _, Nat.zero_le _⟩ (fun r_3 M_3 H locs hp Z => ?_)
    obtain ⟨⟨rfl, w_3⟩ | ⟨rfl, w_3⟩, hM_3⟩ := hp
    · skip
      rw [hM_3] at Z
      refine lv_if_eq (tgt := 40) S.1 S.2.1 dX11_ring_16 (by decide) (fun c => absurd c (by decide)) (fun _ => ?_)
      refine lv_iload S.1 S.2.1 dX11_ring_19 (lv_at hl 4 rfl) ?_
      refine lv_iconst (v := 0) S.1 S.2.1 dX11_ring_21 (by decide) ?_
      refine lv_iconst (v := 2) S.1 S.2.1 dX11_ring_22 (by decide) ?_
      refine uc_Si (As := [.int h, .int 0, .int 2]) (rest := []) S hK hA Z (c_X5_within l G h 0 2 M) (va_cwS 3 S.2.2.2.2 gX11_ring_X5_within rfl rfl rfl (by decide +kernel) ⟨Nat.le_of_ble_eq_true rfl, Nat.le_of_ble_eq_true rfl⟩) rfl hl.1 rfl (Nat.le_of_ble_eq_true rfl) dX11_ring_23 ⟨Nat.zero_le _, Nat.zero_le _⟩ (fun r_5 M_5 H locs hp Z => ?_)
      obtain ⟨⟨rfl, w_5⟩ | ⟨rfl, w_5⟩, hM_5⟩ := hp
      · skip
        rw [hM_5] at Z
        refine lv_if_eq (tgt := 40) S.1 S.2.1 dX11_ring_26 (by decide) (fun c => absurd c (by decide)) (fun _ => ?_)
        refine lv_aload_n S.1 S.2.1 dX11_ring_29 rfl (lv_at hl 0 rfl) ?_
        refine ug_r S hK Z (j := 5) 37 (by decide) rfl rfl rfl (by decide) iX11_ring_X11 qX11_ring_43 dX11_ring_30 ?_
        refine lv_iload_n S.1 S.2.1 dX11_ring_33 rfl (lv_at hl 1 rfl) ?_
        refine uc_Vi (As := [.int row]) (rest := []) S hK hA Z (c_X4_readN l G row hx0 M) (cwV 1 S.2.2.2.2 gX11_ring_X4_read rfl rfl rfl (by decide +kernel) ⟨Nat.le_of_ble_eq_true rfl, Nat.le_of_ble_eq_true rfl⟩) (by decide) rfl rfl rfl hl.1 rfl (Nat.le_of_ble_eq_true rfl) dX11_ring_34 ⟨Nat.zero_le _, Nat.zero_le _⟩ (fun r_7 M_7 H locs hp Z => ?_)
        obtain ⟨hr_7, hM_7⟩ := hp
        refine utop hr_7 ?_
        have hM := hM_7
        refine lv_if_ne (tgt := 43) S.1 S.2.1 dX11_ring_37 (by decide) (fun c => absurd c (by decide)) (fun _ => ?_)
        refine lv_bipush (v := (-2)) S.1 S.2.1 dX11_ring_40 (by decide) ?_
        refine uret_i S hK Z hre hlk dX11_ring_42 ?_
        exact ⟨Or.inr (Or.inl ⟨by assumption, by first | exact Or.inl (by assumption) | exact Or.inr (Or.inl (by assumption)) | exact Or.inr (Or.inr (rowOk_neg hx0)), rfl⟩), fun a ha => hM a (by omega)⟩
      · skip
        rw [hM_5] at Z
        refine lv_if_eq (tgt := 40) S.1 S.2.1 dX11_ring_26 (by decide) (fun _ => ?_) (fun c => absurd c (by decide))
        refine lv_bipush (v := (-2)) S.1 S.2.1 dX11_ring_40 (by decide) ?_
        refine uret_i S hK Z hre hlk dX11_ring_42 ?_
        exact ⟨Or.inr (Or.inl ⟨by assumption, by first | exact Or.inl (by assumption) | exact Or.inr (Or.inl (by assumption)) | exact Or.inr (Or.inr (rowOk_neg hx0)), rfl⟩), uSm_rf _ _ _⟩
    · skip
      rw [hM_3] at Z
      refine lv_if_eq (tgt := 40) S.1 S.2.1 dX11_ring_16 (by decide) (fun _ => ?_) (fun c => absurd c (by decide))
      refine lv_bipush (v := (-2)) S.1 S.2.1 dX11_ring_40 (by decide) ?_
      refine uret_i S hK Z hre hlk dX11_ring_42 ?_
      exact ⟨Or.inr (Or.inl ⟨by assumption, by first | exact Or.inl (by assumption) | exact Or.inr (Or.inl (by assumption)) | exact Or.inr (Or.inr (rowOk_neg hx0)), rfl⟩), uSm_rf _ _ _⟩
  · skip
    rw [hM_1] at Z
    refine lv_if_ne (tgt := 9) S.1 S.2.1 dX11_ring_4 (by decide) (fun c => absurd c (by decide)) (fun _ => ?_)
    refine lv_iconst (v := (-1)) S.1 S.2.1 dX11_ring_7 (by decide) ?_
    refine uret_i S hK Z hre hlk dX11_ring_8 ?_
    exact ⟨Or.inl ⟨by assumption, rfl⟩, uSm_rf _ _ _⟩
theorem c_X11_ring (l : Launch) (G : uG) (row : Int32) (x m h : Int32) (M : uM) : CTi l G yX11_ring wsX11_ring 3 69 [.ref (G.2.2 0), .int row, .int x, .int m, .int h] M (fun r M2 => SpRing row x m h r ∧ uSm 37 41 M M2) := by
  by_cases h9 : row < 0
  · exact c_X11_ringN l G row h9 x m h  M
  · obtain ⟨v, hv, rfl⟩ := nI_of h9
    exact c_X11_ringA l G v hv x m h  M
set_option maxHeartbeats 4000000 in
set_option maxRecDepth 100000 in
theorem c_X11_sellsA (l : Launch) (G : uG) (v : Nat) (hv : v < 2147483648) (n t : Int32) (M : uM) : CTi l G yX11_sells wsX11_sells 3 68 [.ref (G.2.2 0), .int (nI v), .int n, .int t] M (fun r M2 => SpSells (nI v) n t r ∧ uSm 41 43 M M2) := by
  refine ustart_i (cc := cX11_sells) (maxL := 4) (ret := (some .int)) (own := RX11) rfl (by decide) rfl (Nat.le_of_ble_eq_true rfl) ?_
  intro xp xe xs xm xa xb xt xc xA ls S hK hA Z hre hlk hl
  have hl : lv_has ls 4 [(0, .ref (G.2.2 0)), (1, .int (nI v)), (2, .int n), (3, .int t)] := hl
  refine lv_iload_n S.1 S.2.1 dX11_sells_0 rfl (lv_at hl 3 rfl) ?_
  refine lv_iconst (v := 0) S.1 S.2.1 dX11_sells_1 (by decide) ?_
  refine lv_bipush (v := 10) S.1 S.2.1 dX11_sells_2 (by decide) ?_
  refine uc_Si (As := [.int t, .int 0, .int 10]) (rest := []) S hK hA Z (c_X5_within l G t 0 10 M) (va_cwS 3 S.2.2.2.2 gX11_sells_X5_within rfl rfl rfl (by decide +kernel) ⟨Nat.le_of_ble_eq_true rfl, Nat.le_of_ble_eq_true rfl⟩) rfl hl.1 rfl (Nat.le_of_ble_eq_true rfl) dX11_sells_4 ⟨Nat.zero_le _, Nat.zero_le _⟩ (fun r_1 M_1 H locs hp Z => ?_)
  obtain ⟨⟨rfl, w_1⟩ | ⟨rfl, w_1⟩, hM_1⟩ := hp
  · skip
    rw [hM_1] at Z
    refine lv_if_eq (tgt := 22) S.1 S.2.1 dX11_sells_7 (by decide) (fun c => absurd c (by decide)) (fun _ => ?_)
    refine lv_aload_n S.1 S.2.1 dX11_sells_10 rfl (lv_at hl 0 rfl) ?_
    refine ug_r S hK Z (j := 6) 41 (by decide) rfl rfl rfl (by decide) iX11_sells_X11 qX11_sells_50 dX11_sells_11 ?_
    refine lv_iload_n S.1 S.2.1 dX11_sells_14 rfl (lv_at hl 1 rfl) ?_
    refine lv_iload_n S.1 S.2.1 dX11_sells_15 rfl (lv_at hl 2 rfl) ?_
    refine uc_Vi (As := [.int (nI v), .int n]) (rest := []) S hK hA Z (c_X0_readA l G v hv n M) (cwV 2 S.2.2.2.2 gX11_sells_X0_read rfl rfl rfl (by decide +kernel) ⟨Nat.le_of_ble_eq_true rfl, Nat.le_of_ble_eq_true rfl⟩) (by decide) rfl rfl rfl hl.1 rfl (Nat.le_of_ble_eq_true rfl) dX11_sells_16 ⟨Nat.zero_le _, Nat.zero_le _⟩ (fun r_3 M_3 H locs hp Z => ?_)
    obtain ⟨⟨v1, d, q1, q2, q3, q4, q5, q6, rfl, q7, q8⟩ | ⟨rfl, q1⟩, hs0⟩ := hp
    · skip
      have e9 := nI_inj hv q2 q1
      subst e9
      have hM8 := q8
      refine lv_if_ne (tgt := 25) S.1 S.2.1 dX11_sells_19 (by decide) (fun _ => ?_) (fun c => absurd c (by decide))
      obtain ⟨t0, ht0, rfl⟩ := u_in0 (n := 10) (show inr t 0 10 by assumption) (by decide)
      refine lv_aload_n S.1 S.2.1 dX11_sells_25 rfl (lv_at hl 0 rfl) ?_
      refine ug_r S hK Z (j := 6) 41 (by decide) rfl rfl rfl (by decide) iX11_sells_X11 qX11_sells_50 dX11_sells_26 ?_
      refine lv_iload_n S.1 S.2.1 dX11_sells_29 rfl (lv_at hl 3 rfl) ?_
      refine uc_Vv (As := [.int (nI t0)]) (rest := []) S hK hA Z (c_X0_judgeStops l G t0 d (by omega) q4 q5 (dg v d) (fun i _ => Nat.le_of_lt_succ (dg_lt v d i)) M_3 q8 q7) (cwV 1 S.2.2.2.2 gX11_sells_X0_judgeStops rfl rfl rfl (by decide +kernel) ⟨Nat.le_of_ble_eq_true rfl, Nat.le_of_ble_eq_true rfl⟩) (by decide) rfl rfl rfl hl.1 rfl (Nat.le_of_ble_eq_true rfl) dX11_sells_30 ⟨Nat.zero_le _, Nat.zero_le _⟩ (fun M_5 H locs hp Z => ?_)
      obtain ⟨j1, j2, j3, hs1⟩ := hp
      have hb := jS_bd (wd := dg v d) t0 (fun i _ => Nat.le_of_lt_succ (dg_lt v d i)) d q5
      obtain ⟨hb1, hb2, hb3⟩ := hb
      refine lv_aload_n S.1 S.2.1 dX11_sells_33 rfl (lv_at hl 0 rfl) ?_
      refine ug_r S hK Z (j := 6) 41 (by decide) rfl rfl rfl (by decide) iX11_sells_X11 qX11_sells_50 dX11_sells_34 ?_
      refine ug_i S hK Z (j := 2) (by decide) rfl rfl rfl (by decide) iX11_sells_X0 qX11_sells_235 dX11_sells_37 ?_
      refine utop j1 ?_
      refine uret_i S hK Z hre hlk dX11_sells_40 ?_
      exact ⟨Or.inr ⟨by assumption, v, d, rfl, hv, q3, q4, q5, q6, by rw [nI_clamp (show t0 < 2 ^ 31 by omega)]⟩, uSm_tr hs0 hs1⟩
    · skip
      refine lv_if_ne (tgt := 25) S.1 S.2.1 dX11_sells_19 (by decide) (fun c => absurd c (by decide)) (fun _ => ?_)
      refine lv_bipush (v := (-2)) S.1 S.2.1 dX11_sells_22 (by decide) ?_
      refine uret_i S hK Z hre hlk dX11_sells_24 ?_
      exact ⟨Or.inl ⟨Or.inr q1, rfl⟩, hs0⟩
  · skip
    rw [hM_1] at Z
    refine lv_if_eq (tgt := 22) S.1 S.2.1 dX11_sells_7 (by decide) (fun _ => ?_) (fun c => absurd c (by decide))
    refine lv_bipush (v := (-2)) S.1 S.2.1 dX11_sells_22 (by decide) ?_
    refine uret_i S hK Z hre hlk dX11_sells_24 ?_
    exact ⟨Or.inl ⟨Or.inl (by assumption), rfl⟩, uSm_rf _ _ _⟩
set_option maxHeartbeats 4000000 in
set_option maxRecDepth 100000 in
theorem c_X11_stopA (l : Launch) (G : uG) (v : Nat) (hv : v < 2147483648) (n t pt : Int32) (M : uM) : CTl l G yX11_stop wsX11_stop 3 68 [.ref (G.2.2 0), .int (nI v), .int n, .int t, .int pt] M (fun r M2 => SpStop (nI v) n t pt r ∧ uSm 41 43 M M2) := by
  refine ustart_l (cc := cX11_stop) (maxL := 5) (ret := (some .long)) (own := RX11) rfl (by decide) rfl (Nat.le_of_ble_eq_true rfl) ?_
  intro xp xe xs xm xa xb xt xc xA ls S hK hA Z hre hlk hl
  have hl : lv_has ls 5 [(0, .ref (G.2.2 0)), (1, .int (nI v)), (2, .int n), (3, .int t), (4, .int pt)] := hl
  refine lv_iload S.1 S.2.1 dX11_stop_0 (lv_at hl 4 rfl) ?_
  refine lv_iconst (v := 0) S.1 S.2.1 dX11_stop_2 (by decide) ?_
  refine lv_iconst (v := 1) S.1 S.2.1 dX11_stop_3 (by decide) ?_
  refine uc_Si (As := [.int pt, .int 0, .int 1]) (rest := []) S hK hA Z (c_X5_within l G pt 0 1 M) (va_cwS 3 S.2.2.2.2 gX11_stop_X5_within rfl rfl rfl (by decide +kernel) ⟨Nat.le_of_ble_eq_true rfl, Nat.le_of_ble_eq_true rfl⟩) rfl hl.1 rfl (Nat.le_of_ble_eq_true rfl) dX11_stop_4 ⟨Nat.zero_le _, Nat.zero_le _⟩ (fun r_1 M_1 H locs hp Z => ?_)
  obtain ⟨⟨rfl, w_1⟩ | ⟨rfl, w_1⟩, hM_1⟩ := hp
  · skip
    rw [hM_1] at Z
    refine lv_if_eq (tgt := 32) S.1 S.2.1 dX11_stop_7 (by decide) (fun c => absurd c (by decide)) (fun _ => ?_)
    refine lv_iload_n S.1 S.2.1 dX11_stop_10 rfl (lv_at hl 3 rfl) ?_
    refine lv_iconst (v := 0) S.1 S.2.1 dX11_stop_11 (by decide) ?_
    refine lv_bipush (v := 10) S.1 S.2.1 dX11_stop_12 (by decide) ?_
    refine uc_Si (As := [.int t, .int 0, .int 10]) (rest := []) S hK hA Z (c_X5_within l G t 0 10 M) (va_cwS 3 S.2.2.2.2 gX11_stop_X5_within rfl rfl rfl (by decide +kernel) ⟨Nat.le_of_ble_eq_true rfl, Nat.le_of_ble_eq_true rfl⟩) rfl hl.1 rfl (Nat.le_of_ble_eq_true rfl) dX11_stop_14 ⟨Nat.zero_le _, Nat.zero_le _⟩ (fun r_3 M_3 H locs hp Z => ?_)
    obtain ⟨⟨rfl, w_3⟩ | ⟨rfl, w_3⟩, hM_3⟩ := hp
    · skip
      rw [hM_3] at Z
      refine lv_if_eq (tgt := 32) S.1 S.2.1 dX11_stop_17 (by decide) (fun c => absurd c (by decide)) (fun _ => ?_)
      refine lv_aload_n S.1 S.2.1 dX11_stop_20 rfl (lv_at hl 0 rfl) ?_
      refine ug_r S hK Z (j := 6) 41 (by decide) rfl rfl rfl (by decide) iX11_stop_X11 qX11_stop_50 dX11_stop_21 ?_
      refine lv_iload_n S.1 S.2.1 dX11_stop_24 rfl (lv_at hl 1 rfl) ?_
      refine lv_iload_n S.1 S.2.1 dX11_stop_25 rfl (lv_at hl 2 rfl) ?_
      refine uc_Vi (As := [.int (nI v), .int n]) (rest := []) S hK hA Z (c_X0_readA l G v hv n M) (cwV 2 S.2.2.2.2 gX11_stop_X0_read rfl rfl rfl (by decide +kernel) ⟨Nat.le_of_ble_eq_true rfl, Nat.le_of_ble_eq_true rfl⟩) (by decide) rfl rfl rfl hl.1 rfl (Nat.le_of_ble_eq_true rfl) dX11_stop_26 ⟨Nat.zero_le _, Nat.zero_le _⟩ (fun r_5 M_5 H locs hp Z => ?_)
      obtain ⟨⟨v1, d, q1, q2, q3, q4, q5, q6, rfl, q7, q8⟩ | ⟨rfl, q1⟩, hs0⟩ := hp
      · skip
        have e9 := nI_inj hv q2 q1
        subst e9
        have hM8 := q8
        refine lv_if_ne (tgt := 36) S.1 S.2.1 dX11_stop_29 (by decide) (fun _ => ?_) (fun c => absurd c (by decide))
        obtain ⟨t0, ht0, rfl⟩ := u_in0 (n := 10) (show inr t 0 10 by assumption) (by decide)
        obtain ⟨p0, hp0, rfl⟩ := u_in0 (n := 1) (show inr pt 0 1 by assumption) (by decide)
        refine lv_aload_n S.1 S.2.1 dX11_stop_36 rfl (lv_at hl 0 rfl) ?_
        refine ug_r S hK Z (j := 6) 41 (by decide) rfl rfl rfl (by decide) iX11_stop_X11 qX11_stop_50 dX11_stop_37 ?_
        refine lv_iload_n S.1 S.2.1 dX11_stop_40 rfl (lv_at hl 3 rfl) ?_
        refine uc_Vv (As := [.int (nI t0)]) (rest := []) S hK hA Z (c_X0_judgeStops l G t0 d (by omega) q4 q5 (dg v d) (fun i _ => Nat.le_of_lt_succ (dg_lt v d i)) M_5 q8 q7) (cwV 1 S.2.2.2.2 gX11_stop_X0_judgeStops rfl rfl rfl (by decide +kernel) ⟨Nat.le_of_ble_eq_true rfl, Nat.le_of_ble_eq_true rfl⟩) (by decide) rfl rfl rfl hl.1 rfl (Nat.le_of_ble_eq_true rfl) dX11_stop_41 ⟨Nat.zero_le _, Nat.zero_le _⟩ (fun M_7 H locs hp Z => ?_)
        obtain ⟨j1, j2, j3, hs1⟩ := hp
        have hb := jS_bd (wd := dg v d) t0 (fun i _ => Nat.le_of_lt_succ (dg_lt v d i)) d q5
        obtain ⟨hb1, hb2, hb3⟩ := hb
        refine lv_aload_n S.1 S.2.1 dX11_stop_44 rfl (lv_at hl 0 rfl) ?_
        refine ug_r S hK Z (j := 6) 41 (by decide) rfl rfl rfl (by decide) iX11_stop_X11 qX11_stop_50 dX11_stop_45 ?_
        refine ug_l S hK Z (j := 3) (by decide) rfl rfl rfl (by decide) iX11_stop_X0 qX11_stop_224 dX11_stop_48 ?_
        refine utopl j2 ?_
        refine lv_aload_n S.1 S.2.1 dX11_stop_51 rfl (lv_at hl 0 rfl) ?_
        refine ug_r S hK Z (j := 6) 41 (by decide) rfl rfl rfl (by decide) iX11_stop_X11 qX11_stop_50 dX11_stop_52 ?_
        refine ug_l S hK Z (j := 4) (by decide) rfl rfl rfl (by decide) iX11_stop_X0 qX11_stop_228 dX11_stop_55 ?_
        refine utopl j3 ?_
        refine lv_iload S.1 S.2.1 dX11_stop_58 (lv_at hl 4 rfl) ?_
        refine ud_Sl (As := [.long (lN ((jS (dg v d) t0 d).2.1)), .long (lN ((jS (dg v d) t0 d).2.2)), .int (nI p0)]) (rest := []) S hK hA Z (c_X1_lowest l G (jS (dg v d) t0 d).2.1 (jS (dg v d) t0 d).2.2 p0 (by omega) (by omega) (by omega) (by omega) M_7) (va_cwS 3 S.2.2.2.2 gX11_stop_X1_inLowestTerms rfl rfl rfl (by decide +kernel) ⟨Nat.le_of_ble_eq_true rfl, Nat.le_of_ble_eq_true rfl⟩) rfl hl.1 rfl (Nat.le_of_ble_eq_true rfl) dX11_stop_60 ⟨Nat.zero_le _, Nat.zero_le _⟩ (fun H locs Z => ?_)
        refine uret_l S hK Z hre hlk dX11_stop_63 ?_
        exact ⟨Or.inr ⟨by assumption, by assumption, v, d, rfl, hv, q3, q4, q5, q6, by rw [nI_clamp (show t0 < 2 ^ 31 by omega), nI_clamp (show p0 < 2 ^ 31 by omega)]⟩, uSm_tr hs0 hs1⟩
      · skip
        refine lv_if_ne (tgt := 36) S.1 S.2.1 dX11_stop_29 (by decide) (fun c => absurd c (by decide)) (fun _ => ?_)
        refine lv_ldc2 (v := (-1000000000000000002)) S.1 S.2.1 S.2.2.2.1 (S.2.2.2.2 _ qX11_stop_219) dX11_stop_32 ?_
        refine uret_l S hK Z hre hlk dX11_stop_35 ?_
        exact ⟨Or.inl ⟨Or.inr (Or.inr q1), rfl⟩, hs0⟩
    · skip
      rw [hM_3] at Z
      refine lv_if_eq (tgt := 32) S.1 S.2.1 dX11_stop_17 (by decide) (fun _ => ?_) (fun c => absurd c (by decide))
      refine lv_ldc2 (v := (-1000000000000000002)) S.1 S.2.1 S.2.2.2.1 (S.2.2.2.2 _ qX11_stop_219) dX11_stop_32 ?_
      refine uret_l S hK Z hre hlk dX11_stop_35 ?_
      exact ⟨Or.inl ⟨(by first | exact Or.inl (by assumption) | exact Or.inr (Or.inl (by assumption))), rfl⟩, uSm_rf _ _ _⟩
  · skip
    rw [hM_1] at Z
    refine lv_if_eq (tgt := 32) S.1 S.2.1 dX11_stop_7 (by decide) (fun _ => ?_) (fun c => absurd c (by decide))
    refine lv_ldc2 (v := (-1000000000000000002)) S.1 S.2.1 S.2.2.2.1 (S.2.2.2.2 _ qX11_stop_219) dX11_stop_32 ?_
    refine uret_l S hK Z hre hlk dX11_stop_35 ?_
    exact ⟨Or.inl ⟨(by first | exact Or.inl (by assumption) | exact Or.inr (Or.inl (by assumption))), rfl⟩, uSm_rf _ _ _⟩
set_option maxHeartbeats 4000000 in
set_option maxRecDepth 100000 in
theorem c_X11_sellsN (l : Launch) (G : uG) (row : Int32) (hx0 : row < 0) (n t : Int32) (M : uM) : CTi l G yX11_sells wsX11_sells 3 68 [.ref (G.2.2 0), .int row, .int n, .int t] M (fun r M2 => SpSells row n t r ∧ uSm 41 43 M M2) := by
  refine ustart_i (cc := cX11_sells) (maxL := 4) (ret := (some .int)) (own := RX11) rfl (by decide) rfl (Nat.le_of_ble_eq_true rfl) ?_
  intro xp xe xs xm xa xb xt xc xA ls S hK hA Z hre hlk hl
  have hl : lv_has ls 4 [(0, .ref (G.2.2 0)), (1, .int row), (2, .int n), (3, .int t)] := hl
  refine lv_iload_n S.1 S.2.1 dX11_sells_0 rfl (lv_at hl 3 rfl) ?_
  refine lv_iconst (v := 0) S.1 S.2.1 dX11_sells_1 (by decide) ?_
  refine lv_bipush (v := 10) S.1 S.2.1 dX11_sells_2 (by decide) ?_
  refine uc_Si (As := [.int t, .int 0, .int 10]) (rest := []) S hK hA Z (c_X5_within l G t 0 10 M) (va_cwS 3 S.2.2.2.2 gX11_sells_X5_within rfl rfl rfl (by decide +kernel) ⟨Nat.le_of_ble_eq_true rfl, Nat.le_of_ble_eq_true rfl⟩) rfl hl.1 rfl (Nat.le_of_ble_eq_true rfl) dX11_sells_4 ⟨Nat.zero_le _, Nat.zero_le _⟩ (fun r_1 M_1 H locs hp Z => ?_)
  obtain ⟨⟨rfl, w_1⟩ | ⟨rfl, w_1⟩, hM_1⟩ := hp
  · skip
    rw [hM_1] at Z
    refine lv_if_eq (tgt := 22) S.1 S.2.1 dX11_sells_7 (by decide) (fun c => absurd c (by decide)) (fun _ => ?_)
    refine lv_aload_n S.1 S.2.1 dX11_sells_10 rfl (lv_at hl 0 rfl) ?_
    refine ug_r S hK Z (j := 6) 41 (by decide) rfl rfl rfl (by decide) iX11_sells_X11 qX11_sells_50 dX11_sells_11 ?_
    refine lv_iload_n S.1 S.2.1 dX11_sells_14 rfl (lv_at hl 1 rfl) ?_
    refine lv_iload_n S.1 S.2.1 dX11_sells_15 rfl (lv_at hl 2 rfl) ?_
    refine uc_Vi (As := [.int row, .int n]) (rest := []) S hK hA Z (c_X0_readN l G row hx0 n M) (cwV 2 S.2.2.2.2 gX11_sells_X0_read rfl rfl rfl (by decide +kernel) ⟨Nat.le_of_ble_eq_true rfl, Nat.le_of_ble_eq_true rfl⟩) (by decide) rfl rfl rfl hl.1 rfl (Nat.le_of_ble_eq_true rfl) dX11_sells_16 ⟨Nat.zero_le _, Nat.zero_le _⟩ (fun r_3 M_3 H locs hp Z => ?_)
    obtain ⟨hr_3, hs0⟩ := hp
    refine utop hr_3 ?_
    refine lv_if_ne (tgt := 25) S.1 S.2.1 dX11_sells_19 (by decide) (fun c => absurd c (by decide)) (fun _ => ?_)
    refine lv_bipush (v := (-2)) S.1 S.2.1 dX11_sells_22 (by decide) ?_
    refine uret_i S hK Z hre hlk dX11_sells_24 ?_
    exact ⟨Or.inl ⟨Or.inr (cOk_neg hx0), rfl⟩, hs0⟩
  · skip
    rw [hM_1] at Z
    refine lv_if_eq (tgt := 22) S.1 S.2.1 dX11_sells_7 (by decide) (fun _ => ?_) (fun c => absurd c (by decide))
    refine lv_bipush (v := (-2)) S.1 S.2.1 dX11_sells_22 (by decide) ?_
    refine uret_i S hK Z hre hlk dX11_sells_24 ?_
    exact ⟨Or.inl ⟨Or.inl (by assumption), rfl⟩, uSm_rf _ _ _⟩
set_option maxHeartbeats 4000000 in
set_option maxRecDepth 100000 in
theorem c_X11_stopN (l : Launch) (G : uG) (row : Int32) (hx0 : row < 0) (n t pt : Int32) (M : uM) : CTl l G yX11_stop wsX11_stop 3 68 [.ref (G.2.2 0), .int row, .int n, .int t, .int pt] M (fun r M2 => SpStop row n t pt r ∧ uSm 41 43 M M2) := by
  refine ustart_l (cc := cX11_stop) (maxL := 5) (ret := (some .long)) (own := RX11) rfl (by decide) rfl (Nat.le_of_ble_eq_true rfl) ?_
  intro xp xe xs xm xa xb xt xc xA ls S hK hA Z hre hlk hl
  have hl : lv_has ls 5 [(0, .ref (G.2.2 0)), (1, .int row), (2, .int n), (3, .int t), (4, .int pt)] := hl
  refine lv_iload S.1 S.2.1 dX11_stop_0 (lv_at hl 4 rfl) ?_
  refine lv_iconst (v := 0) S.1 S.2.1 dX11_stop_2 (by decide) ?_
  refine lv_iconst (v := 1) S.1 S.2.1 dX11_stop_3 (by decide) ?_
  refine uc_Si (As := [.int pt, .int 0, .int 1]) (rest := []) S hK hA Z (c_X5_within l G pt 0 1 M) (va_cwS 3 S.2.2.2.2 gX11_stop_X5_within rfl rfl rfl (by decide +kernel) ⟨Nat.le_of_ble_eq_true rfl, Nat.le_of_ble_eq_true rfl⟩) rfl hl.1 rfl (Nat.le_of_ble_eq_true rfl) dX11_stop_4 ⟨Nat.zero_le _, Nat.zero_le _⟩ (fun r_1 M_1 H locs hp Z => ?_)
  obtain ⟨⟨rfl, w_1⟩ | ⟨rfl, w_1⟩, hM_1⟩ := hp
  · skip
    rw [hM_1] at Z
    refine lv_if_eq (tgt := 32) S.1 S.2.1 dX11_stop_7 (by decide) (fun c => absurd c (by decide)) (fun _ => ?_)
    refine lv_iload_n S.1 S.2.1 dX11_stop_10 rfl (lv_at hl 3 rfl) ?_
    refine lv_iconst (v := 0) S.1 S.2.1 dX11_stop_11 (by decide) ?_
    refine lv_bipush (v := 10) S.1 S.2.1 dX11_stop_12 (by decide) ?_
    refine uc_Si (As := [.int t, .int 0, .int 10]) (rest := []) S hK hA Z (c_X5_within l G t 0 10 M) (va_cwS 3 S.2.2.2.2 gX11_stop_X5_within rfl rfl rfl (by decide +kernel) ⟨Nat.le_of_ble_eq_true rfl, Nat.le_of_ble_eq_true rfl⟩) rfl hl.1 rfl (Nat.le_of_ble_eq_true rfl) dX11_stop_14 ⟨Nat.zero_le _, Nat.zero_le _⟩ (fun r_3 M_3 H locs hp Z => ?_)
    obtain ⟨⟨rfl, w_3⟩ | ⟨rfl, w_3⟩, hM_3⟩ := hp
    · skip
      rw [hM_3] at Z
      refine lv_if_eq (tgt := 32) S.1 S.2.1 dX11_stop_17 (by decide) (fun c => absurd c (by decide)) (fun _ => ?_)
      refine lv_aload_n S.1 S.2.1 dX11_stop_20 rfl (lv_at hl 0 rfl) ?_
      refine ug_r S hK Z (j := 6) 41 (by decide) rfl rfl rfl (by decide) iX11_stop_X11 qX11_stop_50 dX11_stop_21 ?_
      refine lv_iload_n S.1 S.2.1 dX11_stop_24 rfl (lv_at hl 1 rfl) ?_
      refine lv_iload_n S.1 S.2.1 dX11_stop_25 rfl (lv_at hl 2 rfl) ?_
      refine uc_Vi (As := [.int row, .int n]) (rest := []) S hK hA Z (c_X0_readN l G row hx0 n M) (cwV 2 S.2.2.2.2 gX11_stop_X0_read rfl rfl rfl (by decide +kernel) ⟨Nat.le_of_ble_eq_true rfl, Nat.le_of_ble_eq_true rfl⟩) (by decide) rfl rfl rfl hl.1 rfl (Nat.le_of_ble_eq_true rfl) dX11_stop_26 ⟨Nat.zero_le _, Nat.zero_le _⟩ (fun r_5 M_5 H locs hp Z => ?_)
      obtain ⟨hr_5, hs0⟩ := hp
      refine utop hr_5 ?_
      refine lv_if_ne (tgt := 36) S.1 S.2.1 dX11_stop_29 (by decide) (fun c => absurd c (by decide)) (fun _ => ?_)
      refine lv_ldc2 (v := (-1000000000000000002)) S.1 S.2.1 S.2.2.2.1 (S.2.2.2.2 _ qX11_stop_219) dX11_stop_32 ?_
      refine uret_l S hK Z hre hlk dX11_stop_35 ?_
      exact ⟨Or.inl ⟨Or.inr (Or.inr (cOk_neg hx0)), rfl⟩, hs0⟩
    · skip
      rw [hM_3] at Z
      refine lv_if_eq (tgt := 32) S.1 S.2.1 dX11_stop_17 (by decide) (fun _ => ?_) (fun c => absurd c (by decide))
      refine lv_ldc2 (v := (-1000000000000000002)) S.1 S.2.1 S.2.2.2.1 (S.2.2.2.2 _ qX11_stop_219) dX11_stop_32 ?_
      refine uret_l S hK Z hre hlk dX11_stop_35 ?_
      exact ⟨Or.inl ⟨(by first | exact Or.inl (by assumption) | exact Or.inr (Or.inl (by assumption))), rfl⟩, uSm_rf _ _ _⟩
  · skip
    rw [hM_1] at Z
    refine lv_if_eq (tgt := 32) S.1 S.2.1 dX11_stop_7 (by decide) (fun _ => ?_) (fun c => absurd c (by decide))
    refine lv_ldc2 (v := (-1000000000000000002)) S.1 S.2.1 S.2.2.2.1 (S.2.2.2.2 _ qX11_stop_219) dX11_stop_32 ?_
    refine uret_l S hK Z hre hlk dX11_stop_35 ?_
    exact ⟨Or.inl ⟨(by first | exact Or.inl (by assumption) | exact Or.inr (Or.inl (by assumption))), rfl⟩, uSm_rf _ _ _⟩
theorem c_X11_sells (l : Launch) (G : uG) (row : Int32) (n t : Int32) (M : uM) : CTi l G yX11_sells wsX11_sells 3 68 [.ref (G.2.2 0), .int row, .int n, .int t] M (fun r M2 => SpSells row n t r ∧ uSm 41 43 M M2) := by
  by_cases h9 : row < 0
  · exact c_X11_sellsN l G row h9 n t  M
  · obtain ⟨v, hv, rfl⟩ := nI_of h9
    exact c_X11_sellsA l G v hv n t  M
theorem c_X11_stop (l : Launch) (G : uG) (row : Int32) (n t pt : Int32) (M : uM) : CTl l G yX11_stop wsX11_stop 3 68 [.ref (G.2.2 0), .int row, .int n, .int t, .int pt] M (fun r M2 => SpStop row n t pt r ∧ uSm 41 43 M M2) := by
  by_cases h9 : row < 0
  · exact c_X11_stopN l G row h9 n t pt  M
  · obtain ⟨v, hv, rfl⟩ := nI_of h9
    exact c_X11_stopA l G v hv n t pt  M
set_option maxHeartbeats 4000000 in
set_option maxRecDepth 100000 in
theorem c_X11_fits (l : Launch) (G : uG) (x : Int32) (M : uM) (w : Nat → Nat → Nat) (hr : uRd M 1 w) (hw : wOk w) : CTi l G yX11_fits wsX11_fits 4 93 [.ref (G.2.2 0), .int x] M (fun r M2 => SpFits w x r ∧ uSm 43 46 M M2) := by
  obtain ⟨rf, pl, hrp⟩ := uAr_ex2 M 43 44
  refine ustart_i (cc := cX11_fits) (maxL := 2) (ret := (some .int)) (own := RX11) rfl (by decide) rfl (Nat.le_of_ble_eq_true rfl) ?_
  intro xp xe xs xm xa xb xt xc xA ls S hK hA Z hre hlk hl
  have hl : lv_has ls 2 [(0, .ref (G.2.2 0)), (1, .int x)] := hl
  have Z := uZ_eq hrp.symm Z
  refine lv_aload_n S.1 S.2.1 dX11_fits_0 rfl (lv_at hl 0 rfl) ?_
  refine ug_r S hK Z (j := 7) 43 (by decide) rfl rfl rfl (by decide) iX11_fits_X11 qX11_fits_57 dX11_fits_1 ?_
  refine lv_aload_n S.1 S.2.1 dX11_fits_4 rfl (lv_at hl 0 rfl) ?_
  refine ug_r S hK Z (j := 0) 1 (by decide) rfl rfl rfl (by decide) iX11_fits_X11 qX11_fits_10 dX11_fits_5 ?_
  refine ug_r S hK Z (j := 6) 8 (by decide) rfl rfl rfl (by decide) iX11_fits_X10 qX11_fits_238 dX11_fits_8 ?_
  refine lv_iload_n S.1 S.2.1 dX11_fits_11 rfl (lv_at hl 1 rfl) ?_
  refine uc_Vi (As := [.ref (G.2.2 8), .int x]) (rest := []) S hK hA Z (c_X2_fittingRow l G x M w rf pl hr hw) (cwV 2 S.2.2.2.2 gX11_fits_X2_fittingRow rfl rfl rfl (by decide +kernel) ⟨Nat.le_of_ble_eq_true rfl, Nat.le_of_ble_eq_true rfl⟩) (by decide) rfl rfl rfl hl.1 rfl (Nat.le_of_ble_eq_true rfl) dX11_fits_12 ⟨Nat.zero_le _, Nat.zero_le _⟩ (fun r_1 M_1 H locs hp Z => ?_)
  obtain ⟨f1, f2⟩ := hp
  refine uret_i S hK Z hre hlk dX11_fits_15 ?_
  exact ⟨f1, f2⟩
set_option maxHeartbeats 4000000 in
set_option maxRecDepth 100000 in
theorem c_X11_ask (l : Launch) (G : uG) (x : Int32) (M : uM) (w : Nat → Nat → Nat) (hr : uRd M 1 w) (hw : wOk w) : CTi l G yX11_ask wsX11_ask 5 116 [.ref (G.2.2 0), .int x] M (fun r M2 => r = spAsk w x ∧ uSm 43 46 M M2) := by
  obtain ⟨tm, rf, pl, hrp⟩ := uAr_ex3 M 45 43 44
  refine ustart_i (cc := cX11_ask) (maxL := 2) (ret := (some .int)) (own := RX11) rfl (by decide) rfl (Nat.le_of_ble_eq_true rfl) ?_
  intro xp xe xs xm xa xb xt xc xA ls S hK hA Z hre hlk hl
  have hl : lv_has ls 2 [(0, .ref (G.2.2 0)), (1, .int x)] := hl
  refine lv_iload_n S.1 S.2.1 dX11_ask_0 rfl (lv_at hl 1 rfl) ?_
  refine lv_iconst (v := 0) S.1 S.2.1 dX11_ask_1 (by decide) ?_
  refine lv_iconst (v := 1) S.1 S.2.1 dX11_ask_2 (by decide) ?_
  refine uc_Si (As := [.int x, .int 0, .int 1]) (rest := []) S hK hA Z (c_X5_within l G x 0 1 M) (va_cwS 3 S.2.2.2.2 gX11_ask_X5_within rfl rfl rfl (by decide +kernel) ⟨Nat.le_of_ble_eq_true rfl, Nat.le_of_ble_eq_true rfl⟩) rfl hl.1 rfl (Nat.le_of_ble_eq_true rfl) dX11_ask_3 ⟨Nat.zero_le _, Nat.zero_le _⟩ (fun r_1 M_1 H locs hp Z => ?_)
  obtain ⟨⟨rfl, w_1⟩ | ⟨rfl, w_1⟩, hM_1⟩ := hp
  · skip
    rw [hM_1] at Z
    refine lv_if_ne (tgt := 12) S.1 S.2.1 dX11_ask_6 (by decide) (fun _ => ?_) (fun c => absurd c (by decide))
    have Z := uZ_eq hrp.symm Z
    refine lv_aload_n S.1 S.2.1 dX11_ask_12 rfl (lv_at hl 0 rfl) ?_
    refine ug_r S hK Z (j := 7) 43 (by decide) rfl rfl rfl (by decide) iX11_ask_X11 qX11_ask_57 dX11_ask_13 ?_
    refine lv_aload_n S.1 S.2.1 dX11_ask_16 rfl (lv_at hl 0 rfl) ?_
    refine ug_r S hK Z (j := 0) 1 (by decide) rfl rfl rfl (by decide) iX11_ask_X11 qX11_ask_10 dX11_ask_17 ?_
    refine ug_r S hK Z (j := 6) 8 (by decide) rfl rfl rfl (by decide) iX11_ask_X10 qX11_ask_238 dX11_ask_20 ?_
    refine uc_Vv (As := [.ref (G.2.2 8)]) (rest := []) S hK hA Z (c_X2_chooseQuestion l G M w rf pl tm hr hw) (cwV 1 S.2.2.2.2 gX11_ask_X2_chooseQuestion rfl rfl rfl (by decide +kernel) ⟨Nat.le_of_ble_eq_true rfl, Nat.le_of_ble_eq_true rfl⟩) (by decide) rfl rfl rfl hl.1 rfl (Nat.le_of_ble_eq_true rfl) dX11_ask_23 ⟨Nat.zero_le _, Nat.zero_le _⟩ (fun M_3 H locs hp Z => ?_)
    obtain ⟨f1, f2, f3⟩ := hp
    refine lv_iload_n S.1 S.2.1 dX11_ask_26 rfl (lv_at hl 1 rfl) ?_
    refine lv_if_ne (tgt := 40) S.1 S.2.1 dX11_ask_27 (by decide) (fun c_4 => ?_) (fun c_4 => ?_)
    · skip
      refine lv_aload_n S.1 S.2.1 dX11_ask_40 rfl (lv_at hl 0 rfl) ?_
      refine ug_r S hK Z (j := 7) 43 (by decide) rfl rfl rfl (by decide) iX11_ask_X11 qX11_ask_57 dX11_ask_41 ?_
      refine ug_i S hK Z (j := 5) (by decide) rfl rfl rfl (by decide) iX11_ask_X2 qX11_ask_261 dX11_ask_44 ?_
      refine uret_i S hK Z hre hlk dX11_ask_47 ?_
      refine ⟨?_, f3⟩
      first | rw [f1] | rw [f2]
      rw [spAsk, if_neg (not_not_intro (by assumption))]
      by_cases z : hCnt w 120 = 0
      · rw [if_pos z, if_pos z]
      · rw [if_neg z, if_neg z]
        first | rw [if_pos (show x = 0 by assumption)] | rw [if_neg (show ¬ x = 0 by assumption)]
    · skip
      refine lv_aload_n S.1 S.2.1 dX11_ask_30 rfl (lv_at hl 0 rfl) ?_
      refine ug_r S hK Z (j := 7) 43 (by decide) rfl rfl rfl (by decide) iX11_ask_X11 qX11_ask_57 dX11_ask_31 ?_
      refine ug_i S hK Z (j := 4) (by decide) rfl rfl rfl (by decide) iX11_ask_X2 qX11_ask_258 dX11_ask_34 ?_
      refine lv_goto (tgt := 47) S.1 S.2.1 dX11_ask_37 (by decide) ?_
      refine uret_i S hK Z hre hlk dX11_ask_47 ?_
      refine ⟨?_, f3⟩
      first | rw [f1] | rw [f2]
      rw [spAsk, if_neg (not_not_intro (by assumption))]
      by_cases z : hCnt w 120 = 0
      · rw [if_pos z, if_pos z]
      · rw [if_neg z, if_neg z]
        first | rw [if_pos (show x = 0 by assumption)] | rw [if_neg (show ¬ x = 0 by assumption)]
  · skip
    rw [hM_1] at Z
    refine lv_if_ne (tgt := 12) S.1 S.2.1 dX11_ask_6 (by decide) (fun c => absurd c (by decide)) (fun _ => ?_)
    refine lv_bipush (v := (-2)) S.1 S.2.1 dX11_ask_9 (by decide) ?_
    refine uret_i S hK Z hre hlk dX11_ask_11 ?_
    rw [spAsk, if_pos (by assumption)]
    exact ⟨rfl, uSm_rf _ _ _⟩
set_option maxHeartbeats 4000000 in
set_option maxRecDepth 100000 in
theorem c_X11_doors (l : Launch) (G : uG) (n d h pt : Int32) (M : uM) : CTl l G yX11_doors wsX11_doors 2 58 [.ref (G.2.2 0), .int n, .int d, .int h, .int pt] M (fun r M2 => r = spDoors n d h pt ∧ M2.1 = M.1) := by
  refine ustart_l (cc := cX11_doors) (maxL := 7) (ret := (some .long)) (own := RX11) rfl (by decide) rfl (Nat.le_of_ble_eq_true rfl) ?_
  intro xp xe xs xm xa xb xt xc xA ls S hK hA Z hre hlk hl
  have hl : lv_has ls 7 [(0, .ref (G.2.2 0)), (1, .int n), (2, .int d), (3, .int h), (4, .int pt)] := hl
  refine lv_iload_n S.1 S.2.1 dX11_doors_0 rfl (lv_at hl 1 rfl) ?_
  refine lv_iconst (v := 0) S.1 S.2.1 dX11_doors_1 (by decide) ?_
  refine lv_bipush (v := 12) S.1 S.2.1 dX11_doors_2 (by decide) ?_
  refine uc_Si (As := [.int n, .int 0, .int 12]) (rest := []) S hK hA Z (c_X5_within l G n 0 12 M) (va_cwS 3 S.2.2.2.2 gX11_doors_X5_within rfl rfl rfl (by decide +kernel) ⟨Nat.le_of_ble_eq_true rfl, Nat.le_of_ble_eq_true rfl⟩) rfl hl.1 rfl (Nat.le_of_ble_eq_true rfl) dX11_doors_4 ⟨Nat.zero_le _, Nat.zero_le _⟩ (fun r_1 M_1 H locs hp Z => ?_)
  obtain ⟨⟨rfl, w_1⟩ | ⟨rfl, w_1⟩, hM_1⟩ := hp
  · skip
    rw [hM_1] at Z
    refine lv_if_eq (tgt := 39) S.1 S.2.1 dX11_doors_7 (by decide) (fun c => absurd c (by decide)) (fun _ => ?_)
    refine lv_iload_n S.1 S.2.1 dX11_doors_10 rfl (lv_at hl 2 rfl) ?_
    refine lv_iconst (v := 1) S.1 S.2.1 dX11_doors_11 (by decide) ?_
    refine lv_bipush (v := 10) S.1 S.2.1 dX11_doors_12 (by decide) ?_
    refine uc_Si (As := [.int d, .int 1, .int 10]) (rest := []) S hK hA Z (c_X5_within l G d 1 10 M) (va_cwS 3 S.2.2.2.2 gX11_doors_X5_within rfl rfl rfl (by decide +kernel) ⟨Nat.le_of_ble_eq_true rfl, Nat.le_of_ble_eq_true rfl⟩) rfl hl.1 rfl (Nat.le_of_ble_eq_true rfl) dX11_doors_14 ⟨Nat.zero_le _, Nat.zero_le _⟩ (fun r_3 M_3 H locs hp Z => ?_)
    obtain ⟨⟨rfl, w_3⟩ | ⟨rfl, w_3⟩, hM_3⟩ := hp
    · skip
      rw [hM_3] at Z
      refine lv_if_eq (tgt := 39) S.1 S.2.1 dX11_doors_17 (by decide) (fun c => absurd c (by decide)) (fun _ => ?_)
      refine lv_iload_n S.1 S.2.1 dX11_doors_20 rfl (lv_at hl 3 rfl) ?_
      refine lv_iconst (v := 0) S.1 S.2.1 dX11_doors_21 (by decide) ?_
      refine lv_iconst (v := 1) S.1 S.2.1 dX11_doors_22 (by decide) ?_
      refine uc_Si (As := [.int h, .int 0, .int 1]) (rest := []) S hK hA Z (c_X5_within l G h 0 1 M) (va_cwS 3 S.2.2.2.2 gX11_doors_X5_within rfl rfl rfl (by decide +kernel) ⟨Nat.le_of_ble_eq_true rfl, Nat.le_of_ble_eq_true rfl⟩) rfl hl.1 rfl (Nat.le_of_ble_eq_true rfl) dX11_doors_23 ⟨Nat.zero_le _, Nat.zero_le _⟩ (fun r_5 M_5 H locs hp Z => ?_)
      obtain ⟨⟨rfl, w_5⟩ | ⟨rfl, w_5⟩, hM_5⟩ := hp
      · skip
        rw [hM_5] at Z
        refine lv_if_eq (tgt := 39) S.1 S.2.1 dX11_doors_26 (by decide) (fun c => absurd c (by decide)) (fun _ => ?_)
        refine lv_iload S.1 S.2.1 dX11_doors_29 (lv_at hl 4 rfl) ?_
        refine lv_iconst (v := 0) S.1 S.2.1 dX11_doors_31 (by decide) ?_
        refine lv_iconst (v := 1) S.1 S.2.1 dX11_doors_32 (by decide) ?_
        refine uc_Si (As := [.int pt, .int 0, .int 1]) (rest := []) S hK hA Z (c_X5_within l G pt 0 1 M) (va_cwS 3 S.2.2.2.2 gX11_doors_X5_within rfl rfl rfl (by decide +kernel) ⟨Nat.le_of_ble_eq_true rfl, Nat.le_of_ble_eq_true rfl⟩) rfl hl.1 rfl (Nat.le_of_ble_eq_true rfl) dX11_doors_33 ⟨Nat.zero_le _, Nat.zero_le _⟩ (fun r_7 M_7 H locs hp Z => ?_)
        obtain ⟨⟨rfl, w_7⟩ | ⟨rfl, w_7⟩, hM_7⟩ := hp
        · skip
          rw [hM_7] at Z
          refine lv_if_ne (tgt := 43) S.1 S.2.1 dX11_doors_36 (by decide) (fun _ => ?_) (fun c => absurd c (by decide))
          obtain ⟨n1, hn1, rfl⟩ := u_in0 (n := 12) (show inr n 0 12 by assumption) (by decide)
          obtain ⟨d1, hd11, hd1, rfl⟩ := u_in1 (n := 10) (show inr d 1 10 by assumption) (by decide)
          obtain ⟨p0, hp0, rfl⟩ := u_in0 (n := 1) (show inr pt 0 1 by assumption) (by decide)
          refine lv_aload_n S.1 S.2.1 dX11_doors_43 rfl (lv_at hl 0 rfl) ?_
          refine ug_r S hK Z (j := 9) 49 (by decide) rfl rfl rfl (by decide) iX11_doors_X11 qX11_doors_71 dX11_doors_44 ?_
          refine lv_iload_n S.1 S.2.1 dX11_doors_47 rfl (lv_at hl 1 rfl) ?_
          refine lv_iload_n S.1 S.2.1 dX11_doors_48 rfl (lv_at hl 2 rfl) ?_
          refine uc_Vv (As := [.int (nI n1), .int (nI d1)]) (rest := []) S hK hA Z (c_X1_countWays l G n1 d1 hn1 hd11 hd1 M) (cwV 2 S.2.2.2.2 gX11_doors_X1_countWays rfl rfl rfl (by decide +kernel) ⟨Nat.le_of_ble_eq_true rfl, Nat.le_of_ble_eq_true rfl⟩) (by decide) rfl rfl rfl hl.1 rfl (Nat.le_of_ble_eq_true rfl) dX11_doors_49 ⟨Nat.zero_le _, Nat.zero_le _⟩ (fun M_9 H locs hp Z => ?_)
          obtain ⟨k1, k2, k3⟩ := hp
          refine lv_aload_n S.1 S.2.1 dX11_doors_52 rfl (lv_at hl 0 rfl) ?_
          refine ug_r S hK Z (j := 9) 49 (by decide) rfl rfl rfl (by decide) iX11_doors_X11 qX11_doors_71 dX11_doors_53 ?_
          refine lv_iload_n S.1 S.2.1 dX11_doors_56 rfl (lv_at hl 3 rfl) ?_
          refine lv_if_ne (tgt := 64) S.1 S.2.1 dX11_doors_57 (by decide) (fun c_10 => ?_) (fun c_10 => ?_)
          · skip
            refine lv_iload_n S.1 S.2.1 dX11_doors_64 rfl (lv_at hl 2 rfl) ?_
            refine ud_Vl (As := [.int (nI d1)]) (rest := []) S hK hA Z (c_X1_waysTo l G d1 (by omega) M_9) (cwV 1 S.2.2.2.2 gX11_doors_X1_waysTo rfl rfl rfl (by decide +kernel) ⟨Nat.le_of_ble_eq_true rfl, Nat.le_of_ble_eq_true rfl⟩) (by decide) rfl rfl rfl hl.1 rfl (Nat.le_of_ble_eq_true rfl) dX11_doors_65 ⟨Nat.zero_le _, Nat.zero_le _⟩ (fun H locs Z => ?_)
            refine utopl (y := lN (cw d1 n1 d1)) (k1 d1 (by omega)) ?_
            have hcb := cw_bd (d := d1) (n := n1) hd1 hn1 d1
            have hdb := dn_bd (d := d1) (n := n1) hd1 hn1
            have hdp : 0 < d1 ^ n1 := Nat.pow_pos (by omega)
            refine lv_lstore (lv' := [(5, .long (lN (cw d1 n1 d1))), (0, .ref (G.2.2 0)), (1, .int (nI n1)), (2, .int (nI d1)), (3, .int h), (4, .int (nI p0))]) S.1 S.2.1 dX11_doors_68 hl (by decide) rfl (fun ls hl => ?_)
            refine lv_lload S.1 S.2.1 dX11_doors_70 (lv_at hl 0 rfl) ?_
            refine lv_aload_n S.1 S.2.1 dX11_doors_72 rfl (lv_at hl 1 rfl) ?_
            refine ug_r S hK Z (j := 9) 49 (by decide) rfl rfl rfl (by decide) iX11_doors_X11 qX11_doors_71 dX11_doors_73 ?_
            refine ug_l S hK Z (j := 1) (by decide) rfl rfl rfl (by decide) iX11_doors_X1 qX11_doors_274 dX11_doors_76 ?_
            refine utopl k2 ?_
            refine lv_iload S.1 S.2.1 dX11_doors_79 (lv_at hl 5 rfl) ?_
            refine ud_Sl (As := [.long (lN (cw d1 n1 d1)), .long (lN (d1 ^ n1)), .int (nI p0)]) (rest := []) S hK hA Z (c_X1_lowest l G (cw d1 n1 d1) (d1 ^ n1) p0 (by omega) hdb hdp (by omega) M_9) (va_cwS 3 S.2.2.2.2 gX11_doors_X1_inLowestTerms rfl rfl rfl (by decide +kernel) ⟨Nat.le_of_ble_eq_true rfl, Nat.le_of_ble_eq_true rfl⟩) rfl hl.1 rfl (Nat.le_of_ble_eq_true rfl) dX11_doors_81 ⟨Nat.zero_le _, Nat.zero_le _⟩ (fun H locs Z => ?_)
            refine uret_l S hK Z hre hlk dX11_doors_84 ?_
            rw [spDoors, if_neg (u_no4 (by assumption) (by assumption) (by assumption) (by assumption)), nI_clamp (show n1 < 2 ^ 31 by omega), nI_clamp (show d1 < 2 ^ 31 by omega), nI_clamp (show p0 < 2 ^ 31 by omega)]
            first | (rw [if_pos (show h = 0 by assumption)]; exact ⟨rfl, k3⟩) | (rw [if_neg (show ¬ h = 0 by assumption)]; exact ⟨rfl, k3⟩)
          · skip
            refine lv_iload_n S.1 S.2.1 dX11_doors_60 rfl (lv_at hl 1 rfl) ?_
            refine lv_goto (tgt := 65) S.1 S.2.1 dX11_doors_61 (by decide) ?_
            refine ud_Vl (As := [.int (nI n1)]) (rest := []) S hK hA Z (c_X1_waysTo l G n1 (by omega) M_9) (cwV 1 S.2.2.2.2 gX11_doors_X1_waysTo rfl rfl rfl (by decide +kernel) ⟨Nat.le_of_ble_eq_true rfl, Nat.le_of_ble_eq_true rfl⟩) (by decide) rfl rfl rfl hl.1 rfl (Nat.le_of_ble_eq_true rfl) dX11_doors_65 ⟨Nat.zero_le _, Nat.zero_le _⟩ (fun H locs Z => ?_)
            refine utopl (y := lN (cw d1 n1 n1)) (k1 n1 (by omega)) ?_
            have hcb := cw_bd (d := d1) (n := n1) hd1 hn1 n1
            have hdb := dn_bd (d := d1) (n := n1) hd1 hn1
            have hdp : 0 < d1 ^ n1 := Nat.pow_pos (by omega)
            refine lv_lstore (lv' := [(5, .long (lN (cw d1 n1 n1))), (0, .ref (G.2.2 0)), (1, .int (nI n1)), (2, .int (nI d1)), (3, .int h), (4, .int (nI p0))]) S.1 S.2.1 dX11_doors_68 hl (by decide) rfl (fun ls hl => ?_)
            refine lv_lload S.1 S.2.1 dX11_doors_70 (lv_at hl 0 rfl) ?_
            refine lv_aload_n S.1 S.2.1 dX11_doors_72 rfl (lv_at hl 1 rfl) ?_
            refine ug_r S hK Z (j := 9) 49 (by decide) rfl rfl rfl (by decide) iX11_doors_X11 qX11_doors_71 dX11_doors_73 ?_
            refine ug_l S hK Z (j := 1) (by decide) rfl rfl rfl (by decide) iX11_doors_X1 qX11_doors_274 dX11_doors_76 ?_
            refine utopl k2 ?_
            refine lv_iload S.1 S.2.1 dX11_doors_79 (lv_at hl 5 rfl) ?_
            refine ud_Sl (As := [.long (lN (cw d1 n1 n1)), .long (lN (d1 ^ n1)), .int (nI p0)]) (rest := []) S hK hA Z (c_X1_lowest l G (cw d1 n1 n1) (d1 ^ n1) p0 (by omega) hdb hdp (by omega) M_9) (va_cwS 3 S.2.2.2.2 gX11_doors_X1_inLowestTerms rfl rfl rfl (by decide +kernel) ⟨Nat.le_of_ble_eq_true rfl, Nat.le_of_ble_eq_true rfl⟩) rfl hl.1 rfl (Nat.le_of_ble_eq_true rfl) dX11_doors_81 ⟨Nat.zero_le _, Nat.zero_le _⟩ (fun H locs Z => ?_)
            refine uret_l S hK Z hre hlk dX11_doors_84 ?_
            rw [spDoors, if_neg (u_no4 (by assumption) (by assumption) (by assumption) (by assumption)), nI_clamp (show n1 < 2 ^ 31 by omega), nI_clamp (show d1 < 2 ^ 31 by omega), nI_clamp (show p0 < 2 ^ 31 by omega)]
            first | (rw [if_pos (show h = 0 by assumption)]; exact ⟨rfl, k3⟩) | (rw [if_neg (show ¬ h = 0 by assumption)]; exact ⟨rfl, k3⟩)
        · skip
          rw [hM_7] at Z
          refine lv_if_ne (tgt := 43) S.1 S.2.1 dX11_doors_36 (by decide) (fun c => absurd c (by decide)) (fun _ => ?_)
          refine lv_ldc2 (v := (-1000000000000000002)) S.1 S.2.1 S.2.2.2.1 (S.2.2.2.2 _ qX11_doors_219) dX11_doors_39 ?_
          refine uret_l S hK Z hre hlk dX11_doors_42 ?_
          rw [spDoors, if_pos (by first | exact Or.inl (by assumption) | exact Or.inr (Or.inl (by assumption)) | exact Or.inr (Or.inr (Or.inl (by assumption))) | exact Or.inr (Or.inr (Or.inr (by assumption))))]
          exact ⟨rfl, rfl⟩
      · skip
        rw [hM_5] at Z
        refine lv_if_eq (tgt := 39) S.1 S.2.1 dX11_doors_26 (by decide) (fun _ => ?_) (fun c => absurd c (by decide))
        refine lv_ldc2 (v := (-1000000000000000002)) S.1 S.2.1 S.2.2.2.1 (S.2.2.2.2 _ qX11_doors_219) dX11_doors_39 ?_
        refine uret_l S hK Z hre hlk dX11_doors_42 ?_
        rw [spDoors, if_pos (by first | exact Or.inl (by assumption) | exact Or.inr (Or.inl (by assumption)) | exact Or.inr (Or.inr (Or.inl (by assumption))) | exact Or.inr (Or.inr (Or.inr (by assumption))))]
        exact ⟨rfl, rfl⟩
    · skip
      rw [hM_3] at Z
      refine lv_if_eq (tgt := 39) S.1 S.2.1 dX11_doors_17 (by decide) (fun _ => ?_) (fun c => absurd c (by decide))
      refine lv_ldc2 (v := (-1000000000000000002)) S.1 S.2.1 S.2.2.2.1 (S.2.2.2.2 _ qX11_doors_219) dX11_doors_39 ?_
      refine uret_l S hK Z hre hlk dX11_doors_42 ?_
      rw [spDoors, if_pos (by first | exact Or.inl (by assumption) | exact Or.inr (Or.inl (by assumption)) | exact Or.inr (Or.inr (Or.inl (by assumption))) | exact Or.inr (Or.inr (Or.inr (by assumption))))]
      exact ⟨rfl, rfl⟩
  · skip
    rw [hM_1] at Z
    refine lv_if_eq (tgt := 39) S.1 S.2.1 dX11_doors_7 (by decide) (fun _ => ?_) (fun c => absurd c (by decide))
    refine lv_ldc2 (v := (-1000000000000000002)) S.1 S.2.1 S.2.2.2.1 (S.2.2.2.2 _ qX11_doors_219) dX11_doors_39 ?_
    refine uret_l S hK Z hre hlk dX11_doors_42 ?_
    rw [spDoors, if_pos (by first | exact Or.inl (by assumption) | exact Or.inr (Or.inl (by assumption)) | exact Or.inr (Or.inr (Or.inl (by assumption))) | exact Or.inr (Or.inr (Or.inr (by assumption))))]
    exact ⟨rfl, rfl⟩
