theorem n6 : nI 4294967290 = -6 := by decide
/-! where things go night by night -/
def it (nx : Nat → Nat) (x : Nat) : Nat → Nat
  | 0 => x
  | j + 1 => nx (it nx x j)
theorem it_lt {nx : Nat → Nat} {x : Nat} (h : ∀ i, i < 8 → nx i < 8) (hx : x < 8) : ∀ j, it nx x j < 8 := by
  intro j
  induction j with
  | zero => exact hx
  | succ j ih => exact h _ ih
/-- more letters than boxes -/
theorem php : ∀ (n : Nat) (f : Nat → Nat), (∀ i, i ≤ n → f i < n) → ∃ a b, a < b ∧ b ≤ n ∧ f a = f b := by
  intro n
  induction n with
  | zero => intro f h; exact absurd (h 0 (Nat.le_refl _)) (by omega)
  | succ n ih =>
    intro f h
    by_cases hc : ∃ a, a < n + 1 ∧ f a = f (n + 1)
    · obtain ⟨a, h1, h2⟩ := hc
      exact ⟨a, n + 1, h1, Nat.le_refl _, h2⟩
    · have hg : ∀ i, i ≤ n → (if f i = n then f (n + 1) else f i) < n := by
        intro i hi
        have h1 := h i (by omega)
        have h2 := h (n + 1) (Nat.le_refl _)
        have h3 : f i ≠ f (n + 1) := fun q => hc ⟨i, by omega, q⟩
        split <;> omega
      obtain ⟨a, b, h1, h2, h3⟩ := ih _ hg
      have ha : f a ≠ f (n + 1) := fun q => hc ⟨a, by omega, q⟩
      have hb : f b ≠ f (n + 1) := fun q => hc ⟨b, by omega, q⟩
      refine ⟨a, b, h1, by omega, ?_⟩
      split at h3 <;> split at h3 <;> omega
def rOk (v : Nat) : Prop := v / 10 ^ 8 = 0 ∧ ∀ i, i < 8 → dg v 8 i ≤ 7
/-- N nights first behind which it is with one with whom it was, L nights before -/
def rEnd (nx : Nat → Nat) (x N L : Nat) : Prop := 1 ≤ N ∧ N ≤ 8 ∧ L < N ∧ it nx x L = it nx x N ∧ ∀ a b, a < b → b < N → it nx x a ≠ it nx x b
theorem rEnd_1 {nx : Nat → Nat} {x N L N' L' : Nat} (h : rEnd nx x N L) (h' : rEnd nx x N' L') : N = N' ∧ L = L' := by
  obtain ⟨h1, h2, h3, h4, h5⟩ := h
  obtain ⟨g1, g2, g3, g4, g5⟩ := h'
  have hN : N = N' := by
    rcases Nat.lt_trichotomy N N' with q | q | q
    · exact absurd h4 (g5 L N h3 q)
    · exact q
    · exact absurd g4 (h5 L' N' g3 q)
  subst hN
  refine ⟨rfl, ?_⟩
  rcases Nat.lt_trichotomy L L' with q | q | q
  · exact absurd (h4.trans g4.symm) (h5 L L' q g3)
  · exact q
  · exact absurd (g4.trans h4.symm) (h5 L' L q h3)
theorem qX4_read_9 : Cond.fieldLink RX4 9 (TX4 0).1 (TX4 0).2.1 (TX4 0).2.2.1 ∈ wsX4_read := List.mem_of_getElem? (i := 1) rfl
theorem iX4_read_X4 : ∀ w ∈ wsX40, w ∈ wsX4_read := fun _ h => List.mem_cons_of_mem _ (List.mem_append_right _ h)
theorem qX4_follow_18 : Cond.fieldLink RX4 18 (TX4 2).1 (TX4 2).2.1 (TX4 2).2.2.1 ∈ wsX4_follow := List.mem_of_getElem? (i := 1) rfl
theorem iX4_follow_X4 : ∀ w ∈ wsX40, w ∈ wsX4_follow := fun _ h => List.mem_cons_of_mem _ (List.mem_append_right _ h)
theorem qX4_follow_39 : Cond.fieldLink RX4 39 (TX4 3).1 (TX4 3).2.1 (TX4 3).2.2.1 ∈ wsX4_follow := List.mem_of_getElem? (i := 2) rfl
theorem qX4_follow_47 : Cond.fieldLink RX4 47 (TX4 4).1 (TX4 4).2.1 (TX4 4).2.2.1 ∈ wsX4_follow := List.mem_of_getElem? (i := 5) rfl
theorem qX4_follow_50 : Cond.fieldLink RX4 50 (TX4 5).1 (TX4 5).2.1 (TX4 5).2.2.1 ∈ wsX4_follow := List.mem_of_getElem? (i := 6) rfl
theorem qX4_follow_15 : Cond.fieldLink RX4 15 (TX4 1).1 (TX4 1).2.1 (TX4 1).2.2.1 ∈ wsX4_follow := List.mem_of_getElem? (i := 3) rfl
theorem qX4_follow_9 : Cond.fieldLink RX4 9 (TX4 0).1 (TX4 0).2.1 (TX4 0).2.2.1 ∈ wsX4_follow := List.mem_of_getElem? (i := 4) rfl
theorem qX4_holderBehind_39 : Cond.fieldLink RX4 39 (TX4 3).1 (TX4 3).2.1 (TX4 3).2.2.1 ∈ wsX4_holderBehind := List.mem_of_getElem? (i := 1) rfl
theorem iX4_holderBehind_X4 : ∀ w ∈ wsX40, w ∈ wsX4_holderBehind := fun _ h => List.mem_cons_of_mem _ (List.mem_append_right _ h)
theorem qX4_holderBehind_15 : Cond.fieldLink RX4 15 (TX4 1).1 (TX4 1).2.1 (TX4 1).2.2.1 ∈ wsX4_holderBehind := List.mem_of_getElem? (i := 3) rfl
theorem qX4_holderBehind_50 : Cond.fieldLink RX4 50 (TX4 5).1 (TX4 5).2.1 (TX4 5).2.2.1 ∈ wsX4_holderBehind := List.mem_of_getElem? (i := 2) rfl
theorem qX4_holderBehind_47 : Cond.fieldLink RX4 47 (TX4 4).1 (TX4 4).2.1 (TX4 4).2.2.1 ∈ wsX4_holderBehind := List.mem_of_getElem? (i := 4) rfl
set_option maxHeartbeats 4000000 in
set_option maxRecDepth 100000 in
theorem c_X4_read (l : Launch) (G : uG) (v : Nat) (hv : v < 2147483648) (M : uM) (nx : Nat → Nat) : CTi l G yX4_read wsX4_read 2 46 [.ref (G.2.2 37), .int (nI v)] (uAr M 38 nx) (fun r M2 => ((r = 1 ∧ rOk v) ∨ (r = 0 ∧ ¬ rOk v)) ∧ M2 = uAr M 38 (fun i => if i < 8 then dg v 8 i else nx i)) := by
  refine ustart_i (cc := cX4_read) (maxL := 4) (ret := (some .boolean)) (own := RX4) rfl (by decide) rfl (Nat.le_of_ble_eq_true rfl) ?_
  intro xp xe xs xm xa xb xt xc xA ls S hK hA Z hre hlk hl
  have hl : lv_has ls 4 [(0, .ref (G.2.2 37)), (1, .int (nI v))] := hl
  refine lv_iload_n S.1 S.2.1 dX4_read_0 rfl (lv_at hl 1 rfl) ?_
  refine lv_bipush (v := 8) S.1 S.2.1 dX4_read_1 (by decide) ?_
  refine lv_aload_n S.1 S.2.1 dX4_read_3 rfl (lv_at hl 0 rfl) ?_
  refine ug_r S hK Z (j := 0) 38 (by decide) rfl rfl rfl (by decide) iX4_read_X4 qX4_read_9 dX4_read_4 ?_
  refine uc_Si (As := [.int (nI v), .int 8, .ref (G.2.2 38)]) (rest := []) S hK hA Z (c_X5_readDigits l G v 8 38 8 hv (by decide) (by decide) (by decide) rfl M nx) (va_cwS 3 S.2.2.2.2 gX4_read_X5_readDigits rfl rfl rfl (by decide +kernel) ⟨Nat.le_of_ble_eq_true rfl, Nat.le_of_ble_eq_true rfl⟩) rfl hl.1 rfl (Nat.le_of_ble_eq_true rfl) dX4_read_7 ⟨Nat.zero_le _, Nat.zero_le _⟩ (fun r_1 M_1 H locs hp Z => ?_)
  obtain ⟨⟨rfl, w_1⟩ | ⟨rfl, w_1⟩, hM_1⟩ := hp
  · skip
    have w0 := w_1
    rw [hM_1] at Z
    refine lv_istore_n (lv' := [(2, .int 1), (0, .ref (G.2.2 37)), (1, .int (nI v))]) S.1 S.2.1 dX4_read_10 rfl hl (by decide) rfl (fun ls hl => ?_)
    refine lv_iconst (v := 0) S.1 S.2.1 dX4_read_11 (by decide) ?_
    refine lv_istore_n (lv' := [(3, .int 0), (2, .int 1), (0, .ref (G.2.2 37)), (1, .int (nI v))]) S.1 S.2.1 dX4_read_12 rfl hl (by decide) rfl (fun ls hl => ?_)
    have LP13 : ∀ (fU : Nat) (z : Int32) (o : Nat), (8 < o + fU) → (o ≤ 8) → ((z = 1 ∧ v / 10 ^ 8 = 0 ∧ ∀ i, i < o → dg v 8 i ≤ 7) ∨ (z = 0 ∧ ¬ rOk v)) → ∀ (H : Heap) (locs : List Loc) (ls : Array Slot), uZ G xA (uAr M 38 (fun i => if i < 8 then dg v 8 i else nx i)) xs.heap H locs → lv_has ls 4 [(3, .int (nI o)), (2, .int z), (0, .ref (G.2.2 37)), (1, .int (nI v))] → W xp l xe (uRm 2 46) xs xm xa xb xt xc H locs 0 0 (MQ xb (va_Qi (fun r M2 => ((r = 1 ∧ rOk v) ∨ (r = 0 ∧ ¬ rOk v)) ∧ M2 = uAr M 38 (fun i => if i < 8 then dg v 8 i else nx i)) (fun M' t => uB G M' t) xA) xa xs 0 0 xA) (F0 xm 13 ls []) := by
      intro fU
      induction fU with
      | zero =>
        intro z o hfl i1 hz H locs ls Z hl
        exfalso
        omega
      | succ fU ih13 =>
        intro z o hfl i1 hz H locs ls Z hl
        rcases hz with ⟨hz1, hz2⟩ | ⟨hz1, hz2⟩
        · skip
          subst hz1
          refine lv_iload_n S.1 S.2.1 dX4_read_13 rfl (lv_at hl 0 rfl) ?_
          refine lv_bipush (v := 8) S.1 S.2.1 dX4_read_14 (by decide) ?_
          refine lv_icmp_ge (tgt := 52) S.1 S.2.1 dX4_read_16 (by decide) (fun c_2 => ?_) (fun c_2 => ?_)
          · skip
            have c_2 : 8 ≤ o := (nI_leI (a := 8) (b := o) (by omega) (by omega)).mp c_2
            refine lv_iload_n S.1 S.2.1 dX4_read_52 rfl (lv_at hl 1 rfl) ?_
            refine uret_z S hK Z hre hlk (by decide) dX4_read_53 ?_
            exact ⟨Or.inl ⟨rfl, hz2.1, fun i hi => hz2.2 i (by omega)⟩, rfl⟩
          · skip
            have c_2 : ¬ 8 ≤ o := fun z9 => c_2 ((nI_leI (a := 8) (b := o) (by omega) (by omega)).mpr z9)
            refine lv_iload_n S.1 S.2.1 dX4_read_19 rfl (lv_at hl 1 rfl) ?_
            refine lv_if_eq (tgt := 44) S.1 S.2.1 dX4_read_20 (by decide) (fun c => absurd c (by decide)) (fun _ => ?_)
            have y0 : (fun i => if i < 8 then dg v 8 i else nx i) o = dg v 8 o := if_pos (by omega)
            have y1 : dg v 8 o < 10 := Nat.mod_lt _ (by decide)
            refine lv_aload_n S.1 S.2.1 dX4_read_23 rfl (lv_at hl 2 rfl) ?_
            refine ug_r S hK Z (j := 0) 38 (by decide) rfl rfl rfl (by decide) iX4_read_X4 qX4_read_9 dX4_read_24 ?_
            refine lv_iload_n S.1 S.2.1 dX4_read_27 rfl (lv_at hl 0 rfl) ?_
            refine ud_Si (As := [.ref (G.2.2 38), .int (nI o)]) (rest := []) S hK hA Z (c_X5_at l G 38 8 o (by decide) rfl (by omega) (uAr M 38 (fun i => if i < 8 then dg v 8 i else nx i))) (va_cwS 2 S.2.2.2.2 gX4_read_X5_at rfl rfl rfl (by decide +kernel) ⟨Nat.le_of_ble_eq_true rfl, Nat.le_of_ble_eq_true rfl⟩) rfl hl.1 rfl (Nat.le_of_ble_eq_true rfl) dX4_read_28 ⟨Nat.zero_le _, Nat.zero_le _⟩ (fun H locs Z => ?_)
            refine utop (y := (nI ((fun i => if i < 8 then dg v 8 i else nx i) o))) (uAr_g M 38 (fun i => if i < 8 then dg v 8 i else nx i) o) ?_
            refine utop (congrArg nI y0) ?_
            refine lv_iconst (v := 0) S.1 S.2.1 dX4_read_31 (by decide) ?_
            refine lv_bipush (v := 7) S.1 S.2.1 dX4_read_32 (by decide) ?_
            refine uc_Si (As := [.int (nI (dg v 8 o)), .int 0, .int 7]) (rest := []) S hK hA Z (c_X5_withinN l G (dg v 8 o) 0 7 (by omega) (by omega) (by omega) (uAr M 38 (fun i => if i < 8 then dg v 8 i else nx i))) (va_cwS 3 S.2.2.2.2 gX4_read_X5_within rfl rfl rfl (by decide +kernel) ⟨Nat.le_of_ble_eq_true rfl, Nat.le_of_ble_eq_true rfl⟩) rfl hl.1 rfl (Nat.le_of_ble_eq_true rfl) dX4_read_34 ⟨Nat.zero_le _, Nat.zero_le _⟩ (fun r_5 M_5 H locs hp Z => ?_)
            obtain ⟨⟨rfl, w_5⟩ | ⟨rfl, w_5⟩, hM_5⟩ := hp
            · skip
              rw [hM_5] at Z
              refine lv_if_eq (tgt := 44) S.1 S.2.1 dX4_read_37 (by decide) (fun c => absurd c (by decide)) (fun _ => ?_)
              refine lv_iconst (v := 1) S.1 S.2.1 dX4_read_40 (by decide) ?_
              refine lv_goto (tgt := 45) S.1 S.2.1 dX4_read_41 (by decide) ?_
              refine lv_istore_n (lv' := [(2, .int 1), (3, .int (nI o)), (0, .ref (G.2.2 37)), (1, .int (nI v))]) S.1 S.2.1 dX4_read_45 rfl hl (by decide) rfl (fun ls hl => ?_)
              refine lv_iinc (v := (nI (o + 1))) (lv' := [(3, .int (nI (o + 1))), (2, .int 1), (0, .ref (G.2.2 37)), (1, .int (nI v))]) S.1 S.2.1 dX4_read_46 hl (k := 1) rfl (u_inc1 o) (by decide) rfl (fun ls hl => ?_)
              refine lv_goto (tgt := 13) S.1 S.2.1 dX4_read_49 (by decide) ?_
              exact ih13 1 (o + 1) (by omega) (by omega) (by
                  first
                    | exact Or.inr ⟨rfl, hz2⟩
                    | exact Or.inl ⟨rfl, hz2.1, fun i hi => (by
                        rcases Nat.lt_or_ge i o with q | q
                        · exact hz2.2 i q
                        · obtain rfl : i = o := by omega
                          omega)⟩
                    | exact Or.inr ⟨rfl, fun q => by
                        have := q.2 o (by omega)
                        omega⟩) _ _ _ Z (lv_sub hl [0, 1, 2, 3] rfl)
            · skip
              rw [hM_5] at Z
              refine lv_if_eq (tgt := 44) S.1 S.2.1 dX4_read_37 (by decide) (fun _ => ?_) (fun c => absurd c (by decide))
              refine lv_iconst (v := 0) S.1 S.2.1 dX4_read_44 (by decide) ?_
              refine lv_istore_n (lv' := [(2, .int 0), (3, .int (nI o)), (0, .ref (G.2.2 37)), (1, .int (nI v))]) S.1 S.2.1 dX4_read_45 rfl hl (by decide) rfl (fun ls hl => ?_)
              refine lv_iinc (v := (nI (o + 1))) (lv' := [(3, .int (nI (o + 1))), (2, .int 0), (0, .ref (G.2.2 37)), (1, .int (nI v))]) S.1 S.2.1 dX4_read_46 hl (k := 1) rfl (u_inc1 o) (by decide) rfl (fun ls hl => ?_)
              refine lv_goto (tgt := 13) S.1 S.2.1 dX4_read_49 (by decide) ?_
              exact ih13 0 (o + 1) (by omega) (by omega) (by
                  first
                    | exact Or.inr ⟨rfl, hz2⟩
                    | exact Or.inl ⟨rfl, hz2.1, fun i hi => (by
                        rcases Nat.lt_or_ge i o with q | q
                        · exact hz2.2 i q
                        · obtain rfl : i = o := by omega
                          omega)⟩
                    | exact Or.inr ⟨rfl, fun q => by
                        have := q.2 o (by omega)
                        omega⟩) _ _ _ Z (lv_sub hl [0, 1, 2, 3] rfl)
        · skip
          subst hz1
          refine lv_iload_n S.1 S.2.1 dX4_read_13 rfl (lv_at hl 0 rfl) ?_
          refine lv_bipush (v := 8) S.1 S.2.1 dX4_read_14 (by decide) ?_
          refine lv_icmp_ge (tgt := 52) S.1 S.2.1 dX4_read_16 (by decide) (fun c_8 => ?_) (fun c_8 => ?_)
          · skip
            have c_8 : 8 ≤ o := (nI_leI (a := 8) (b := o) (by omega) (by omega)).mp c_8
            refine lv_iload_n S.1 S.2.1 dX4_read_52 rfl (lv_at hl 1 rfl) ?_
            refine uret_z S hK Z hre hlk (by decide) dX4_read_53 ?_
            exact ⟨Or.inr ⟨rfl, hz2⟩, rfl⟩
          · skip
            have c_8 : ¬ 8 ≤ o := fun z9 => c_8 ((nI_leI (a := 8) (b := o) (by omega) (by omega)).mpr z9)
            refine lv_iload_n S.1 S.2.1 dX4_read_19 rfl (lv_at hl 1 rfl) ?_
            refine lv_if_eq (tgt := 44) S.1 S.2.1 dX4_read_20 (by decide) (fun _ => ?_) (fun c => absurd c (by decide))
            refine lv_iconst (v := 0) S.1 S.2.1 dX4_read_44 (by decide) ?_
            refine lv_istore_n (lv' := [(2, .int 0), (3, .int (nI o)), (0, .ref (G.2.2 37)), (1, .int (nI v))]) S.1 S.2.1 dX4_read_45 rfl hl (by decide) rfl (fun ls hl => ?_)
            refine lv_iinc (v := (nI (o + 1))) (lv' := [(3, .int (nI (o + 1))), (2, .int 0), (0, .ref (G.2.2 37)), (1, .int (nI v))]) S.1 S.2.1 dX4_read_46 hl (k := 1) rfl (u_inc1 o) (by decide) rfl (fun ls hl => ?_)
            refine lv_goto (tgt := 13) S.1 S.2.1 dX4_read_49 (by decide) ?_
            exact ih13 0 (o + 1) (by omega) (by omega) (by
                first
                  | exact Or.inr ⟨rfl, hz2⟩
                  | exact Or.inl ⟨rfl, hz2.1, fun i hi => (by
                      rcases Nat.lt_or_ge i o with q | q
                      · exact hz2.2 i q
                      · obtain rfl : i = o := by omega
                        omega)⟩
                  | exact Or.inr ⟨rfl, fun q => by
                      have := q.2 o (by omega)
                      omega⟩) _ _ _ Z (lv_sub hl [0, 1, 2, 3] rfl)
    exact LP13 9 1 0 (by omega) (by omega) (by
        first
          | exact Or.inl ⟨rfl, w0, fun i hi => by omega⟩
          | exact Or.inr ⟨rfl, fun q => w0 q.1⟩) _ _ _ Z (lv_sub hl [0, 1, 2, 3] rfl)
  · skip
    have w0 := w_1
    rw [hM_1] at Z
    refine lv_istore_n (lv' := [(2, .int 0), (0, .ref (G.2.2 37)), (1, .int (nI v))]) S.1 S.2.1 dX4_read_10 rfl hl (by decide) rfl (fun ls hl => ?_)
    refine lv_iconst (v := 0) S.1 S.2.1 dX4_read_11 (by decide) ?_
    refine lv_istore_n (lv' := [(3, .int 0), (2, .int 0), (0, .ref (G.2.2 37)), (1, .int (nI v))]) S.1 S.2.1 dX4_read_12 rfl hl (by decide) rfl (fun ls hl => ?_)
    have LP13 : ∀ (fU : Nat) (z : Int32) (o : Nat), (8 < o + fU) → (o ≤ 8) → ((z = 1 ∧ v / 10 ^ 8 = 0 ∧ ∀ i, i < o → dg v 8 i ≤ 7) ∨ (z = 0 ∧ ¬ rOk v)) → ∀ (H : Heap) (locs : List Loc) (ls : Array Slot), uZ G xA (uAr M 38 (fun i => if i < 8 then dg v 8 i else nx i)) xs.heap H locs → lv_has ls 4 [(3, .int (nI o)), (2, .int z), (0, .ref (G.2.2 37)), (1, .int (nI v))] → W xp l xe (uRm 2 46) xs xm xa xb xt xc H locs 0 0 (MQ xb (va_Qi (fun r M2 => ((r = 1 ∧ rOk v) ∨ (r = 0 ∧ ¬ rOk v)) ∧ M2 = uAr M 38 (fun i => if i < 8 then dg v 8 i else nx i)) (fun M' t => uB G M' t) xA) xa xs 0 0 xA) (F0 xm 13 ls []) := by
      intro fU
      induction fU with
      | zero =>
        intro z o hfl i1 hz H locs ls Z hl
        exfalso
        omega
      | succ fU ih13 =>
        intro z o hfl i1 hz H locs ls Z hl
        rcases hz with ⟨hz1, hz2⟩ | ⟨hz1, hz2⟩
        · skip
          subst hz1
          refine lv_iload_n S.1 S.2.1 dX4_read_13 rfl (lv_at hl 0 rfl) ?_
          refine lv_bipush (v := 8) S.1 S.2.1 dX4_read_14 (by decide) ?_
          refine lv_icmp_ge (tgt := 52) S.1 S.2.1 dX4_read_16 (by decide) (fun c_10 => ?_) (fun c_10 => ?_)
          · skip
            have c_10 : 8 ≤ o := (nI_leI (a := 8) (b := o) (by omega) (by omega)).mp c_10
            refine lv_iload_n S.1 S.2.1 dX4_read_52 rfl (lv_at hl 1 rfl) ?_
            refine uret_z S hK Z hre hlk (by decide) dX4_read_53 ?_
            exact ⟨Or.inl ⟨rfl, hz2.1, fun i hi => hz2.2 i (by omega)⟩, rfl⟩
          · skip
            have c_10 : ¬ 8 ≤ o := fun z9 => c_10 ((nI_leI (a := 8) (b := o) (by omega) (by omega)).mpr z9)
            refine lv_iload_n S.1 S.2.1 dX4_read_19 rfl (lv_at hl 1 rfl) ?_
            refine lv_if_eq (tgt := 44) S.1 S.2.1 dX4_read_20 (by decide) (fun c => absurd c (by decide)) (fun _ => ?_)
            have y0 : (fun i => if i < 8 then dg v 8 i else nx i) o = dg v 8 o := if_pos (by omega)
            have y1 : dg v 8 o < 10 := Nat.mod_lt _ (by decide)
            refine lv_aload_n S.1 S.2.1 dX4_read_23 rfl (lv_at hl 2 rfl) ?_
            refine ug_r S hK Z (j := 0) 38 (by decide) rfl rfl rfl (by decide) iX4_read_X4 qX4_read_9 dX4_read_24 ?_
            refine lv_iload_n S.1 S.2.1 dX4_read_27 rfl (lv_at hl 0 rfl) ?_
            refine ud_Si (As := [.ref (G.2.2 38), .int (nI o)]) (rest := []) S hK hA Z (c_X5_at l G 38 8 o (by decide) rfl (by omega) (uAr M 38 (fun i => if i < 8 then dg v 8 i else nx i))) (va_cwS 2 S.2.2.2.2 gX4_read_X5_at rfl rfl rfl (by decide +kernel) ⟨Nat.le_of_ble_eq_true rfl, Nat.le_of_ble_eq_true rfl⟩) rfl hl.1 rfl (Nat.le_of_ble_eq_true rfl) dX4_read_28 ⟨Nat.zero_le _, Nat.zero_le _⟩ (fun H locs Z => ?_)
            refine utop (y := (nI ((fun i => if i < 8 then dg v 8 i else nx i) o))) (uAr_g M 38 (fun i => if i < 8 then dg v 8 i else nx i) o) ?_
            refine utop (congrArg nI y0) ?_
            refine lv_iconst (v := 0) S.1 S.2.1 dX4_read_31 (by decide) ?_
            refine lv_bipush (v := 7) S.1 S.2.1 dX4_read_32 (by decide) ?_
            refine uc_Si (As := [.int (nI (dg v 8 o)), .int 0, .int 7]) (rest := []) S hK hA Z (c_X5_withinN l G (dg v 8 o) 0 7 (by omega) (by omega) (by omega) (uAr M 38 (fun i => if i < 8 then dg v 8 i else nx i))) (va_cwS 3 S.2.2.2.2 gX4_read_X5_within rfl rfl rfl (by decide +kernel) ⟨Nat.le_of_ble_eq_true rfl, Nat.le_of_ble_eq_true rfl⟩) rfl hl.1 rfl (Nat.le_of_ble_eq_true rfl) dX4_read_34 ⟨Nat.zero_le _, Nat.zero_le _⟩ (fun r_13 M_13 H locs hp Z => ?_)
            obtain ⟨⟨rfl, w_13⟩ | ⟨rfl, w_13⟩, hM_13⟩ := hp
            · skip
              rw [hM_13] at Z
              refine lv_if_eq (tgt := 44) S.1 S.2.1 dX4_read_37 (by decide) (fun c => absurd c (by decide)) (fun _ => ?_)
              refine lv_iconst (v := 1) S.1 S.2.1 dX4_read_40 (by decide) ?_
              refine lv_goto (tgt := 45) S.1 S.2.1 dX4_read_41 (by decide) ?_
              refine lv_istore_n (lv' := [(2, .int 1), (3, .int (nI o)), (0, .ref (G.2.2 37)), (1, .int (nI v))]) S.1 S.2.1 dX4_read_45 rfl hl (by decide) rfl (fun ls hl => ?_)
              refine lv_iinc (v := (nI (o + 1))) (lv' := [(3, .int (nI (o + 1))), (2, .int 1), (0, .ref (G.2.2 37)), (1, .int (nI v))]) S.1 S.2.1 dX4_read_46 hl (k := 1) rfl (u_inc1 o) (by decide) rfl (fun ls hl => ?_)
              refine lv_goto (tgt := 13) S.1 S.2.1 dX4_read_49 (by decide) ?_
              exact ih13 1 (o + 1) (by omega) (by omega) (by
                  first
                    | exact Or.inr ⟨rfl, hz2⟩
                    | exact Or.inl ⟨rfl, hz2.1, fun i hi => (by
                        rcases Nat.lt_or_ge i o with q | q
                        · exact hz2.2 i q
                        · obtain rfl : i = o := by omega
                          omega)⟩
                    | exact Or.inr ⟨rfl, fun q => by
                        have := q.2 o (by omega)
                        omega⟩) _ _ _ Z (lv_sub hl [0, 1, 2, 3] rfl)
            · skip
              rw [hM_13] at Z
              refine lv_if_eq (tgt := 44) S.1 S.2.1 dX4_read_37 (by decide) (fun _ => ?_) (fun c => absurd c (by decide))
              refine lv_iconst (v := 0) S.1 S.2.1 dX4_read_44 (by decide) ?_
              refine lv_istore_n (lv' := [(2, .int 0), (3, .int (nI o)), (0, .ref (G.2.2 37)), (1, .int (nI v))]) S.1 S.2.1 dX4_read_45 rfl hl (by decide) rfl (fun ls hl => ?_)
              refine lv_iinc (v := (nI (o + 1))) (lv' := [(3, .int (nI (o + 1))), (2, .int 0), (0, .ref (G.2.2 37)), (1, .int (nI v))]) S.1 S.2.1 dX4_read_46 hl (k := 1) rfl (u_inc1 o) (by decide) rfl (fun ls hl => ?_)
              refine lv_goto (tgt := 13) S.1 S.2.1 dX4_read_49 (by decide) ?_
              exact ih13 0 (o + 1) (by omega) (by omega) (by
                  first
                    | exact Or.inr ⟨rfl, hz2⟩
                    | exact Or.inl ⟨rfl, hz2.1, fun i hi => (by
                        rcases Nat.lt_or_ge i o with q | q
                        · exact hz2.2 i q
                        · obtain rfl : i = o := by omega
                          omega)⟩
                    | exact Or.inr ⟨rfl, fun q => by
                        have := q.2 o (by omega)
                        omega⟩) _ _ _ Z (lv_sub hl [0, 1, 2, 3] rfl)
        · skip
          subst hz1
          refine lv_iload_n S.1 S.2.1 dX4_read_13 rfl (lv_at hl 0 rfl) ?_
          refine lv_bipush (v := 8) S.1 S.2.1 dX4_read_14 (by decide) ?_
          refine lv_icmp_ge (tgt := 52) S.1 S.2.1 dX4_read_16 (by decide) (fun c_16 => ?_) (fun c_16 => ?_)
          · skip
            have c_16 : 8 ≤ o := (nI_leI (a := 8) (b := o) (by omega) (by omega)).mp c_16
            refine lv_iload_n S.1 S.2.1 dX4_read_52 rfl (lv_at hl 1 rfl) ?_
            refine uret_z S hK Z hre hlk (by decide) dX4_read_53 ?_
            exact ⟨Or.inr ⟨rfl, hz2⟩, rfl⟩
          · skip
            have c_16 : ¬ 8 ≤ o := fun z9 => c_16 ((nI_leI (a := 8) (b := o) (by omega) (by omega)).mpr z9)
            refine lv_iload_n S.1 S.2.1 dX4_read_19 rfl (lv_at hl 1 rfl) ?_
            refine lv_if_eq (tgt := 44) S.1 S.2.1 dX4_read_20 (by decide) (fun _ => ?_) (fun c => absurd c (by decide))
            refine lv_iconst (v := 0) S.1 S.2.1 dX4_read_44 (by decide) ?_
            refine lv_istore_n (lv' := [(2, .int 0), (3, .int (nI o)), (0, .ref (G.2.2 37)), (1, .int (nI v))]) S.1 S.2.1 dX4_read_45 rfl hl (by decide) rfl (fun ls hl => ?_)
            refine lv_iinc (v := (nI (o + 1))) (lv' := [(3, .int (nI (o + 1))), (2, .int 0), (0, .ref (G.2.2 37)), (1, .int (nI v))]) S.1 S.2.1 dX4_read_46 hl (k := 1) rfl (u_inc1 o) (by decide) rfl (fun ls hl => ?_)
            refine lv_goto (tgt := 13) S.1 S.2.1 dX4_read_49 (by decide) ?_
            exact ih13 0 (o + 1) (by omega) (by omega) (by
                first
                  | exact Or.inr ⟨rfl, hz2⟩
                  | exact Or.inl ⟨rfl, hz2.1, fun i hi => (by
                      rcases Nat.lt_or_ge i o with q | q
                      · exact hz2.2 i q
                      · obtain rfl : i = o := by omega
                        omega)⟩
                  | exact Or.inr ⟨rfl, fun q => by
                      have := q.2 o (by omega)
                      omega⟩) _ _ _ Z (lv_sub hl [0, 1, 2, 3] rfl)
    exact LP13 9 0 0 (by omega) (by omega) (by
        first
          | exact Or.inl ⟨rfl, w0, fun i hi => by omega⟩
          | exact Or.inr ⟨rfl, fun q => w0 q.1⟩) _ _ _ Z (lv_sub hl [0, 1, 2, 3] rfl)
set_option maxHeartbeats 4000000 in
set_option maxRecDepth 100000 in
theorem c_X4_readN (l : Launch) (G : uG) (x : Int32) (hx0 : x < 0) (M : uM) : CTi l G yX4_read wsX4_read 2 46 [.ref (G.2.2 37), .int x] M (fun r M2 => r = 0 ∧ ∀ a, a ≠ 38 → M2.1 a = M.1 a) := by
  refine ustart_i (cc := cX4_read) (maxL := 4) (ret := (some .boolean)) (own := RX4) rfl (by decide) rfl (Nat.le_of_ble_eq_true rfl) ?_
  intro xp xe xs xm xa xb xt xc xA ls S hK hA Z hre hlk hl
  have hl : lv_has ls 4 [(0, .ref (G.2.2 37)), (1, .int x)] := hl
  refine lv_iload_n S.1 S.2.1 dX4_read_0 rfl (lv_at hl 1 rfl) ?_
  refine lv_bipush (v := 8) S.1 S.2.1 dX4_read_1 (by decide) ?_
  refine lv_aload_n S.1 S.2.1 dX4_read_3 rfl (lv_at hl 0 rfl) ?_
  refine ug_r S hK Z (j := 0) 38 (by decide) rfl rfl rfl (by decide) iX4_read_X4 qX4_read_9 dX4_read_4 ?_
  refine uc_Si (As := [.int x, .int 8, .ref (G.2.2 38)]) (rest := []) S hK hA Z (c_X5_readDigitsN l G x 8 38 8 hx0 (by decide) (by decide) (by decide) rfl M) (va_cwS 3 S.2.2.2.2 gX4_read_X5_readDigits rfl rfl rfl (by decide +kernel) ⟨Nat.le_of_ble_eq_true rfl, Nat.le_of_ble_eq_true rfl⟩) rfl hl.1 rfl (Nat.le_of_ble_eq_true rfl) dX4_read_7 ⟨Nat.zero_le _, Nat.zero_le _⟩ (fun r_1 M_1 H locs hp Z => ?_)
  obtain ⟨hr_1, hM_1⟩ := hp
  refine utop hr_1 ?_
  refine lv_istore_n (lv' := [(2, .int 0), (0, .ref (G.2.2 37)), (1, .int x)]) S.1 S.2.1 dX4_read_10 rfl hl (by decide) rfl (fun ls hl => ?_)
  refine lv_iconst (v := 0) S.1 S.2.1 dX4_read_11 (by decide) ?_
  refine lv_istore_n (lv' := [(3, .int 0), (2, .int 0), (0, .ref (G.2.2 37)), (1, .int x)]) S.1 S.2.1 dX4_read_12 rfl hl (by decide) rfl (fun ls hl => ?_)
  have LP13 : ∀ (fU : Nat) (o : Nat), (8 < o + fU) → (o ≤ 8) → ∀ (H : Heap) (locs : List Loc) (ls : Array Slot), uZ G xA M_1 xs.heap H locs → lv_has ls 4 [(3, .int (nI o)), (2, .int 0), (0, .ref (G.2.2 37)), (1, .int x)] → W xp l xe (uRm 2 46) xs xm xa xb xt xc H locs 0 0 (MQ xb (va_Qi (fun r M2 => r = 0 ∧ ∀ a, a ≠ 38 → M2.1 a = M.1 a) (fun M' t => uB G M' t) xA) xa xs 0 0 xA) (F0 xm 13 ls []) := by
    intro fU
    induction fU with
    | zero =>
      intro o hfl i1 H locs ls Z hl
      exfalso
      omega
    | succ fU ih13 =>
      intro o hfl i1 H locs ls Z hl
      refine lv_iload_n S.1 S.2.1 dX4_read_13 rfl (lv_at hl 0 rfl) ?_
      refine lv_bipush (v := 8) S.1 S.2.1 dX4_read_14 (by decide) ?_
      refine lv_icmp_ge (tgt := 52) S.1 S.2.1 dX4_read_16 (by decide) (fun c_2 => ?_) (fun c_2 => ?_)
      · skip
        have c_2 : 8 ≤ o := (nI_leI (a := 8) (b := o) (by omega) (by omega)).mp c_2
        refine lv_iload_n S.1 S.2.1 dX4_read_52 rfl (lv_at hl 1 rfl) ?_
        refine uret_z S hK Z hre hlk (by decide) dX4_read_53 ?_
        exact ⟨rfl, hM_1⟩
      · skip
        have c_2 : ¬ 8 ≤ o := fun z9 => c_2 ((nI_leI (a := 8) (b := o) (by omega) (by omega)).mpr z9)
        refine lv_iload_n S.1 S.2.1 dX4_read_19 rfl (lv_at hl 1 rfl) ?_
        refine lv_if_eq (tgt := 44) S.1 S.2.1 dX4_read_20 (by decide) (fun _ => ?_) (fun c => absurd c (by decide))
        refine lv_iconst (v := 0) S.1 S.2.1 dX4_read_44 (by decide) ?_
        refine lv_istore_n (lv' := [(2, .int 0), (3, .int (nI o)), (0, .ref (G.2.2 37)), (1, .int x)]) S.1 S.2.1 dX4_read_45 rfl hl (by decide) rfl (fun ls hl => ?_)
        refine lv_iinc (v := (nI (o + 1))) (lv' := [(3, .int (nI (o + 1))), (2, .int 0), (0, .ref (G.2.2 37)), (1, .int x)]) S.1 S.2.1 dX4_read_46 hl (k := 1) rfl (u_inc1 o) (by decide) rfl (fun ls hl => ?_)
        refine lv_goto (tgt := 13) S.1 S.2.1 dX4_read_49 (by decide) ?_
        exact ih13 (o + 1) (by omega) (by omega) _ _ _ Z (lv_sub hl [0, 1, 2, 3] rfl)
  exact LP13 9 0 (by omega) (by omega) _ _ _ Z (lv_sub hl [0, 1, 2, 3] rfl)
set_option maxHeartbeats 4000000 in
set_option maxRecDepth 100000 in
theorem c_X4_follow (l : Launch) (G : uG) (o : Nat) (ho : o < 8) (M : uM) (rf pa no nx : Nat → Nat) (hnx : ∀ i, M.1 38 i = nI (nx i)) (hn8 : ∀ i, i < 8 → nx i < 8) : CTv l G yX4_follow wsX4_follow 1 22 [.ref (G.2.2 37), .int (nI o)] (uAr (uAr (uAr M 37 rf) 39 pa) 40 no) (fun M2 => ∃ N K rf2 pa2 no2, rEnd nx o N K ∧ M2 = uAr (uAr (uAr M 37 rf2) 39 pa2) 40 no2 ∧ rf2 3 = N ∧ rf2 4 = K ∧ rf2 5 = N - K ∧ ∀ i, i < N → pa2 i = it nx o i) := by
  refine ustart_v (cc := cX4_follow) (maxL := 3) (ret := none) (own := RX4) rfl (by decide) rfl (Nat.le_of_ble_eq_true rfl) ?_
  intro xp xe xs xm xa xb xt xc xA ls S hK hA Z hre hlk hl
  have hl : lv_has ls 3 [(0, .ref (G.2.2 37)), (1, .int (nI o))] := hl
  refine lv_aload_n S.1 S.2.1 dX4_follow_0 rfl (lv_at hl 0 rfl) ?_
  refine ug_r S hK Z (j := 2) 40 (by decide) rfl rfl rfl (by decide) iX4_follow_X4 qX4_follow_18 dX4_follow_1 ?_
  refine lv_bipush (v := (-6)) S.1 S.2.1 dX4_follow_4 (by decide) ?_
  refine ud_Sv (As := [.ref (G.2.2 40), .int (-6)]) (rest := []) S hK hA Z (c_X5_fill l G 40 8 (by decide) rfl (-6) (uAr (uAr (uAr M 37 rf) 39 pa) 40 no)) (va_cwS 2 S.2.2.2.2 gX4_follow_X5_fill rfl rfl rfl (by decide +kernel) ⟨Nat.le_of_ble_eq_true rfl, Nat.le_of_ble_eq_true rfl⟩) rfl hl.1 rfl (Nat.le_of_ble_eq_true rfl) dX4_follow_6 ⟨Nat.zero_le _, Nat.zero_le _⟩ (fun H locs Z => ?_)
  have Z := uZ_eq (M' := (uAr (uAr (uAr M 37 rf) 39 pa) 40 (fun i => if i < 8 then 4294967290 else no i))) (by rw [← n6]; exact (uAr_fill (uAr (uAr M 37 rf) 39 pa) 40 no 8 4294967290)) Z
  refine lv_aload_n S.1 S.2.1 dX4_follow_9 rfl (lv_at hl 0 rfl) ?_
  refine lv_iconst (v := 0) S.1 S.2.1 dX4_follow_10 (by decide) ?_
  refine up_i S hK Z (j := 3) (by decide) rfl rfl rfl (by decide) iX4_follow_X4 tyX4_ok nmX4 qX4_follow_39 rfl rfl rfl dX4_follow_11 (fun H locs Z => ?_)
  have Z := uZ_eq ((uAr_c (uAr (uAr M 37 rf) 39 pa) 40 (fun i => if i < 8 then 4294967290 else no i) (a := 37) 3 (nI 0) (by decide)).trans (congrArg (fun X => uAr X 40 (fun i => if i < 8 then 4294967290 else no i)) ((uAr_c (uAr M 37 rf) 39 pa (a := 37) 3 (nI 0) (by decide)).trans (congrArg (fun X => uAr X 39 pa) (uAr_s M 37 rf 3 0))))) Z
  refine lv_iload_n S.1 S.2.1 dX4_follow_14 rfl (lv_at hl 1 rfl) ?_
  refine lv_istore_n (lv' := [(2, .int (nI o)), (0, .ref (G.2.2 37)), (1, .int (nI o))]) S.1 S.2.1 dX4_follow_15 rfl hl (by decide) rfl (fun ls hl => ?_)
  have LP16 : ∀ (fU : Nat) (j : Nat) (h : Nat) (rf1 : Nat → Nat) (pa1 : Nat → Nat) (no1 : Nat → Nat), (8 < j + fU) → (j ≤ 8) → (rf1 3 = j) → (h = it nx o j) → (∀ i, i < j → pa1 i = it nx o i) → (∀ i, i < j → no1 (it nx o i) = i) → (∀ x, x < 8 → (∀ i, i < j → it nx o i ≠ x) → no1 x = 4294967290) → (∀ a b, a < b → b < j → it nx o a ≠ it nx o b) → ∀ (H : Heap) (locs : List Loc) (ls : Array Slot), uZ G xA (uAr (uAr (uAr M 37 rf1) 39 pa1) 40 no1) xs.heap H locs → lv_has ls 3 [(2, .int (nI h)), (0, .ref (G.2.2 37)), (1, .int (nI o))] → W xp l xe (uRm 1 22) xs xm xa xb xt xc H locs 0 0 (MQ xb (va_Qv (fun M2 => ∃ N K rf2 pa2 no2, rEnd nx o N K ∧ M2 = uAr (uAr (uAr M 37 rf2) 39 pa2) 40 no2 ∧ rf2 3 = N ∧ rf2 4 = K ∧ rf2 5 = N - K ∧ ∀ i, i < N → pa2 i = it nx o i) (fun M' t => uB G M' t) xA) xa xs 0 0 xA) (F0 xm 16 ls []) := by
    intro fU
    induction fU with
    | zero =>
      intro j h rf1 pa1 no1 hfl i1 i2 i3 i4 i5 i6 i7 H locs ls Z hl
      exfalso
      omega
    | succ fU ih16 =>
      intro j h rf1 pa1 no1 hfl i1 i2 i3 i4 i5 i6 i7 H locs ls Z hl
      have y0 : h < 8 := by rw [i3]; exact it_lt hn8 ho j
      have y1 : ∀ i, i < j → it nx o i = h → no1 h = i := fun i hi e => by rw [← e]; exact i5 i hi
      refine lv_aload_n S.1 S.2.1 dX4_follow_16 rfl (lv_at hl 1 rfl) ?_
      refine ug_i S hK Z (j := 3) (by decide) rfl rfl rfl (by decide) iX4_follow_X4 qX4_follow_39 dX4_follow_17 ?_
      refine utop (y := (nI (rf1 3))) ((uAr_o (uAr (uAr M 37 rf1) 39 pa1) 40 no1 3 (a := 37) (by decide)).trans ((uAr_o (uAr M 37 rf1) 39 pa1 3 (a := 37) (by decide)).trans (uAr_g M 37 rf1 3))) ?_
      refine lv_bipush (v := 8) S.1 S.2.1 dX4_follow_20 (by decide) ?_
      refine lv_icmp_ge (tgt := 84) S.1 S.2.1 dX4_follow_22 (by decide) (fun c_2 => ?_) (fun c_2 => ?_)
      · skip
        have c_2 : 8 ≤ (rf1 3) := (nI_leI (a := 8) (b := (rf1 3)) (by omega) (by omega)).mp c_2
        obtain ⟨K, hK1, hK2⟩ : ∃ K, K < j ∧ it nx o K = h := by
          by_cases hc : ∃ K, K < j ∧ it nx o K = h
          · exact hc
          · exfalso
            have hd : ∀ i, i < j → it nx o i ≠ h := fun i hi e => hc ⟨i, hi, e⟩
            have h6 := i6 h y0 hd
            first
              | (refine absurd ?_ c_2
                 rw [h6]
                 exact n6)
              | (obtain ⟨a, b, q1, q2, q3⟩ := php 8 (it nx o) (fun i _ => it_lt hn8 ho i)
                 obtain rfl : j = 8 := by omega
                 by_cases hb : b = 8
                 · subst hb
                   exact hd a q1 (by rw [q3, i3])
                 · exact i7 a b q1 (by omega) q3)
        have hj1 : 1 ≤ j := by omega
        have hnK := y1 K hK1 hK2
        refine lv_aload_n S.1 S.2.1 dX4_follow_84 rfl (lv_at hl 1 rfl) ?_
        refine lv_aload_n S.1 S.2.1 dX4_follow_85 rfl (lv_at hl 1 rfl) ?_
        refine ug_r S hK Z (j := 2) 40 (by decide) rfl rfl rfl (by decide) iX4_follow_X4 qX4_follow_18 dX4_follow_86 ?_
        refine lv_iload_n S.1 S.2.1 dX4_follow_89 rfl (lv_at hl 0 rfl) ?_
        refine ud_Si (As := [.ref (G.2.2 40), .int (nI h)]) (rest := [.ref (G.2.2 37)]) S hK hA Z (c_X5_at l G 40 8 h (by decide) rfl (by omega) (uAr (uAr (uAr M 37 rf1) 39 pa1) 40 no1)) (va_cwS 2 S.2.2.2.2 gX4_follow_X5_at rfl rfl rfl (by decide +kernel) ⟨Nat.le_of_ble_eq_true rfl, Nat.le_of_ble_eq_true rfl⟩) rfl hl.1 rfl (Nat.le_of_ble_eq_true rfl) dX4_follow_90 ⟨Nat.zero_le _, Nat.zero_le _⟩ (fun H locs Z => ?_)
        refine utop (y := (nI (no1 h))) (uAr_g (uAr (uAr M 37 rf1) 39 pa1) 40 no1 h) ?_
        refine up_i S hK Z (j := 4) (by decide) rfl rfl rfl (by decide) iX4_follow_X4 tyX4_ok nmX4 qX4_follow_47 rfl rfl rfl dX4_follow_93 (fun H locs Z => ?_)
        have Z := uZ_eq ((uAr_c (uAr (uAr M 37 rf1) 39 pa1) 40 no1 (a := 37) 4 (nI (no1 h)) (by decide)).trans (congrArg (fun X => uAr X 40 no1) ((uAr_c (uAr M 37 rf1) 39 pa1 (a := 37) 4 (nI (no1 h)) (by decide)).trans (congrArg (fun X => uAr X 39 pa1) (uAr_s M 37 rf1 4 (no1 h)))))) Z
        refine lv_aload_n S.1 S.2.1 dX4_follow_96 rfl (lv_at hl 1 rfl) ?_
        refine lv_aload_n S.1 S.2.1 dX4_follow_97 rfl (lv_at hl 1 rfl) ?_
        refine ug_i S hK Z (j := 3) (by decide) rfl rfl rfl (by decide) iX4_follow_X4 qX4_follow_39 dX4_follow_98 ?_
        refine utop (y := (nI ((fu rf1 4 (no1 h)) 3))) ((uAr_o (uAr (uAr M 37 (fu rf1 4 (no1 h))) 39 pa1) 40 no1 3 (a := 37) (by decide)).trans ((uAr_o (uAr M 37 (fu rf1 4 (no1 h))) 39 pa1 3 (a := 37) (by decide)).trans (uAr_g M 37 (fu rf1 4 (no1 h)) 3))) ?_
        refine lv_aload_n S.1 S.2.1 dX4_follow_101 rfl (lv_at hl 1 rfl) ?_
        refine ug_i S hK Z (j := 4) (by decide) rfl rfl rfl (by decide) iX4_follow_X4 qX4_follow_47 dX4_follow_102 ?_
        refine utop (y := (nI ((fu rf1 4 (no1 h)) 4))) ((uAr_o (uAr (uAr M 37 (fu rf1 4 (no1 h))) 39 pa1) 40 no1 4 (a := 37) (by decide)).trans ((uAr_o (uAr M 37 (fu rf1 4 (no1 h))) 39 pa1 4 (a := 37) (by decide)).trans (uAr_g M 37 (fu rf1 4 (no1 h)) 4))) ?_
        have y8 : (fu rf1 4 (no1 h)) 3 = j := by rw [fu_ne (by decide), i2]
        have y9 : (fu rf1 4 (no1 h)) 4 = K := by rw [fu_eq, hnK]
        refine lv_isub S.1 S.2.1 dX4_follow_105 ?_
        refine utop (pk_sub (a := ((fu rf1 4 (no1 h)) 3)) (b := ((fu rf1 4 (no1 h)) 4)) (by omega)) ?_
        refine up_i S hK Z (j := 5) (by decide) rfl rfl rfl (by decide) iX4_follow_X4 tyX4_ok nmX4 qX4_follow_50 rfl rfl rfl dX4_follow_106 (fun H locs Z => ?_)
        have Z := uZ_eq ((uAr_c (uAr (uAr M 37 (fu rf1 4 (no1 h))) 39 pa1) 40 no1 (a := 37) 5 (nI (((fu rf1 4 (no1 h)) 3) - ((fu rf1 4 (no1 h)) 4))) (by decide)).trans (congrArg (fun X => uAr X 40 no1) ((uAr_c (uAr M 37 (fu rf1 4 (no1 h))) 39 pa1 (a := 37) 5 (nI (((fu rf1 4 (no1 h)) 3) - ((fu rf1 4 (no1 h)) 4))) (by decide)).trans (congrArg (fun X => uAr X 39 pa1) (uAr_s M 37 (fu rf1 4 (no1 h)) 5 (((fu rf1 4 (no1 h)) 3) - ((fu rf1 4 (no1 h)) 4))))))) Z
        refine uret_v S hK Z hre hlk dX4_follow_109 ?_
        refine ⟨j, K, _, _, _, ⟨hj1, i1, hK1, by rw [← i3]; exact hK2, i7⟩, rfl, ?_, ?_, ?_, i4⟩
        · rw [fu_ne (by decide), fu_ne (by decide), i2]
        · rw [fu_ne (by decide), fu_eq, hnK]
        · rw [fu_eq]
          rw [fu_ne (by decide), fu_eq, i2, hnK]
      · skip
        have c_2 : ¬ 8 ≤ (rf1 3) := fun z9 => c_2 ((nI_leI (a := 8) (b := (rf1 3)) (by omega) (by omega)).mpr z9)
        refine lv_aload_n S.1 S.2.1 dX4_follow_25 rfl (lv_at hl 1 rfl) ?_
        refine ug_r S hK Z (j := 2) 40 (by decide) rfl rfl rfl (by decide) iX4_follow_X4 qX4_follow_18 dX4_follow_26 ?_
        refine lv_iload_n S.1 S.2.1 dX4_follow_29 rfl (lv_at hl 0 rfl) ?_
        refine ud_Si (As := [.ref (G.2.2 40), .int (nI h)]) (rest := []) S hK hA Z (c_X5_at l G 40 8 h (by decide) rfl (by omega) (uAr (uAr (uAr M 37 rf1) 39 pa1) 40 no1)) (va_cwS 2 S.2.2.2.2 gX4_follow_X5_at rfl rfl rfl (by decide +kernel) ⟨Nat.le_of_ble_eq_true rfl, Nat.le_of_ble_eq_true rfl⟩) rfl hl.1 rfl (Nat.le_of_ble_eq_true rfl) dX4_follow_30 ⟨Nat.zero_le _, Nat.zero_le _⟩ (fun H locs Z => ?_)
        refine utop (y := (nI (no1 h))) (uAr_g (uAr (uAr M 37 rf1) 39 pa1) 40 no1 h) ?_
        refine lv_bipush (v := (-6)) S.1 S.2.1 dX4_follow_33 (by decide) ?_
        refine lv_icmp_ne (tgt := 84) S.1 S.2.1 dX4_follow_35 (by decide) (fun c_5 => ?_) (fun c_5 => ?_)
        · skip
          obtain ⟨K, hK1, hK2⟩ : ∃ K, K < j ∧ it nx o K = h := by
            by_cases hc : ∃ K, K < j ∧ it nx o K = h
            · exact hc
            · exfalso
              have hd : ∀ i, i < j → it nx o i ≠ h := fun i hi e => hc ⟨i, hi, e⟩
              have h6 := i6 h y0 hd
              first
                | (refine absurd ?_ c_5
                   rw [h6]
                   exact n6)
                | (obtain ⟨a, b, q1, q2, q3⟩ := php 8 (it nx o) (fun i _ => it_lt hn8 ho i)
                   obtain rfl : j = 8 := by omega
                   by_cases hb : b = 8
                   · subst hb
                     exact hd a q1 (by rw [q3, i3])
                   · exact i7 a b q1 (by omega) q3)
          have hj1 : 1 ≤ j := by omega
          have hnK := y1 K hK1 hK2
          refine lv_aload_n S.1 S.2.1 dX4_follow_84 rfl (lv_at hl 1 rfl) ?_
          refine lv_aload_n S.1 S.2.1 dX4_follow_85 rfl (lv_at hl 1 rfl) ?_
          refine ug_r S hK Z (j := 2) 40 (by decide) rfl rfl rfl (by decide) iX4_follow_X4 qX4_follow_18 dX4_follow_86 ?_
          refine lv_iload_n S.1 S.2.1 dX4_follow_89 rfl (lv_at hl 0 rfl) ?_
          refine ud_Si (As := [.ref (G.2.2 40), .int (nI h)]) (rest := [.ref (G.2.2 37)]) S hK hA Z (c_X5_at l G 40 8 h (by decide) rfl (by omega) (uAr (uAr (uAr M 37 rf1) 39 pa1) 40 no1)) (va_cwS 2 S.2.2.2.2 gX4_follow_X5_at rfl rfl rfl (by decide +kernel) ⟨Nat.le_of_ble_eq_true rfl, Nat.le_of_ble_eq_true rfl⟩) rfl hl.1 rfl (Nat.le_of_ble_eq_true rfl) dX4_follow_90 ⟨Nat.zero_le _, Nat.zero_le _⟩ (fun H locs Z => ?_)
          refine utop (y := (nI (no1 h))) (uAr_g (uAr (uAr M 37 rf1) 39 pa1) 40 no1 h) ?_
          refine up_i S hK Z (j := 4) (by decide) rfl rfl rfl (by decide) iX4_follow_X4 tyX4_ok nmX4 qX4_follow_47 rfl rfl rfl dX4_follow_93 (fun H locs Z => ?_)
          have Z := uZ_eq ((uAr_c (uAr (uAr M 37 rf1) 39 pa1) 40 no1 (a := 37) 4 (nI (no1 h)) (by decide)).trans (congrArg (fun X => uAr X 40 no1) ((uAr_c (uAr M 37 rf1) 39 pa1 (a := 37) 4 (nI (no1 h)) (by decide)).trans (congrArg (fun X => uAr X 39 pa1) (uAr_s M 37 rf1 4 (no1 h)))))) Z
          refine lv_aload_n S.1 S.2.1 dX4_follow_96 rfl (lv_at hl 1 rfl) ?_
          refine lv_aload_n S.1 S.2.1 dX4_follow_97 rfl (lv_at hl 1 rfl) ?_
          refine ug_i S hK Z (j := 3) (by decide) rfl rfl rfl (by decide) iX4_follow_X4 qX4_follow_39 dX4_follow_98 ?_
          refine utop (y := (nI ((fu rf1 4 (no1 h)) 3))) ((uAr_o (uAr (uAr M 37 (fu rf1 4 (no1 h))) 39 pa1) 40 no1 3 (a := 37) (by decide)).trans ((uAr_o (uAr M 37 (fu rf1 4 (no1 h))) 39 pa1 3 (a := 37) (by decide)).trans (uAr_g M 37 (fu rf1 4 (no1 h)) 3))) ?_
          refine lv_aload_n S.1 S.2.1 dX4_follow_101 rfl (lv_at hl 1 rfl) ?_
          refine ug_i S hK Z (j := 4) (by decide) rfl rfl rfl (by decide) iX4_follow_X4 qX4_follow_47 dX4_follow_102 ?_
          refine utop (y := (nI ((fu rf1 4 (no1 h)) 4))) ((uAr_o (uAr (uAr M 37 (fu rf1 4 (no1 h))) 39 pa1) 40 no1 4 (a := 37) (by decide)).trans ((uAr_o (uAr M 37 (fu rf1 4 (no1 h))) 39 pa1 4 (a := 37) (by decide)).trans (uAr_g M 37 (fu rf1 4 (no1 h)) 4))) ?_
          have y8 : (fu rf1 4 (no1 h)) 3 = j := by rw [fu_ne (by decide), i2]
          have y9 : (fu rf1 4 (no1 h)) 4 = K := by rw [fu_eq, hnK]
          refine lv_isub S.1 S.2.1 dX4_follow_105 ?_
          refine utop (pk_sub (a := ((fu rf1 4 (no1 h)) 3)) (b := ((fu rf1 4 (no1 h)) 4)) (by omega)) ?_
          refine up_i S hK Z (j := 5) (by decide) rfl rfl rfl (by decide) iX4_follow_X4 tyX4_ok nmX4 qX4_follow_50 rfl rfl rfl dX4_follow_106 (fun H locs Z => ?_)
          have Z := uZ_eq ((uAr_c (uAr (uAr M 37 (fu rf1 4 (no1 h))) 39 pa1) 40 no1 (a := 37) 5 (nI (((fu rf1 4 (no1 h)) 3) - ((fu rf1 4 (no1 h)) 4))) (by decide)).trans (congrArg (fun X => uAr X 40 no1) ((uAr_c (uAr M 37 (fu rf1 4 (no1 h))) 39 pa1 (a := 37) 5 (nI (((fu rf1 4 (no1 h)) 3) - ((fu rf1 4 (no1 h)) 4))) (by decide)).trans (congrArg (fun X => uAr X 39 pa1) (uAr_s M 37 (fu rf1 4 (no1 h)) 5 (((fu rf1 4 (no1 h)) 3) - ((fu rf1 4 (no1 h)) 4))))))) Z
          refine uret_v S hK Z hre hlk dX4_follow_109 ?_
          refine ⟨j, K, _, _, _, ⟨hj1, i1, hK1, by rw [← i3]; exact hK2, i7⟩, rfl, ?_, ?_, ?_, i4⟩
          · rw [fu_ne (by decide), fu_ne (by decide), i2]
          · rw [fu_ne (by decide), fu_eq, hnK]
          · rw [fu_eq]
            rw [fu_ne (by decide), fu_eq, i2, hnK]
        · skip
          have y2 : ∀ i, i < j → it nx o i ≠ h := fun i hi e => by
            have e2 := y1 i hi e
            have e3 := c_5
            rw [e2] at e3
            exact nI_nm6 (by omega) e3
          refine lv_aload_n S.1 S.2.1 dX4_follow_38 rfl (lv_at hl 1 rfl) ?_
          refine ug_r S hK Z (j := 2) 40 (by decide) rfl rfl rfl (by decide) iX4_follow_X4 qX4_follow_18 dX4_follow_39 ?_
          refine lv_iload_n S.1 S.2.1 dX4_follow_42 rfl (lv_at hl 0 rfl) ?_
          refine lv_aload_n S.1 S.2.1 dX4_follow_43 rfl (lv_at hl 1 rfl) ?_
          refine ug_i S hK Z (j := 3) (by decide) rfl rfl rfl (by decide) iX4_follow_X4 qX4_follow_39 dX4_follow_44 ?_
          refine utop (y := (nI (rf1 3))) ((uAr_o (uAr (uAr M 37 rf1) 39 pa1) 40 no1 3 (a := 37) (by decide)).trans ((uAr_o (uAr M 37 rf1) 39 pa1 3 (a := 37) (by decide)).trans (uAr_g M 37 rf1 3))) ?_
          refine ud_Sv (As := [.ref (G.2.2 40), .int (nI h), .int (nI (rf1 3))]) (rest := []) S hK hA Z (c_X5_put l G 40 8 h (by decide) rfl (by omega) (nI (rf1 3)) (uAr (uAr (uAr M 37 rf1) 39 pa1) 40 no1)) (va_cwS 3 S.2.2.2.2 gX4_follow_X5_put rfl rfl rfl (by decide +kernel) ⟨Nat.le_of_ble_eq_true rfl, Nat.le_of_ble_eq_true rfl⟩) rfl hl.1 rfl (Nat.le_of_ble_eq_true rfl) dX4_follow_47 ⟨Nat.zero_le _, Nat.zero_le _⟩ (fun H locs Z => ?_)
          have Z := uZ_eq (uAr_s (uAr (uAr M 37 rf1) 39 pa1) 40 no1 h (rf1 3)) Z
          refine lv_aload_n S.1 S.2.1 dX4_follow_50 rfl (lv_at hl 1 rfl) ?_
          refine ug_r S hK Z (j := 1) 39 (by decide) rfl rfl rfl (by decide) iX4_follow_X4 qX4_follow_15 dX4_follow_51 ?_
          refine lv_aload_n S.1 S.2.1 dX4_follow_54 rfl (lv_at hl 1 rfl) ?_
          refine ug_i S hK Z (j := 3) (by decide) rfl rfl rfl (by decide) iX4_follow_X4 qX4_follow_39 dX4_follow_55 ?_
          refine utop (y := (nI (rf1 3))) ((uAr_o (uAr (uAr M 37 rf1) 39 pa1) 40 (fu no1 h (rf1 3)) 3 (a := 37) (by decide)).trans ((uAr_o (uAr M 37 rf1) 39 pa1 3 (a := 37) (by decide)).trans (uAr_g M 37 rf1 3))) ?_
          refine lv_iload_n S.1 S.2.1 dX4_follow_58 rfl (lv_at hl 0 rfl) ?_
          refine ud_Sv (As := [.ref (G.2.2 39), .int (nI (rf1 3)), .int (nI h)]) (rest := []) S hK hA Z (c_X5_put l G 39 8 (rf1 3) (by decide) rfl (by omega) (nI h) (uAr (uAr (uAr M 37 rf1) 39 pa1) 40 (fu no1 h (rf1 3)))) (va_cwS 3 S.2.2.2.2 gX4_follow_X5_put rfl rfl rfl (by decide +kernel) ⟨Nat.le_of_ble_eq_true rfl, Nat.le_of_ble_eq_true rfl⟩) rfl hl.1 rfl (Nat.le_of_ble_eq_true rfl) dX4_follow_59 ⟨Nat.zero_le _, Nat.zero_le _⟩ (fun H locs Z => ?_)
          have Z := uZ_eq ((uAr_c (uAr (uAr M 37 rf1) 39 pa1) 40 (fu no1 h (rf1 3)) (a := 39) (rf1 3) (nI h) (by decide)).trans (congrArg (fun X => uAr X 40 (fu no1 h (rf1 3))) (uAr_s (uAr M 37 rf1) 39 pa1 (rf1 3) h))) Z
          refine lv_aload_n S.1 S.2.1 dX4_follow_62 rfl (lv_at hl 1 rfl) ?_
          refine ug_r S hK Z (j := 0) 38 (by decide) rfl rfl rfl (by decide) iX4_follow_X4 qX4_follow_9 dX4_follow_63 ?_
          refine lv_iload_n S.1 S.2.1 dX4_follow_66 rfl (lv_at hl 0 rfl) ?_
          refine ud_Si (As := [.ref (G.2.2 38), .int (nI h)]) (rest := []) S hK hA Z (c_X5_at l G 38 8 h (by decide) rfl (by omega) (uAr (uAr (uAr M 37 rf1) 39 (fu pa1 (rf1 3) h)) 40 (fu no1 h (rf1 3)))) (va_cwS 2 S.2.2.2.2 gX4_follow_X5_at rfl rfl rfl (by decide +kernel) ⟨Nat.le_of_ble_eq_true rfl, Nat.le_of_ble_eq_true rfl⟩) rfl hl.1 rfl (Nat.le_of_ble_eq_true rfl) dX4_follow_67 ⟨Nat.zero_le _, Nat.zero_le _⟩ (fun H locs Z => ?_)
          refine utop (y := (nI (nx h))) ((uAr_o (uAr (uAr M 37 rf1) 39 (fu pa1 (rf1 3) h)) 40 (fu no1 h (rf1 3)) h (a := 38) (by decide)).trans ((uAr_o (uAr M 37 rf1) 39 (fu pa1 (rf1 3) h) h (a := 38) (by decide)).trans ((uAr_o M 37 rf1 h (a := 38) (by decide)).trans (hnx h)))) ?_
          refine lv_istore_n (lv' := [(2, .int (nI (nx h))), (0, .ref (G.2.2 37)), (1, .int (nI o))]) S.1 S.2.1 dX4_follow_70 rfl hl (by decide) rfl (fun ls hl => ?_)
          refine lv_aload_n S.1 S.2.1 dX4_follow_71 rfl (lv_at hl 1 rfl) ?_
          refine lv_dup S.1 S.2.1 dX4_follow_72 rfl ?_
          refine ug_i S hK Z (j := 3) (by decide) rfl rfl rfl (by decide) iX4_follow_X4 qX4_follow_39 dX4_follow_73 ?_
          refine utop (y := (nI (rf1 3))) ((uAr_o (uAr (uAr M 37 rf1) 39 (fu pa1 (rf1 3) h)) 40 (fu no1 h (rf1 3)) 3 (a := 37) (by decide)).trans ((uAr_o (uAr M 37 rf1) 39 (fu pa1 (rf1 3) h) 3 (a := 37) (by decide)).trans (uAr_g M 37 rf1 3))) ?_
          refine lv_iconst (v := 1) S.1 S.2.1 dX4_follow_76 (by decide) ?_
          refine lv_iadd S.1 S.2.1 dX4_follow_77 ?_
          refine utop (nI_add (rf1 3) 1) ?_
          refine up_i S hK Z (j := 3) (by decide) rfl rfl rfl (by decide) iX4_follow_X4 tyX4_ok nmX4 qX4_follow_39 rfl rfl rfl dX4_follow_78 (fun H locs Z => ?_)
          have Z := uZ_eq ((uAr_c (uAr (uAr M 37 rf1) 39 (fu pa1 (rf1 3) h)) 40 (fu no1 h (rf1 3)) (a := 37) 3 (nI ((rf1 3) + 1)) (by decide)).trans (congrArg (fun X => uAr X 40 (fu no1 h (rf1 3))) ((uAr_c (uAr M 37 rf1) 39 (fu pa1 (rf1 3) h) (a := 37) 3 (nI ((rf1 3) + 1)) (by decide)).trans (congrArg (fun X => uAr X 39 (fu pa1 (rf1 3) h)) (uAr_s M 37 rf1 3 ((rf1 3) + 1)))))) Z
          refine lv_goto (tgt := 16) S.1 S.2.1 dX4_follow_81 (by decide) ?_
          exact ih16 (j + 1) (nx h) (fu rf1 3 ((rf1 3) + 1)) (fu pa1 (rf1 3) h) (fu no1 h (rf1 3)) (by omega) (by omega) (by rw [fu_eq]; omega) (by rw [it, ← i3]) (by
              intro i hi
              rw [i2]
              by_cases z : i = j
              · subst z
                rw [fu_eq, i3]
              · rw [fu_ne z]
                exact i4 i (by omega)) (by
              intro i hi
              by_cases z : i = j
              · subst z
                rw [← i3, fu_eq, i2]
              · rw [fu_ne (fun y => y2 i (by omega) y)]
                exact i5 i (by omega)) (by
              intro x hx hi
              rw [fu_ne (fun y => hi j (by omega) (by rw [y, i3]))]
              exact i6 x hx (fun i hi2 => hi i (by omega))) (by
              intro a b hab hb
              by_cases z : b = j
              · subst z
                rw [← i3]
                exact y2 a hab
              · exact i7 a b hab (by omega)) _ _ _ Z (lv_sub hl [0, 1, 2] rfl)
  exact LP16 9 0 o (fu rf 3 0) pa (fun i => if i < 8 then 4294967290 else no i) (by omega) (by omega) (by rw [fu_eq]) (by rfl) (by intro i hi; omega) (by intro i hi; omega) (by intro x hx _; exact if_pos hx) (by intro a b _ hb; omega) _ _ _ Z (lv_sub hl [0, 1, 2] rfl)
set_option maxHeartbeats 4000000 in
set_option maxRecDepth 100000 in
theorem c_X4_holderBehind (l : Launch) (G : uG) (m : Nat) (hm : m < 1000000000) (M : uM) (N K : Nat) (rf pa : Nat → Nat) (h37 : ∀ i, M.1 37 i = nI (rf i)) (h39 : ∀ i, M.1 39 i = nI (pa i)) (h3 : rf 3 = N) (h4 : rf 4 = K) (h5 : rf 5 = N - K) (hN : N ≤ 8) (hK : K < N) : CTi l G yX4_holderBehind wsX4_holderBehind 1 21 [.ref (G.2.2 37), .int (nI m)] M (fun r M2 => r = nI (pa (if m < N then m else K + (m - K) % (N - K))) ∧ M2 = M) := by
  refine ustart_i (cc := cX4_holderBehind) (maxL := 2) (ret := (some .int)) (own := RX4) rfl (by decide) rfl (Nat.le_of_ble_eq_true rfl) ?_
  intro xp xe xs xm xa xb xt xc xA ls S hK hA Z hre hlk hl
  have hl : lv_has ls 2 [(0, .ref (G.2.2 37)), (1, .int (nI m))] := hl
  refine lv_iload_n S.1 S.2.1 dX4_holderBehind_0 rfl (lv_at hl 1 rfl) ?_
  refine lv_aload_n S.1 S.2.1 dX4_holderBehind_1 rfl (lv_at hl 0 rfl) ?_
  refine ug_i S hK Z (j := 3) (by decide) rfl rfl rfl (by decide) iX4_holderBehind_X4 qX4_holderBehind_39 dX4_holderBehind_2 ?_
  refine utop (y := (nI (rf 3))) (h37 3) ?_
  refine lv_icmp_lt (tgt := 15) S.1 S.2.1 dX4_holderBehind_5 (by decide) (fun c_1 => ?_) (fun c_1 => ?_)
  · skip
    have c_1 : m < (rf 3) := (nI_ltI (a := m) (b := (rf 3)) (by omega) (by omega)).mp c_1
    have y0 : m < N := by omega
    refine lv_aload_n S.1 S.2.1 dX4_holderBehind_15 rfl (lv_at hl 0 rfl) ?_
    refine ug_r S hK Z (j := 1) 39 (by decide) rfl rfl rfl (by decide) iX4_holderBehind_X4 qX4_holderBehind_15 dX4_holderBehind_16 ?_
    refine lv_iload_n S.1 S.2.1 dX4_holderBehind_19 rfl (lv_at hl 1 rfl) ?_
    refine ud_Si (As := [.ref (G.2.2 39), .int (nI m)]) (rest := []) S hK hA Z (c_X5_at l G 39 8 m (by decide) rfl (by omega) M) (va_cwS 2 S.2.2.2.2 gX4_holderBehind_X5_at rfl rfl rfl (by decide +kernel) ⟨Nat.le_of_ble_eq_true rfl, Nat.le_of_ble_eq_true rfl⟩) rfl hl.1 rfl (Nat.le_of_ble_eq_true rfl) dX4_holderBehind_20 ⟨Nat.zero_le _, Nat.zero_le _⟩ (fun H locs Z => ?_)
    refine utop (y := (nI (pa m))) (h39 m) ?_
    refine uret_i S hK Z hre hlk dX4_holderBehind_23 ?_
    exact ⟨by rw [if_pos y0], rfl⟩
  · skip
    have c_1 : ¬ m < (rf 3) := fun z9 => c_1 ((nI_ltI (a := m) (b := (rf 3)) (by omega) (by omega)).mpr z9)
    refine lv_aload_n S.1 S.2.1 dX4_holderBehind_8 rfl (lv_at hl 0 rfl) ?_
    refine ug_i S hK Z (j := 5) (by decide) rfl rfl rfl (by decide) iX4_holderBehind_X4 qX4_holderBehind_50 dX4_holderBehind_9 ?_
    refine utop (y := (nI (rf 5))) (h37 5) ?_
    refine lv_if_gt (tgt := 24) S.1 S.2.1 dX4_holderBehind_12 (by decide) (fun c_3 => ?_) (fun c_3 => ?_)
    · skip
      have c_3 : 0 < (rf 5) := (nI_ltI (a := 0) (b := (rf 5)) (by omega) (by omega)).mp c_3
      have y0 : ¬ m < N := by omega
      have y1 : rf 4 + (m - rf 4) % rf 5 < 8 := by
        rw [h4, h5]
        have := Nat.mod_lt (m - K) (show 0 < N - K by omega)
        omega
      refine lv_aload_n S.1 S.2.1 dX4_holderBehind_24 rfl (lv_at hl 0 rfl) ?_
      refine ug_r S hK Z (j := 1) 39 (by decide) rfl rfl rfl (by decide) iX4_holderBehind_X4 qX4_holderBehind_15 dX4_holderBehind_25 ?_
      refine lv_aload_n S.1 S.2.1 dX4_holderBehind_28 rfl (lv_at hl 0 rfl) ?_
      refine ug_i S hK Z (j := 4) (by decide) rfl rfl rfl (by decide) iX4_holderBehind_X4 qX4_holderBehind_47 dX4_holderBehind_29 ?_
      refine utop (y := (nI (rf 4))) (h37 4) ?_
      refine lv_iload_n S.1 S.2.1 dX4_holderBehind_32 rfl (lv_at hl 1 rfl) ?_
      refine lv_aload_n S.1 S.2.1 dX4_holderBehind_33 rfl (lv_at hl 0 rfl) ?_
      refine ug_i S hK Z (j := 4) (by decide) rfl rfl rfl (by decide) iX4_holderBehind_X4 qX4_holderBehind_47 dX4_holderBehind_34 ?_
      refine utop (y := (nI (rf 4))) (h37 4) ?_
      refine lv_isub S.1 S.2.1 dX4_holderBehind_37 ?_
      refine utop (pk_sub (a := m) (b := (rf 4)) (by omega)) ?_
      refine lv_aload_n S.1 S.2.1 dX4_holderBehind_38 rfl (lv_at hl 0 rfl) ?_
      refine ug_i S hK Z (j := 5) (by decide) rfl rfl rfl (by decide) iX4_holderBehind_X4 qX4_holderBehind_50 dX4_holderBehind_39 ?_
      refine utop (y := (nI (rf 5))) (h37 5) ?_
      refine lv_irem S.1 S.2.1 dX4_holderBehind_42 (nI_ne0 (by omega) (by omega)) ?_
      refine utop (pk_rem (a := (m - (rf 4))) (d := (rf 5)) (by omega) (by omega) (by omega)) ?_
      refine lv_iadd S.1 S.2.1 dX4_holderBehind_43 ?_
      refine utop (nI_add (rf 4) ((m - (rf 4)) % (rf 5))) ?_
      refine ud_Si (As := [.ref (G.2.2 39), .int (nI ((rf 4) + ((m - (rf 4)) % (rf 5))))]) (rest := []) S hK hA Z (c_X5_at l G 39 8 ((rf 4) + ((m - (rf 4)) % (rf 5))) (by decide) rfl (by omega) M) (va_cwS 2 S.2.2.2.2 gX4_holderBehind_X5_at rfl rfl rfl (by decide +kernel) ⟨Nat.le_of_ble_eq_true rfl, Nat.le_of_ble_eq_true rfl⟩) rfl hl.1 rfl (Nat.le_of_ble_eq_true rfl) dX4_holderBehind_44 ⟨Nat.zero_le _, Nat.zero_le _⟩ (fun H locs Z => ?_)
      refine utop (y := (nI (pa ((rf 4) + ((m - (rf 4)) % (rf 5)))))) (h39 ((rf 4) + ((m - (rf 4)) % (rf 5)))) ?_
      refine uret_i S hK Z hre hlk dX4_holderBehind_47 ?_
      exact ⟨by rw [if_neg y0, h4, h5], rfl⟩
    · skip
      have c_3 : ¬ 0 < (rf 5) := fun z9 => c_3 ((nI_ltI (a := 0) (b := (rf 5)) (by omega) (by omega)).mpr z9)
      have y0 : m < N := by omega
      refine lv_aload_n S.1 S.2.1 dX4_holderBehind_15 rfl (lv_at hl 0 rfl) ?_
      refine ug_r S hK Z (j := 1) 39 (by decide) rfl rfl rfl (by decide) iX4_holderBehind_X4 qX4_holderBehind_15 dX4_holderBehind_16 ?_
      refine lv_iload_n S.1 S.2.1 dX4_holderBehind_19 rfl (lv_at hl 1 rfl) ?_
      refine ud_Si (As := [.ref (G.2.2 39), .int (nI m)]) (rest := []) S hK hA Z (c_X5_at l G 39 8 m (by decide) rfl (by omega) M) (va_cwS 2 S.2.2.2.2 gX4_holderBehind_X5_at rfl rfl rfl (by decide +kernel) ⟨Nat.le_of_ble_eq_true rfl, Nat.le_of_ble_eq_true rfl⟩) rfl hl.1 rfl (Nat.le_of_ble_eq_true rfl) dX4_holderBehind_20 ⟨Nat.zero_le _, Nat.zero_le _⟩ (fun H locs Z => ?_)
      refine utop (y := (nI (pa m))) (h39 m) ?_
      refine uret_i S hK Z hre hlk dX4_holderBehind_23 ?_
      exact ⟨by rw [if_pos y0], rfl⟩
