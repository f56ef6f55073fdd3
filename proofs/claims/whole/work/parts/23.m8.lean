theorem dg_step {v rs q : Nat} (hr : rs = v / 10 ^ (8 - (q + 1))) (hq : q < 8) : rs % 10 = dg v 8 q := by
  rw [hr]
  unfold dg
  rw [show 8 - (q + 1) = 8 - 1 - q from by omega]
theorem mSm_86 {M : uM} {f : Nat → Nat} : mSm M (uAr M 86 f) := mSm_r (mSm_rf _) (by decide)
theorem ring_m {m N K : Nat} (hK : K < N) : (if m < K then m else K + (m - K) % (N - K)) = (if m < N then m else K + (m - K) % (N - K)) := by
  by_cases h : m < K
  · rw [if_pos h, if_pos (by omega)]
  · rw [if_neg h]
    by_cases h2 : m < N
    · rw [if_pos h2, Nat.mod_eq_of_lt (by omega)]
      omega
    · rw [if_neg h2]
theorem it_dg {nx : Nat → Nat} {v x : Nat} (h : ∀ i, i < 8 → nx i = dg v 8 i) (h8 : rOk v) (hx : x < 8) : ∀ j, it nx x j = it (dg v 8) x j := it_congr h (fun i hi => by
  rw [h i hi]
  have := h8.2 i hi
  omega) hx
theorem qX12_readRing_52 : Cond.fieldLink RX12 52 (TX12 25).1 (TX12 25).2.1 (TX12 25).2.2.1 ∈ wsX12_readRing := List.mem_of_getElem? (i := 1) rfl
theorem iX12_readRing_X12 : ∀ w ∈ wsX120, w ∈ wsX12_readRing := fun _ h => List.mem_cons_of_mem _ (List.mem_append_right _ h)
theorem qX12_goRing_55 : Cond.fieldLink RX12 55 (TX12 26).1 (TX12 26).2.1 (TX12 26).2.2.1 ∈ wsX12_goRing := List.mem_of_getElem? (i := 1) rfl
theorem iX12_goRing_X12 : ∀ w ∈ wsX120, w ∈ wsX12_goRing := fun _ h => List.mem_cons_of_mem _ (List.mem_append_right _ h)
theorem qX12_goRing_52 : Cond.fieldLink RX12 52 (TX12 25).1 (TX12 25).2.1 (TX12 25).2.2.1 ∈ wsX12_goRing := List.mem_of_getElem? (i := 2) rfl
theorem qX12_walk_52 : Cond.fieldLink RX12 52 (TX12 25).1 (TX12 25).2.1 (TX12 25).2.2.1 ∈ wsX12_walk := List.mem_of_getElem? (i := 1) rfl
theorem iX12_walk_X12 : ∀ w ∈ wsX120, w ∈ wsX12_walk := fun _ h => List.mem_cons_of_mem _ (List.mem_append_right _ h)
theorem qX12_ring_264 : Cond.constantLong RX12 264 999999999 ∈ wsX12_ring := List.mem_of_getElem? (i := 1) rfl
theorem qX12_ring_237 : Cond.constantLong RX12 237 2 ∈ wsX12_ring := List.mem_of_getElem? (i := 2) rfl
theorem qX12_ring_55 : Cond.fieldLink RX12 55 (TX12 26).1 (TX12 26).2.1 (TX12 26).2.2.1 ∈ wsX12_ring := List.mem_of_getElem? (i := 3) rfl
theorem iX12_ring_X12 : ∀ w ∈ wsX120, w ∈ wsX12_ring := fun _ h => List.mem_cons_of_mem _ (List.mem_append_right _ h)
set_option maxHeartbeats 4000000 in
set_option maxRecDepth 100000 in
theorem c_X12_readRingP (l : Launch) (G : uG) (v : Nat) (hv : v < 2147483648) (M : uM) (nx0 : Nat → Nat) : CTi l G yX12_readRing wsX12_readRing 0 0 [.ref (G.2.2 71), .int (nI v)] (uAr M 86 nx0) (fun r M2 => ∃ nx, M2 = uAr M 86 nx ∧ ((r = 1 ∧ rOk v ∧ ∀ i, i < 8 → nx i = dg v 8 i) ∨ (r = 0 ∧ ¬ rOk v))) := by
  refine ustart_i (cc := cX12_readRing) (maxL := 5) (ret := (some .boolean)) (own := RX12) rfl (by decide) rfl (Nat.le_of_ble_eq_true rfl) ?_
  intro xp xe xs xm xa xb xt xc xA ls S hK hA Z hre hlk hl
  have hl : lv_has ls 5 [(0, .ref (G.2.2 71)), (1, .int (nI v))] := hl
  refine lv_iload_n S.1 S.2.1 dX12_readRing_0 rfl (lv_at hl 1 rfl) ?_
  refine lv_istore_n (lv' := [(2, .int (nI v)), (0, .ref (G.2.2 71)), (1, .int (nI v))]) S.1 S.2.1 dX12_readRing_1 rfl hl (by decide) rfl (fun ls hl => ?_)
  refine lv_iload_n S.1 S.2.1 dX12_readRing_2 rfl (lv_at hl 2 rfl) ?_
  refine lv_if_lt (tgt := 10) S.1 S.2.1 dX12_readRing_3 (by decide) (fun c_1 => ?_) (fun c_1 => ?_)
  · skip
    have c_1 : v < 0 := (nI_ltI (a := v) (b := 0) (by omega) (by omega)).mp c_1
    omega
  · skip
    have c_1 : ¬ v < 0 := fun z9 => c_1 ((nI_ltI (a := v) (b := 0) (by omega) (by omega)).mpr z9)
    refine lv_iconst (v := 1) S.1 S.2.1 dX12_readRing_6 (by decide) ?_
    refine lv_goto (tgt := 11) S.1 S.2.1 dX12_readRing_7 (by decide) ?_
    refine lv_istore_n (lv' := [(3, .int 1), (2, .int (nI v)), (0, .ref (G.2.2 71)), (1, .int (nI v))]) S.1 S.2.1 dX12_readRing_11 rfl hl (by decide) rfl (fun ls hl => ?_)
    refine lv_bipush (v := 7) S.1 S.2.1 dX12_readRing_12 (by decide) ?_
    refine lv_istore (lv' := [(4, .int 7), (3, .int 1), (2, .int (nI v)), (0, .ref (G.2.2 71)), (1, .int (nI v))]) S.1 S.2.1 dX12_readRing_14 hl (by decide) rfl (fun ls hl => ?_)
    have LP16 : ∀ (fU : Nat) (q : Nat) (x4 : Int32) (z : Int32) (rs : Nat) (nx : Nat → Nat), (q < fU) → (q ≤ 8) → ((q = 0 ∧ x4 = -1) ∨ ∃ q1, q = q1 + 1 ∧ x4 = nI q1) → (rs = v / 10 ^ (8 - q)) → ((z = 1 ∧ ∀ i, q ≤ i → i < 8 → dg v 8 i ≤ 7 ∧ nx i = dg v 8 i) ∨ (z = 0 ∧ ∃ i, i < 8 ∧ 7 < dg v 8 i)) → ∀ (H : Heap) (locs : List Loc) (ls : Array Slot), uZ G xA (uAr M 86 nx) xs.heap H locs → lv_has ls 5 [(4, .int x4), (3, .int z), (2, .int (nI rs)), (0, .ref (G.2.2 71)), (1, .int (nI v))] → W xp l xe (uRm 0 0) xs xm xa xb xt xc H locs 0 0 (MQ xb (va_Qi (fun r M2 => ∃ nx, M2 = uAr M 86 nx ∧ ((r = 1 ∧ rOk v ∧ ∀ i, i < 8 → nx i = dg v 8 i) ∨ (r = 0 ∧ ¬ rOk v))) (fun M' t => uB G M' t) xA) xa xs 0 0 xA) (F0 xm 16 ls []) := by
      intro fU
      induction fU with
      | zero =>
        intro q x4 z rs nx hfl hq hx hr hz H locs ls Z hl
        exfalso
        omega
      | succ fU ih16 =>
        intro q x4 z rs nx hfl hq hx hr hz H locs ls Z hl
        have hrb : rs < 2147483648 := by rw [hr]; exact div_bd _ _ hv
        rcases hx with ⟨hq0, hx⟩ | ⟨q1, hq0, hx⟩
        · skip
          subst hq0
          subst hx
          refine lv_iload S.1 S.2.1 dX12_readRing_16 (lv_at hl 0 rfl) ?_
          refine lv_if_lt (tgt := 73) S.1 S.2.1 dX12_readRing_18 (by decide) (fun _ => ?_) (fun c => absurd c (by decide))
          rcases hz with ⟨rfl, hz2⟩ | ⟨rfl, hz2⟩
          · skip
            refine lv_iload_n S.1 S.2.1 dX12_readRing_73 rfl (lv_at hl 1 rfl) ?_
            refine lv_if_eq (tgt := 85) S.1 S.2.1 dX12_readRing_74 (by decide) (fun c => absurd c (by decide)) (fun _ => ?_)
            refine lv_iload_n S.1 S.2.1 dX12_readRing_77 rfl (lv_at hl 2 rfl) ?_
            refine lv_if_ne (tgt := 85) S.1 S.2.1 dX12_readRing_78 (by decide) (fun c_4 => ?_) (fun c_4 => ?_)
            · skip
              have c_4 : ¬ rs = 0 := fun z9 => c_4 ((nI_eq (a := rs) (b := 0) (by omega) (by omega)).mpr z9)
              refine lv_iconst (v := 0) S.1 S.2.1 dX12_readRing_85 (by decide) ?_
              refine uret_z S hK Z hre hlk (by decide) dX12_readRing_86 ?_
              refine ⟨_, rfl, Or.inr ⟨rfl, fun y => ?_⟩⟩
              exact absurd (hr.trans y.1) (by assumption)
            · skip
              have c_4 : rs = 0 := (nI_eq (a := rs) (b := 0) (by omega) (by omega)).mp c_4
              refine lv_iconst (v := 1) S.1 S.2.1 dX12_readRing_81 (by decide) ?_
              refine lv_goto (tgt := 86) S.1 S.2.1 dX12_readRing_82 (by decide) ?_
              refine uret_z S hK Z hre hlk (by decide) dX12_readRing_86 ?_
              exact ⟨_, rfl, Or.inl ⟨rfl, ⟨by rw [← hr]; assumption, fun i hi => (hz2 i (Nat.zero_le _) hi).1⟩, fun i hi => (hz2 i (Nat.zero_le _) hi).2⟩⟩
          · skip
            refine lv_iload_n S.1 S.2.1 dX12_readRing_73 rfl (lv_at hl 1 rfl) ?_
            refine lv_if_eq (tgt := 85) S.1 S.2.1 dX12_readRing_74 (by decide) (fun _ => ?_) (fun c => absurd c (by decide))
            refine lv_iconst (v := 0) S.1 S.2.1 dX12_readRing_85 (by decide) ?_
            refine uret_z S hK Z hre hlk (by decide) dX12_readRing_86 ?_
            refine ⟨_, rfl, Or.inr ⟨rfl, fun y => ?_⟩⟩
            obtain ⟨i, h1, h2⟩ := hz2
            have := y.2 i h1
            omega
        · skip
          subst hq0
          subst hx
          refine lv_iload S.1 S.2.1 dX12_readRing_16 (lv_at hl 0 rfl) ?_
          refine lv_if_lt (tgt := 73) S.1 S.2.1 dX12_readRing_18 (by decide) (fun c_6 => ?_) (fun c_6 => ?_)
          · skip
            have c_6 : q1 < 0 := (nI_ltI (a := q1) (b := 0) (by omega) (by omega)).mp c_6
            omega
          · skip
            have c_6 : ¬ q1 < 0 := fun z9 => c_6 ((nI_ltI (a := q1) (b := 0) (by omega) (by omega)).mpr z9)
            refine lv_aload_n S.1 S.2.1 dX12_readRing_21 rfl (lv_at hl 3 rfl) ?_
            refine ug_r S hK Z (j := 25) 86 (by decide) rfl rfl rfl (by decide) iX12_readRing_X12 qX12_readRing_52 dX12_readRing_22 ?_
            refine lv_iload S.1 S.2.1 dX12_readRing_25 (lv_at hl 0 rfl) ?_
            rcases hz with ⟨rfl, hz2⟩ | ⟨rfl, hz2⟩
            · skip
              refine lv_iload_n S.1 S.2.1 dX12_readRing_27 rfl (lv_at hl 1 rfl) ?_
              refine lv_if_eq (tgt := 38) S.1 S.2.1 dX12_readRing_28 (by decide) (fun c => absurd c (by decide)) (fun _ => ?_)
              have y5 := dg_step hr (by omega)
              have y6 := dg_lt v 8 q1
              refine lv_iload_n S.1 S.2.1 dX12_readRing_31 rfl (lv_at hl 2 rfl) ?_
              refine lv_bipush (v := 10) S.1 S.2.1 dX12_readRing_32 (by decide) ?_
              refine lv_irem S.1 S.2.1 dX12_readRing_34 (by decide) ?_
              refine utop (pk_rem (a := rs) (d := 10) (by omega) (by omega) (by omega)) ?_
              refine lv_goto (tgt := 39) S.1 S.2.1 dX12_readRing_35 (by decide) ?_
              refine ua_ist S hK Z q1 (by decide) rfl rfl (by omega) dX12_readRing_39 (fun H locs Z => ?_)
              have Z := uZ_eq (uAr_s M 86 nx q1 (rs % 10)) Z
              refine lv_iload_n S.1 S.2.1 dX12_readRing_40 rfl (lv_at hl 1 rfl) ?_
              refine lv_if_eq (tgt := 60) S.1 S.2.1 dX12_readRing_41 (by decide) (fun c => absurd c (by decide)) (fun _ => ?_)
              have y8 : fu nx q1 (rs % 10) q1 < 10 := by rw [fu_eq]; omega
              refine lv_aload_n S.1 S.2.1 dX12_readRing_44 rfl (lv_at hl 3 rfl) ?_
              refine ug_r S hK Z (j := 25) 86 (by decide) rfl rfl rfl (by decide) iX12_readRing_X12 qX12_readRing_52 dX12_readRing_45 ?_
              refine lv_iload S.1 S.2.1 dX12_readRing_48 (lv_at hl 0 rfl) ?_
              refine ua_ild S hK Z q1 (by decide) rfl rfl (by omega) dX12_readRing_50 ?_
              refine utop (y := (nI ((fu nx q1 (rs % 10)) q1))) (uAr_g M 86 (fu nx q1 (rs % 10)) q1) ?_
              refine lv_bipush (v := 8) S.1 S.2.1 dX12_readRing_51 (by decide) ?_
              refine lv_icmp_ge (tgt := 60) S.1 S.2.1 dX12_readRing_53 (by decide) (fun c_9 => ?_) (fun c_9 => ?_)
              · skip
                have c_9 : 8 ≤ ((fu nx q1 (rs % 10)) q1) := (nI_leI (a := 8) (b := ((fu nx q1 (rs % 10)) q1)) (by omega) (by omega)).mp c_9
                have y7 := c_9
                refine lv_iconst (v := 0) S.1 S.2.1 dX12_readRing_60 (by decide) ?_
                refine lv_istore_n (lv' := [(3, .int 0), (4, .int (nI q1)), (2, .int (nI rs)), (0, .ref (G.2.2 71)), (1, .int (nI v))]) S.1 S.2.1 dX12_readRing_61 rfl hl (by decide) rfl (fun ls hl => ?_)
                refine lv_iload_n S.1 S.2.1 dX12_readRing_62 rfl (lv_at hl 2 rfl) ?_
                refine lv_bipush (v := 10) S.1 S.2.1 dX12_readRing_63 (by decide) ?_
                refine lv_idiv S.1 S.2.1 dX12_readRing_65 (by decide) ?_
                refine utop (pk_div (a := rs) (d := 10) (by omega) (by omega) (by omega)) ?_
                refine lv_istore_n (lv' := [(2, .int (nI (rs / 10))), (3, .int 0), (4, .int (nI q1)), (0, .ref (G.2.2 71)), (1, .int (nI v))]) S.1 S.2.1 dX12_readRing_66 rfl hl (by decide) rfl (fun ls hl => ?_)
                refine lv_iinc (v := ((nI q1) + (-1))) (lv' := [(4, .int ((nI q1) + (-1))), (2, .int (nI (rs / 10))), (3, .int 0), (0, .ref (G.2.2 71)), (1, .int (nI v))]) S.1 S.2.1 dX12_readRing_67 hl (k := 2) rfl rfl (by decide) rfl (fun ls hl => ?_)
                refine lv_goto (tgt := 16) S.1 S.2.1 dX12_readRing_70 (by decide) ?_
                exact ih16 q1 ((nI q1) + (-1)) 0 (rs / 10) (fu nx q1 (rs % 10)) (by omega) (by omega) (by exact u_down q1) (by rw [hr, dg_div, show 8 - (q1 + 1) + 1 = 8 - q1 from by omega]) (by exact Or.inr ⟨rfl, q1, by omega, by rw [fu_eq] at y7; omega⟩) _ _ _ Z (lv_sub hl [0, 2, 1, 3, 4] rfl)
              · skip
                have c_9 : ¬ 8 ≤ ((fu nx q1 (rs % 10)) q1) := fun z9 => c_9 ((nI_leI (a := 8) (b := ((fu nx q1 (rs % 10)) q1)) (by omega) (by omega)).mpr z9)
                have y7 := c_9
                refine lv_iconst (v := 1) S.1 S.2.1 dX12_readRing_56 (by decide) ?_
                refine lv_goto (tgt := 61) S.1 S.2.1 dX12_readRing_57 (by decide) ?_
                refine lv_istore_n (lv' := [(3, .int 1), (4, .int (nI q1)), (2, .int (nI rs)), (0, .ref (G.2.2 71)), (1, .int (nI v))]) S.1 S.2.1 dX12_readRing_61 rfl hl (by decide) rfl (fun ls hl => ?_)
                refine lv_iload_n S.1 S.2.1 dX12_readRing_62 rfl (lv_at hl 2 rfl) ?_
                refine lv_bipush (v := 10) S.1 S.2.1 dX12_readRing_63 (by decide) ?_
                refine lv_idiv S.1 S.2.1 dX12_readRing_65 (by decide) ?_
                refine utop (pk_div (a := rs) (d := 10) (by omega) (by omega) (by omega)) ?_
                refine lv_istore_n (lv' := [(2, .int (nI (rs / 10))), (3, .int 1), (4, .int (nI q1)), (0, .ref (G.2.2 71)), (1, .int (nI v))]) S.1 S.2.1 dX12_readRing_66 rfl hl (by decide) rfl (fun ls hl => ?_)
                refine lv_iinc (v := ((nI q1) + (-1))) (lv' := [(4, .int ((nI q1) + (-1))), (2, .int (nI (rs / 10))), (3, .int 1), (0, .ref (G.2.2 71)), (1, .int (nI v))]) S.1 S.2.1 dX12_readRing_67 hl (k := 2) rfl rfl (by decide) rfl (fun ls hl => ?_)
                refine lv_goto (tgt := 16) S.1 S.2.1 dX12_readRing_70 (by decide) ?_
                exact ih16 q1 ((nI q1) + (-1)) 1 (rs / 10) (fu nx q1 (rs % 10)) (by omega) (by omega) (by exact u_down q1) (by rw [hr, dg_div, show 8 - (q1 + 1) + 1 = 8 - q1 from by omega]) (by
                    refine Or.inl ⟨rfl, fun i h1 h2 => ?_⟩
                    by_cases z9 : i = q1
                    · subst z9
                      rw [fu_eq]
                      exact ⟨by rw [fu_eq] at y7; omega, y5⟩
                    · rw [fu_ne z9]
                      exact hz2 i (by omega) h2) _ _ _ Z (lv_sub hl [0, 2, 1, 3, 4] rfl)
            · skip
              refine lv_iload_n S.1 S.2.1 dX12_readRing_27 rfl (lv_at hl 1 rfl) ?_
              refine lv_if_eq (tgt := 38) S.1 S.2.1 dX12_readRing_28 (by decide) (fun _ => ?_) (fun c => absurd c (by decide))
              refine lv_iconst (v := 0) S.1 S.2.1 dX12_readRing_38 (by decide) ?_
              refine ua_ist S hK Z q1 (by decide) rfl rfl (by omega) dX12_readRing_39 (fun H locs Z => ?_)
              have Z := uZ_eq (uAr_s M 86 nx q1 0) Z
              refine lv_iload_n S.1 S.2.1 dX12_readRing_40 rfl (lv_at hl 1 rfl) ?_
              refine lv_if_eq (tgt := 60) S.1 S.2.1 dX12_readRing_41 (by decide) (fun _ => ?_) (fun c => absurd c (by decide))
              refine lv_iconst (v := 0) S.1 S.2.1 dX12_readRing_60 (by decide) ?_
              refine lv_istore_n (lv' := [(3, .int 0), (4, .int (nI q1)), (2, .int (nI rs)), (0, .ref (G.2.2 71)), (1, .int (nI v))]) S.1 S.2.1 dX12_readRing_61 rfl hl (by decide) rfl (fun ls hl => ?_)
              refine lv_iload_n S.1 S.2.1 dX12_readRing_62 rfl (lv_at hl 2 rfl) ?_
              refine lv_bipush (v := 10) S.1 S.2.1 dX12_readRing_63 (by decide) ?_
              refine lv_idiv S.1 S.2.1 dX12_readRing_65 (by decide) ?_
              refine utop (pk_div (a := rs) (d := 10) (by omega) (by omega) (by omega)) ?_
              refine lv_istore_n (lv' := [(2, .int (nI (rs / 10))), (3, .int 0), (4, .int (nI q1)), (0, .ref (G.2.2 71)), (1, .int (nI v))]) S.1 S.2.1 dX12_readRing_66 rfl hl (by decide) rfl (fun ls hl => ?_)
              refine lv_iinc (v := ((nI q1) + (-1))) (lv' := [(4, .int ((nI q1) + (-1))), (2, .int (nI (rs / 10))), (3, .int 0), (0, .ref (G.2.2 71)), (1, .int (nI v))]) S.1 S.2.1 dX12_readRing_67 hl (k := 2) rfl rfl (by decide) rfl (fun ls hl => ?_)
              refine lv_goto (tgt := 16) S.1 S.2.1 dX12_readRing_70 (by decide) ?_
              exact ih16 q1 ((nI q1) + (-1)) 0 (rs / 10) (fu nx q1 0) (by omega) (by omega) (by exact u_down q1) (by rw [hr, dg_div, show 8 - (q1 + 1) + 1 = 8 - q1 from by omega]) (by exact Or.inr ⟨rfl, hz2⟩) _ _ _ Z (lv_sub hl [0, 2, 1, 3, 4] rfl)
    exact LP16 9 8 7 1 v nx0 (by omega) (by omega) (by exact Or.inr ⟨7, rfl, rfl⟩) (by rw [Nat.sub_self, Nat.pow_zero, Nat.div_one]) (by exact Or.inl ⟨rfl, fun i h1 h2 => by omega⟩) _ _ _ Z (lv_sub hl [0, 1, 2, 3, 4] rfl)
set_option maxHeartbeats 4000000 in
set_option maxRecDepth 100000 in
theorem c_X12_readRingN (l : Launch) (G : uG) (x : Int32) (hx0 : x < 0) (M : uM) (nx0 : Nat → Nat) : CTi l G yX12_readRing wsX12_readRing 0 0 [.ref (G.2.2 71), .int x] (uAr M 86 nx0) (fun r M2 => ∃ nx, M2 = uAr M 86 nx ∧ r = 0) := by
  refine ustart_i (cc := cX12_readRing) (maxL := 5) (ret := (some .boolean)) (own := RX12) rfl (by decide) rfl (Nat.le_of_ble_eq_true rfl) ?_
  intro xp xe xs xm xa xb xt xc xA ls S hK hA Z hre hlk hl
  have hl : lv_has ls 5 [(0, .ref (G.2.2 71)), (1, .int x)] := hl
  refine lv_iload_n S.1 S.2.1 dX12_readRing_0 rfl (lv_at hl 1 rfl) ?_
  refine lv_istore_n (lv' := [(2, .int x), (0, .ref (G.2.2 71)), (1, .int x)]) S.1 S.2.1 dX12_readRing_1 rfl hl (by decide) rfl (fun ls hl => ?_)
  refine lv_iload_n S.1 S.2.1 dX12_readRing_2 rfl (lv_at hl 2 rfl) ?_
  refine lv_if_lt (tgt := 10) S.1 S.2.1 dX12_readRing_3 (by decide) (fun c_1 => ?_) (fun c_1 => ?_)
  · skip
    refine lv_iconst (v := 0) S.1 S.2.1 dX12_readRing_10 (by decide) ?_
    refine lv_istore_n (lv' := [(3, .int 0), (2, .int x), (0, .ref (G.2.2 71)), (1, .int x)]) S.1 S.2.1 dX12_readRing_11 rfl hl (by decide) rfl (fun ls hl => ?_)
    refine lv_bipush (v := 7) S.1 S.2.1 dX12_readRing_12 (by decide) ?_
    refine lv_istore (lv' := [(4, .int 7), (3, .int 0), (2, .int x), (0, .ref (G.2.2 71)), (1, .int x)]) S.1 S.2.1 dX12_readRing_14 hl (by decide) rfl (fun ls hl => ?_)
    have LP16 : ∀ (fU : Nat) (q : Nat) (x4 : Int32) (rs : Int32) (nx : Nat → Nat), (q < fU) → (q ≤ 8) → ((q = 0 ∧ x4 = -1) ∨ ∃ q1, q = q1 + 1 ∧ x4 = nI q1) → ∀ (H : Heap) (locs : List Loc) (ls : Array Slot), uZ G xA (uAr M 86 nx) xs.heap H locs → lv_has ls 5 [(4, .int x4), (3, .int 0), (2, .int rs), (0, .ref (G.2.2 71)), (1, .int x)] → W xp l xe (uRm 0 0) xs xm xa xb xt xc H locs 0 0 (MQ xb (va_Qi (fun r M2 => ∃ nx, M2 = uAr M 86 nx ∧ r = 0) (fun M' t => uB G M' t) xA) xa xs 0 0 xA) (F0 xm 16 ls []) := by
      intro fU
      induction fU with
      | zero =>
        intro q x4 rs nx hfl hq hx H locs ls Z hl
        exfalso
        omega
      | succ fU ih16 =>
        intro q x4 rs nx hfl hq hx H locs ls Z hl
        rcases hx with ⟨hq0, hx⟩ | ⟨q1, hq0, hx⟩
        · skip
          subst hq0
          subst hx
          refine lv_iload S.1 S.2.1 dX12_readRing_16 (lv_at hl 0 rfl) ?_
          refine lv_if_lt (tgt := 73) S.1 S.2.1 dX12_readRing_18 (by decide) (fun _ => ?_) (fun c => absurd c (by decide))
          refine lv_iload_n S.1 S.2.1 dX12_readRing_73 rfl (lv_at hl 1 rfl) ?_
          refine lv_if_eq (tgt := 85) S.1 S.2.1 dX12_readRing_74 (by decide) (fun _ => ?_) (fun c => absurd c (by decide))
          refine lv_iconst (v := 0) S.1 S.2.1 dX12_readRing_85 (by decide) ?_
          refine uret_z S hK Z hre hlk (by decide) dX12_readRing_86 ?_
          exact ⟨_, rfl, rfl⟩
        · skip
          subst hq0
          subst hx
          refine lv_iload S.1 S.2.1 dX12_readRing_16 (lv_at hl 0 rfl) ?_
          refine lv_if_lt (tgt := 73) S.1 S.2.1 dX12_readRing_18 (by decide) (fun c_4 => ?_) (fun c_4 => ?_)
          · skip
            have c_4 : q1 < 0 := (nI_ltI (a := q1) (b := 0) (by omega) (by omega)).mp c_4
            omega
          · skip
            have c_4 : ¬ q1 < 0 := fun z9 => c_4 ((nI_ltI (a := q1) (b := 0) (by omega) (by omega)).mpr z9)
            refine lv_aload_n S.1 S.2.1 dX12_readRing_21 rfl (lv_at hl 3 rfl) ?_
            refine ug_r S hK Z (j := 25) 86 (by decide) rfl rfl rfl (by decide) iX12_readRing_X12 qX12_readRing_52 dX12_readRing_22 ?_
            refine lv_iload S.1 S.2.1 dX12_readRing_25 (lv_at hl 0 rfl) ?_
            refine lv_iload_n S.1 S.2.1 dX12_readRing_27 rfl (lv_at hl 1 rfl) ?_
            refine lv_if_eq (tgt := 38) S.1 S.2.1 dX12_readRing_28 (by decide) (fun _ => ?_) (fun c => absurd c (by decide))
            refine lv_iconst (v := 0) S.1 S.2.1 dX12_readRing_38 (by decide) ?_
            refine ua_ist S hK Z q1 (by decide) rfl rfl (by omega) dX12_readRing_39 (fun H locs Z => ?_)
            have Z := uZ_eq (uAr_s M 86 nx q1 0) Z
            refine lv_iload_n S.1 S.2.1 dX12_readRing_40 rfl (lv_at hl 1 rfl) ?_
            refine lv_if_eq (tgt := 60) S.1 S.2.1 dX12_readRing_41 (by decide) (fun _ => ?_) (fun c => absurd c (by decide))
            refine lv_iconst (v := 0) S.1 S.2.1 dX12_readRing_60 (by decide) ?_
            refine lv_istore_n (lv' := [(3, .int 0), (4, .int (nI q1)), (2, .int rs), (0, .ref (G.2.2 71)), (1, .int x)]) S.1 S.2.1 dX12_readRing_61 rfl hl (by decide) rfl (fun ls hl => ?_)
            refine lv_iload_n S.1 S.2.1 dX12_readRing_62 rfl (lv_at hl 2 rfl) ?_
            refine lv_bipush (v := 10) S.1 S.2.1 dX12_readRing_63 (by decide) ?_
            refine lv_idiv S.1 S.2.1 dX12_readRing_65 (by decide) ?_
            refine lv_istore_n (lv' := [(2, .int (rs / 10)), (3, .int 0), (4, .int (nI q1)), (0, .ref (G.2.2 71)), (1, .int x)]) S.1 S.2.1 dX12_readRing_66 rfl hl (by decide) rfl (fun ls hl => ?_)
            refine lv_iinc (v := ((nI q1) + (-1))) (lv' := [(4, .int ((nI q1) + (-1))), (2, .int (rs / 10)), (3, .int 0), (0, .ref (G.2.2 71)), (1, .int x)]) S.1 S.2.1 dX12_readRing_67 hl (k := 2) rfl rfl (by decide) rfl (fun ls hl => ?_)
            refine lv_goto (tgt := 16) S.1 S.2.1 dX12_readRing_70 (by decide) ?_
            exact ih16 q1 ((nI q1) + (-1)) (rs / 10) (fu nx q1 0) (by omega) (by omega) (by exact u_down q1) _ _ _ Z (lv_sub hl [0, 2, 1, 3, 4] rfl)
    exact LP16 9 8 7 x nx0 (by omega) (by omega) (by exact Or.inr ⟨7, rfl, rfl⟩) _ _ _ Z (lv_sub hl [0, 1, 2, 3, 4] rfl)
  · skip
    exact absurd hx0 c_1
theorem c_X12_readRing (l : Launch) (G : uG) (x : Int32) (M : uM) : CTi l G yX12_readRing wsX12_readRing 0 0 [.ref (G.2.2 71), .int x] M (fun r M2 => ∃ nx, M2 = uAr M 86 nx ∧ ((r = 1 ∧ ∃ v, x = nI v ∧ v < 2147483648 ∧ rOk v ∧ ∀ i, i < 8 → nx i = dg v 8 i) ∨ (r = 0 ∧ ¬ rowOk x))) := by
  obtain ⟨nx0, h0⟩ := uAr_ex M 86
  by_cases h : x < 0
  · have h1 := c_X12_readRingN l G x h M nx0
    rw [h0] at h1
    refine CTi_mono h1 (fun r M2 hp => ?_)
    obtain ⟨nx, h2, h3⟩ := hp
    exact ⟨nx, h2, Or.inr ⟨h3, rowOk_neg h⟩⟩
  · obtain ⟨v, hv, rfl⟩ := nI_of h
    have h1 := c_X12_readRingP l G v hv M nx0
    rw [h0] at h1
    refine CTi_mono h1 (fun r M2 hp => ?_)
    obtain ⟨nx, h2, h3⟩ := hp
    refine ⟨nx, h2, ?_⟩
    rcases h3 with ⟨h3, h4, h5⟩ | ⟨h3, h4⟩
    · exact Or.inl ⟨h3, v, rfl, hv, h4, h5⟩
    · exact Or.inr ⟨h3, rowOk_v hv h4⟩
set_option maxHeartbeats 4000000 in
set_option maxRecDepth 100000 in
theorem c_X12_goRing (l : Launch) (G : uG) (o : Nat) (ho : o < 8) (M : uM) (me0 : Nat → Nat) (nx : Nat → Nat) (hnx : ∀ i, M.1 86 i = nI (nx i)) (hn8 : ∀ i, i < 8 → nx i < 8) : CTi l G yX12_goRing wsX12_goRing 0 0 [.ref (G.2.2 71), .int (nI o)] (uAr M 87 me0) (fun r M2 => ∃ N K me, rEnd nx o N K ∧ M2 = uAr M 87 me ∧ r = nI N ∧ ∀ i, i < N → me (it nx o i) = i + 1) := by
  refine ustart_i (cc := cX12_goRing) (maxL := 4) (ret := (some .int)) (own := RX12) rfl (by decide) rfl (Nat.le_of_ble_eq_true rfl) ?_
  intro xp xe xs xm xa xb xt xc xA ls S hK hA Z hre hlk hl
  have hl : lv_has ls 4 [(0, .ref (G.2.2 71)), (1, .int (nI o))] := hl
  refine lv_iconst (v := 0) S.1 S.2.1 dX12_goRing_0 (by decide) ?_
  refine lv_istore_n (lv' := [(2, .int 0), (0, .ref (G.2.2 71)), (1, .int (nI o))]) S.1 S.2.1 dX12_goRing_1 rfl hl (by decide) rfl (fun ls hl => ?_)
  have LP2 : ∀ (fU : Nat) (k : Nat) (me1 : Nat → Nat), (8 < k + fU) → (k ≤ 8) → (∀ i, i < k → me1 i = 0) → ∀ (H : Heap) (locs : List Loc) (ls : Array Slot), uZ G xA (uAr M 87 me1) xs.heap H locs → lv_has ls 4 [(2, .int (nI k)), (0, .ref (G.2.2 71)), (1, .int (nI o))] → W xp l xe (uRm 0 0) xs xm xa xb xt xc H locs 0 0 (MQ xb (va_Qi (fun r M2 => ∃ N K me, rEnd nx o N K ∧ M2 = uAr M 87 me ∧ r = nI N ∧ ∀ i, i < N → me (it nx o i) = i + 1) (fun M' t => uB G M' t) xA) xa xs 0 0 xA) (F0 xm 2 ls []) := by
    intro fU
    induction fU with
    | zero =>
      intro k me1 hfl j1 j2 H locs ls Z hl
      exfalso
      omega
    | succ fU ih2 =>
      intro k me1 hfl j1 j2 H locs ls Z hl
      refine lv_iload_n S.1 S.2.1 dX12_goRing_2 rfl (lv_at hl 0 rfl) ?_
      refine lv_bipush (v := 8) S.1 S.2.1 dX12_goRing_3 (by decide) ?_
      refine lv_icmp_ge (tgt := 21) S.1 S.2.1 dX12_goRing_5 (by decide) (fun c_1 => ?_) (fun c_1 => ?_)
      · skip
        have c_1 : 8 ≤ k := (nI_leI (a := 8) (b := k) (by omega) (by omega)).mp c_1
        refine lv_iload_n S.1 S.2.1 dX12_goRing_21 rfl (lv_at hl 2 rfl) ?_
        refine lv_istore_n (lv' := [(2, .int (nI o)), (0, .ref (G.2.2 71)), (1, .int (nI o))]) S.1 S.2.1 dX12_goRing_22 rfl hl (by decide) rfl (fun ls hl => ?_)
        refine lv_iconst (v := 0) S.1 S.2.1 dX12_goRing_23 (by decide) ?_
        refine lv_istore_n (lv' := [(3, .int 0), (2, .int (nI o)), (0, .ref (G.2.2 71)), (1, .int (nI o))]) S.1 S.2.1 dX12_goRing_24 rfl hl (by decide) rfl (fun ls hl => ?_)
        have LP25 : ∀ (fU : Nat) (j : Nat) (h : Nat) (me : Nat → Nat), (8 < j + fU) → (j ≤ 8) → (h = it nx o j) → (∀ i, i < j → me (it nx o i) = i + 1) → (∀ x, x < 8 → (∀ i, i < j → it nx o i ≠ x) → me x = 0) → (∀ a b, a < b → b < j → it nx o a ≠ it nx o b) → ∀ (H : Heap) (locs : List Loc) (ls : Array Slot), uZ G xA (uAr M 87 me) xs.heap H locs → lv_has ls 4 [(3, .int (nI j)), (2, .int (nI h)), (0, .ref (G.2.2 71)), (1, .int (nI o))] → W xp l xe (uRm 0 0) xs xm xa xb xt xc H locs 0 0 (MQ xb (va_Qi (fun r M2 => ∃ N K me, rEnd nx o N K ∧ M2 = uAr M 87 me ∧ r = nI N ∧ ∀ i, i < N → me (it nx o i) = i + 1) (fun M' t => uB G M' t) xA) xa xs 0 0 xA) (F0 xm 25 ls []) := by
          intro fU
          induction fU with
          | zero =>
            intro j h me hfl i1 i3 i5 i6 i7 H locs ls Z hl
            exfalso
            omega
          | succ fU ih25 =>
            intro j h me hfl i1 i3 i5 i6 i7 H locs ls Z hl
            have y0 : h < 8 := by rw [i3]; exact it_lt hn8 ho j
            have y1 : ∀ i, i < j → it nx o i = h → me h = i + 1 := fun i hi e => by rw [← e]; exact i5 i hi
            have y9 : me h ≤ 8 := by
              by_cases hc : ∃ i, i < j ∧ it nx o i = h
              · obtain ⟨i, q1, q2⟩ := hc
                have := y1 i q1 q2
                omega
              · rw [i6 h y0 (fun i q1 q2 => hc ⟨i, q1, q2⟩)]
                decide
            refine lv_aload_n S.1 S.2.1 dX12_goRing_25 rfl (lv_at hl 2 rfl) ?_
            refine ug_r S hK Z (j := 26) 87 (by decide) rfl rfl rfl (by decide) iX12_goRing_X12 qX12_goRing_55 dX12_goRing_26 ?_
            refine lv_iload_n S.1 S.2.1 dX12_goRing_29 rfl (lv_at hl 1 rfl) ?_
            refine ua_ild S hK Z h (by decide) rfl rfl (by omega) dX12_goRing_30 ?_
            refine utop (y := (nI (me h))) (uAr_g M 87 me h) ?_
            refine lv_if_ne (tgt := 54) S.1 S.2.1 dX12_goRing_31 (by decide) (fun c_2 => ?_) (fun c_2 => ?_)
            · skip
              have c_2 : ¬ (me h) = 0 := fun z9 => c_2 ((nI_eq (a := (me h)) (b := 0) (by omega) (by omega)).mpr z9)
              obtain ⟨K, hK1, hK2⟩ : ∃ K, K < j ∧ it nx o K = h := by
                by_cases hc : ∃ K, K < j ∧ it nx o K = h
                · exact hc
                · exfalso
                  have := i6 h y0 (fun i q1 q2 => hc ⟨i, q1, q2⟩)
                  omega
              refine lv_iload_n S.1 S.2.1 dX12_goRing_54 rfl (lv_at hl 0 rfl) ?_
              refine uret_i S hK Z hre hlk dX12_goRing_55 ?_
              exact ⟨j, K, me, ⟨by omega, i1, hK1, by rw [← i3]; exact hK2, i7⟩, rfl, rfl, i5⟩
            · skip
              have c_2 : (me h) = 0 := (nI_eq (a := (me h)) (b := 0) (by omega) (by omega)).mp c_2
              have y2 : ∀ i, i < j → it nx o i ≠ h := fun i hi e => by
                have e2 := y1 i hi e
                omega
              have y3 : j < 8 := by
                by_cases z : j = 8
                · exfalso
                  subst z
                  obtain ⟨a, b, q1, q2, q3⟩ := php 8 (it nx o) (fun i _ => it_lt hn8 ho i)
                  by_cases hb : b = 8
                  · subst hb
                    exact y2 a q1 (by rw [q3, i3])
                  · exact i7 a b q1 (by omega) q3
                · omega
              refine lv_iinc (v := (nI (j + 1))) (lv' := [(3, .int (nI (j + 1))), (2, .int (nI h)), (0, .ref (G.2.2 71)), (1, .int (nI o))]) S.1 S.2.1 dX12_goRing_34 hl (k := 0) rfl (u_inc1 j) (by decide) rfl (fun ls hl => ?_)
              refine lv_aload_n S.1 S.2.1 dX12_goRing_37 rfl (lv_at hl 2 rfl) ?_
              refine ug_r S hK Z (j := 26) 87 (by decide) rfl rfl rfl (by decide) iX12_goRing_X12 qX12_goRing_55 dX12_goRing_38 ?_
              refine lv_iload_n S.1 S.2.1 dX12_goRing_41 rfl (lv_at hl 1 rfl) ?_
              refine lv_iload_n S.1 S.2.1 dX12_goRing_42 rfl (lv_at hl 0 rfl) ?_
              refine ua_ist S hK Z h (by decide) rfl rfl (by omega) dX12_goRing_43 (fun H locs Z => ?_)
              have Z := uZ_eq (uAr_s M 87 me h (j + 1)) Z
              refine lv_aload_n S.1 S.2.1 dX12_goRing_44 rfl (lv_at hl 2 rfl) ?_
              refine ug_r S hK Z (j := 25) 86 (by decide) rfl rfl rfl (by decide) iX12_goRing_X12 qX12_goRing_52 dX12_goRing_45 ?_
              refine lv_iload_n S.1 S.2.1 dX12_goRing_48 rfl (lv_at hl 1 rfl) ?_
              refine ua_ild S hK Z h (by decide) rfl rfl (by omega) dX12_goRing_49 ?_
              refine utop (y := (nI (nx h))) ((uAr_o M 87 (fu me h (j + 1)) h (a := 86) (by decide)).trans (hnx h)) ?_
              refine lv_istore_n (lv' := [(2, .int (nI (nx h))), (3, .int (nI (j + 1))), (0, .ref (G.2.2 71)), (1, .int (nI o))]) S.1 S.2.1 dX12_goRing_50 rfl hl (by decide) rfl (fun ls hl => ?_)
              refine lv_goto (tgt := 25) S.1 S.2.1 dX12_goRing_51 (by decide) ?_
              exact ih25 (j + 1) (nx h) (fu me h (j + 1)) (by omega) (by omega) (by rw [it, ← i3]) (by
                  intro i hi
                  by_cases z : i = j
                  · subst z
                    rw [← i3, fu_eq]
                  · rw [fu_ne (fun y => y2 i (by omega) y)]
                    exact i5 i (by omega)) (by
                  intro x hx hi
                  rw [fu_ne (fun y => hi j (by omega) (by rw [y, i3]))]
                  exact i6 x hx (fun i hi2 => hi i (by omega))) (by
                  intro a b hab hb
                  by_cases z : b = j
                  · subst z
                    rw [← i3]
                    exact y2 a hab
                  · exact i7 a b hab (by omega)) _ _ _ Z (lv_sub hl [1, 0, 2, 3] rfl)
        exact LP25 9 0 o me1 (by omega) (by omega) (by rfl) (by intro i hi; omega) (by intro x hx _; exact j2 x (by omega)) (by intro a b _ hb; omega) _ _ _ Z (lv_sub hl [0, 1, 2, 3] rfl)
      · skip
        have c_1 : ¬ 8 ≤ k := fun z9 => c_1 ((nI_leI (a := 8) (b := k) (by omega) (by omega)).mpr z9)
        refine lv_aload_n S.1 S.2.1 dX12_goRing_8 rfl (lv_at hl 1 rfl) ?_
        refine ug_r S hK Z (j := 26) 87 (by decide) rfl rfl rfl (by decide) iX12_goRing_X12 qX12_goRing_55 dX12_goRing_9 ?_
        refine lv_iload_n S.1 S.2.1 dX12_goRing_12 rfl (lv_at hl 0 rfl) ?_
        refine lv_iconst (v := 0) S.1 S.2.1 dX12_goRing_13 (by decide) ?_
        refine ua_ist S hK Z k (by decide) rfl rfl (by omega) dX12_goRing_14 (fun H locs Z => ?_)
        have Z := uZ_eq (uAr_s M 87 me1 k 0) Z
        refine lv_iinc (v := (nI (k + 1))) (lv' := [(2, .int (nI (k + 1))), (0, .ref (G.2.2 71)), (1, .int (nI o))]) S.1 S.2.1 dX12_goRing_15 hl (k := 0) rfl (u_inc1 k) (by decide) rfl (fun ls hl => ?_)
        refine lv_goto (tgt := 2) S.1 S.2.1 dX12_goRing_18 (by decide) ?_
        exact ih2 (k + 1) (fu me1 k 0) (by omega) (by omega) (by
            intro i hi
            by_cases z : i = k
            · subst z
              exact fu_eq _ _ _
            · rw [fu_ne z]
              exact j2 i (by omega)) _ _ _ Z (lv_sub hl [0, 1, 2] rfl)
  exact LP2 9 0 me0 (by omega) (by omega) (by intro i hi; omega) _ _ _ Z (lv_sub hl [0, 1, 2] rfl)
set_option maxHeartbeats 4000000 in
set_option maxRecDepth 100000 in
theorem c_X12_walk (l : Launch) (G : uG) (o m : Nat) (ho : o < 8) (hm : m < 2147483647) (M : uM) (nx : Nat → Nat) (hnx : ∀ i, M.1 86 i = nI (nx i)) (hn8 : ∀ i, i < 8 → nx i < 8) : CTi l G yX12_walk wsX12_walk 0 0 [.ref (G.2.2 71), .int (nI o), .int (nI m)] M (fun r M2 => r = nI (it nx o m) ∧ M2 = M) := by
  refine ustart_i (cc := cX12_walk) (maxL := 5) (ret := (some .int)) (own := RX12) rfl (by decide) rfl (Nat.le_of_ble_eq_true rfl) ?_
  intro xp xe xs xm xa xb xt xc xA ls S hK hA Z hre hlk hl
  have hl : lv_has ls 5 [(0, .ref (G.2.2 71)), (1, .int (nI o)), (2, .int (nI m))] := hl
  refine lv_iload_n S.1 S.2.1 dX12_walk_0 rfl (lv_at hl 1 rfl) ?_
  refine lv_istore_n (lv' := [(3, .int (nI o)), (0, .ref (G.2.2 71)), (1, .int (nI o)), (2, .int (nI m))]) S.1 S.2.1 dX12_walk_1 rfl hl (by decide) rfl (fun ls hl => ?_)
  refine lv_iconst (v := 0) S.1 S.2.1 dX12_walk_2 (by decide) ?_
  refine lv_istore (lv' := [(4, .int 0), (3, .int (nI o)), (0, .ref (G.2.2 71)), (1, .int (nI o)), (2, .int (nI m))]) S.1 S.2.1 dX12_walk_3 hl (by decide) rfl (fun ls hl => ?_)
  have LP5 : ∀ (fU : Nat) (h : Nat) (e : Nat), (m < e + fU) → (e ≤ m) → (h = it nx o e) → ∀ (H : Heap) (locs : List Loc) (ls : Array Slot), uZ G xA M xs.heap H locs → lv_has ls 5 [(4, .int (nI e)), (3, .int (nI h)), (0, .ref (G.2.2 71)), (1, .int (nI o)), (2, .int (nI m))] → W xp l xe (uRm 0 0) xs xm xa xb xt xc H locs 0 0 (MQ xb (va_Qi (fun r M2 => r = nI (it nx o m) ∧ M2 = M) (fun M' t => uB G M' t) xA) xa xs 0 0 xA) (F0 xm 5 ls []) := by
    intro fU
    induction fU with
    | zero =>
      intro h e hfl i1 i2 H locs ls Z hl
      exfalso
      omega
    | succ fU ih5 =>
      intro h e hfl i1 i2 H locs ls Z hl
      have y0 : h < 8 := by rw [i2]; exact it_lt hn8 ho e
      refine lv_iload S.1 S.2.1 dX12_walk_5 (lv_at hl 0 rfl) ?_
      refine lv_iload_n S.1 S.2.1 dX12_walk_7 rfl (lv_at hl 4 rfl) ?_
      refine lv_icmp_ge (tgt := 24) S.1 S.2.1 dX12_walk_8 (by decide) (fun c_1 => ?_) (fun c_1 => ?_)
      · skip
        have c_1 : m ≤ e := (nI_leI (a := m) (b := e) (by omega) (by omega)).mp c_1
        refine lv_iload_n S.1 S.2.1 dX12_walk_24 rfl (lv_at hl 1 rfl) ?_
        refine uret_i S hK Z hre hlk dX12_walk_25 ?_
        rw [i2, show e = m from by omega]
        exact ⟨rfl, rfl⟩
      · skip
        have c_1 : ¬ m ≤ e := fun z9 => c_1 ((nI_leI (a := m) (b := e) (by omega) (by omega)).mpr z9)
        refine lv_aload_n S.1 S.2.1 dX12_walk_11 rfl (lv_at hl 2 rfl) ?_
        refine ug_r S hK Z (j := 25) 86 (by decide) rfl rfl rfl (by decide) iX12_walk_X12 qX12_walk_52 dX12_walk_12 ?_
        refine lv_iload_n S.1 S.2.1 dX12_walk_15 rfl (lv_at hl 1 rfl) ?_
        refine ua_ild S hK Z h (by decide) rfl rfl (by omega) dX12_walk_16 ?_
        refine utop (y := (nI (nx h))) (hnx h) ?_
        refine lv_istore_n (lv' := [(3, .int (nI (nx h))), (4, .int (nI e)), (0, .ref (G.2.2 71)), (1, .int (nI o)), (2, .int (nI m))]) S.1 S.2.1 dX12_walk_17 rfl hl (by decide) rfl (fun ls hl => ?_)
        refine lv_iinc (v := (nI (e + 1))) (lv' := [(4, .int (nI (e + 1))), (3, .int (nI (nx h))), (0, .ref (G.2.2 71)), (1, .int (nI o)), (2, .int (nI m))]) S.1 S.2.1 dX12_walk_18 hl (k := 1) rfl (u_inc1 e) (by decide) rfl (fun ls hl => ?_)
        refine lv_goto (tgt := 5) S.1 S.2.1 dX12_walk_21 (by decide) ?_
        exact ih5 (nx h) (e + 1) (by omega) (by omega) (by rw [it, ← i2]) _ _ _ Z (lv_sub hl [0, 1, 2, 3, 4] rfl)
  exact LP5 (m + 1) o 0 (by omega) (by omega) (by rfl) _ _ _ Z (lv_sub hl [0, 1, 2, 3, 4] rfl)
set_option maxHeartbeats 4000000 in
set_option maxRecDepth 100000 in
theorem c_X12_ring (l : Launch) (G : uG) (x y m h : Int32) (M : uM) : CTi l G yX12_ring wsX12_ring 2 45 [.ref (G.2.2 71), .int x, .int y, .int m, .int h] M (fun r M2 => SpRing x y m h r ∧ mSm M M2) := by
  refine ustart_i (cc := cX12_ring) (maxL := 9) (ret := (some .int)) (own := RX12) rfl (by decide) rfl (Nat.le_of_ble_eq_true rfl) ?_
  intro xp xe xs xm xa xb xt xc xA ls S hK hA Z hre hlk hl
  have hl : lv_has ls 9 [(0, .ref (G.2.2 71)), (1, .int x), (2, .int y), (3, .int m), (4, .int h)] := hl
  refine lv_iload_n S.1 S.2.1 dX12_ring_0 rfl (lv_at hl 2 rfl) ?_
  refine uc_Si (As := [.int y]) (rest := []) S hK hA Z (c_X12_isOne l G y M) (va_cwS 1 S.2.2.2.2 gX12_ring_X12_isOne rfl rfl rfl (by decide +kernel) ⟨Nat.le_of_ble_eq_true rfl, Nat.le_of_ble_eq_true rfl⟩) rfl hl.1 rfl (Nat.le_of_ble_eq_true rfl) dX12_ring_1 ⟨Nat.zero_le _, Nat.zero_le _⟩ (fun r_1 M_1 H locs hp Z => ?_)
  obtain ⟨⟨rfl, w_1⟩ | ⟨rfl, w_1⟩, hM_1⟩ := hp
  · skip
    rw [hM_1] at Z
    refine lv_if_ne (tgt := 9) S.1 S.2.1 dX12_ring_4 (by decide) (fun _ => ?_) (fun c => absurd c (by decide))
    refine lv_aload_n S.1 S.2.1 dX12_ring_9 rfl (lv_at hl 0 rfl) ?_
    refine lv_iload_n S.1 S.2.1 dX12_ring_10 rfl (lv_at hl 1 rfl) ?_
    refine uc_Vi (As := [.int x]) (rest := []) S hK hA Z (c_X12_readRing l G x M) (cwV 1 S.2.2.2.2 gX12_ring_X12_readRing rfl rfl rfl (by decide +kernel) ⟨Nat.le_of_ble_eq_true rfl, Nat.le_of_ble_eq_true rfl⟩) (by decide) rfl rfl rfl hl.1 rfl (Nat.le_of_ble_eq_true rfl) dX12_ring_11 ⟨Nat.zero_le _, Nat.zero_le _⟩ (fun r_3 M_3 H locs hp Z => ?_)
    obtain ⟨nx, hM, ⟨rfl, v, hrow, hv, hok, hnx⟩ | ⟨rfl, hno⟩⟩ := hp
    · skip
      rw [hM] at Z
      refine lv_if_eq (tgt := 42) S.1 S.2.1 dX12_ring_14 (by decide) (fun c => absurd c (by decide)) (fun _ => ?_)
      refine lv_iload_n S.1 S.2.1 dX12_ring_17 rfl (lv_at hl 3 rfl) ?_
      refine lv_i2l (v := m.toInt64) S.1 S.2.1 dX12_ring_18 rfl ?_
      refine lv_lconst (v := 0) S.1 S.2.1 dX12_ring_19 (by decide) ?_
      refine lv_ldc2 (v := 999999999) S.1 S.2.1 S.2.2.2.1 (S.2.2.2.2 _ qX12_ring_264) dX12_ring_20 ?_
      refine uc_Si (As := [.long m.toInt64, .long 0, .long 999999999]) (rest := []) S hK hA Z (c_X12_in l G m 0 999999999 _ _ _ rfl (by decide) (by decide) (uAr M 86 nx)) (va_cwS 3 S.2.2.2.2 gX12_ring_X12_in rfl rfl rfl (by decide +kernel) ⟨Nat.le_of_ble_eq_true rfl, Nat.le_of_ble_eq_true rfl⟩) rfl hl.1 rfl (Nat.le_of_ble_eq_true rfl) dX12_ring_23 ⟨Nat.zero_le _, Nat.zero_le _⟩ (fun r_5 M_5 H locs hp Z => ?_)
      obtain ⟨⟨rfl, w_5⟩ | ⟨rfl, w_5⟩, hM_5⟩ := hp
      · skip
        rw [hM_5] at Z
        refine lv_if_eq (tgt := 42) S.1 S.2.1 dX12_ring_26 (by decide) (fun c => absurd c (by decide)) (fun _ => ?_)
        refine lv_iload S.1 S.2.1 dX12_ring_29 (lv_at hl 4 rfl) ?_
        refine lv_i2l (v := h.toInt64) S.1 S.2.1 dX12_ring_31 rfl ?_
        refine lv_lconst (v := 0) S.1 S.2.1 dX12_ring_32 (by decide) ?_
        refine lv_ldc2 (v := 2) S.1 S.2.1 S.2.2.2.1 (S.2.2.2.2 _ qX12_ring_237) dX12_ring_33 ?_
        refine uc_Si (As := [.long h.toInt64, .long 0, .long 2]) (rest := []) S hK hA Z (c_X12_in l G h 0 2 _ _ _ rfl (by decide) (by decide) (uAr M 86 nx)) (va_cwS 3 S.2.2.2.2 gX12_ring_X12_in rfl rfl rfl (by decide +kernel) ⟨Nat.le_of_ble_eq_true rfl, Nat.le_of_ble_eq_true rfl⟩) rfl hl.1 rfl (Nat.le_of_ble_eq_true rfl) dX12_ring_36 ⟨Nat.zero_le _, Nat.zero_le _⟩ (fun r_7 M_7 H locs hp Z => ?_)
        obtain ⟨⟨rfl, w_7⟩ | ⟨rfl, w_7⟩, hM_7⟩ := hp
        · skip
          rw [hM_7] at Z
          refine lv_if_ne (tgt := 45) S.1 S.2.1 dX12_ring_39 (by decide) (fun _ => ?_) (fun c => absurd c (by decide))
          rcases in3 (show inr h 0 2 by assumption) with rfl | rfl | rfl
          · skip
            obtain ⟨o, ho, rfl⟩ := u_in0 (n := 7) (show inr y 0 7 by assumption) (by decide)
            obtain ⟨m1, hm1, rfl⟩ := u_in0 (n := 999999999) (show inr m 0 999999999 by assumption) (by decide)
            have hn8 : ∀ i, i < 8 → nx i < 8 := fun i hi => by
              rw [hnx i hi]
              have := hok.2 i hi
              omega
            obtain ⟨me0, hme0⟩ := uAr_ex (uAr M 86 nx) 87
            refine lv_aload_n S.1 S.2.1 dX12_ring_45 rfl (lv_at hl 0 rfl) ?_
            refine lv_iload_n S.1 S.2.1 dX12_ring_46 rfl (lv_at hl 2 rfl) ?_
            refine uc_Vi (As := [.int (nI o)]) (rest := []) S hK hA Z ((by have h9 := c_X12_goRing l G o (by omega) (uAr M 86 nx) me0 nx (fun i => uAr_g _ _ _ _) hn8; rw [hme0] at h9; exact h9)) (cwV 1 S.2.2.2.2 gX12_ring_X12_goRing rfl rfl rfl (by decide +kernel) ⟨Nat.le_of_ble_eq_true rfl, Nat.le_of_ble_eq_true rfl⟩) (by decide) rfl rfl rfl hl.1 rfl (Nat.le_of_ble_eq_true rfl) dX12_ring_47 ⟨Nat.zero_le _, Nat.zero_le _⟩ (fun r_9 M_9 H locs hp Z => ?_)
            obtain ⟨N, K, me, hE, hM2, hrN, hme⟩ := hp
            rw [hM2] at Z
            refine utop hrN ?_
            obtain ⟨e1, e2, e3, e4, e5⟩ := hE
            have y3 := it_lt hn8 (x := o) (by omega) N
            have y4 : me (it nx o N) = K + 1 := by rw [← e4]; exact hme K e3
            refine lv_istore (lv' := [(5, .int (nI N)), (0, .ref (G.2.2 71)), (1, .int x), (2, .int (nI o)), (3, .int (nI m1)), (4, .int 0)]) S.1 S.2.1 dX12_ring_50 hl (by decide) rfl (fun ls hl => ?_)
            refine lv_iload S.1 S.2.1 dX12_ring_52 (lv_at hl 0 rfl) ?_
            refine lv_iconst (v := 1) S.1 S.2.1 dX12_ring_54 (by decide) ?_
            refine lv_iadd S.1 S.2.1 dX12_ring_55 ?_
            refine utop (nI_add N 1) ?_
            refine lv_aload_n S.1 S.2.1 dX12_ring_56 rfl (lv_at hl 1 rfl) ?_
            refine ug_r S hK Z (j := 26) 87 (by decide) rfl rfl rfl (by decide) iX12_ring_X12 qX12_ring_55 dX12_ring_57 ?_
            refine lv_aload_n S.1 S.2.1 dX12_ring_60 rfl (lv_at hl 1 rfl) ?_
            refine lv_iload_n S.1 S.2.1 dX12_ring_61 rfl (lv_at hl 3 rfl) ?_
            refine lv_iload S.1 S.2.1 dX12_ring_62 (lv_at hl 0 rfl) ?_
            refine ud_Vi (As := [.int (nI o), .int (nI N)]) (rest := [.ref (G.2.2 87), .int (nI (N + 1))]) S hK hA Z (c_X12_walk l G o N (by omega) (by omega) (uAr (uAr M 86 nx) 87 me) nx (fun i => (uAr_o _ _ _ _ (by decide)).trans (uAr_g _ _ _ _)) hn8) (cwV 2 S.2.2.2.2 gX12_ring_X12_walk rfl rfl rfl (by decide +kernel) ⟨Nat.le_of_ble_eq_true rfl, Nat.le_of_ble_eq_true rfl⟩) (by decide) rfl rfl rfl hl.1 rfl (Nat.le_of_ble_eq_true rfl) dX12_ring_64 ⟨Nat.zero_le _, Nat.zero_le _⟩ (fun H locs Z => ?_)
            refine ua_ild S hK Z (it nx o N) (by decide) rfl rfl (by omega) dX12_ring_67 ?_
            refine utop (y := (nI (me (it nx o N)))) (uAr_g _ _ _ (it nx o N)) ?_
            refine utop (congrArg nI y4) ?_
            refine lv_isub S.1 S.2.1 dX12_ring_68 ?_
            refine utop (pk_sub (a := (N + 1)) (b := (K + 1)) (by omega)) ?_
            refine utop (congrArg nI (show N + 1 - (K + 1) = N - K by omega)) ?_
            refine lv_istore (lv' := [(6, .int (nI (N - K))), (5, .int (nI N)), (0, .ref (G.2.2 71)), (1, .int x), (2, .int (nI o)), (3, .int (nI m1)), (4, .int 0)]) S.1 S.2.1 dX12_ring_69 hl (by decide) rfl (fun ls hl => ?_)
            refine lv_iload S.1 S.2.1 dX12_ring_71 (lv_at hl 1 rfl) ?_
            refine lv_iload S.1 S.2.1 dX12_ring_73 (lv_at hl 0 rfl) ?_
            refine lv_isub S.1 S.2.1 dX12_ring_75 ?_
            refine utop (pk_sub (a := N) (b := (N - K)) (by omega)) ?_
            refine utop (congrArg nI (show N - (N - K) = K by omega)) ?_
            refine lv_istore (lv' := [(7, .int (nI K)), (6, .int (nI (N - K))), (5, .int (nI N)), (0, .ref (G.2.2 71)), (1, .int x), (2, .int (nI o)), (3, .int (nI m1)), (4, .int 0)]) S.1 S.2.1 dX12_ring_76 hl (by decide) rfl (fun ls hl => ?_)
            refine lv_iload_n S.1 S.2.1 dX12_ring_78 rfl (lv_at hl 6 rfl) ?_
            refine lv_iload S.1 S.2.1 dX12_ring_79 (lv_at hl 0 rfl) ?_
            refine lv_icmp_ge (tgt := 88) S.1 S.2.1 dX12_ring_81 (by decide) (fun c_11 => ?_) (fun c_11 => ?_)
            · skip
              have c_11 : K ≤ m1 := (nI_leI (a := K) (b := m1) (by omega) (by omega)).mp c_11
              have y5 := Nat.mod_lt (m1 - K) (show 0 < N - K by omega)
              refine lv_iload S.1 S.2.1 dX12_ring_88 (lv_at hl 0 rfl) ?_
              refine lv_iload_n S.1 S.2.1 dX12_ring_90 rfl (lv_at hl 6 rfl) ?_
              refine lv_iload S.1 S.2.1 dX12_ring_91 (lv_at hl 0 rfl) ?_
              refine lv_isub S.1 S.2.1 dX12_ring_93 ?_
              refine utop (pk_sub (a := m1) (b := K) (by omega)) ?_
              refine lv_iload S.1 S.2.1 dX12_ring_94 (lv_at hl 1 rfl) ?_
              refine lv_irem S.1 S.2.1 dX12_ring_96 (nI_ne0 (by omega) (by omega)) ?_
              refine utop (pk_rem (a := (m1 - K)) (d := (N - K)) (by omega) (by omega) (by omega)) ?_
              refine lv_iadd S.1 S.2.1 dX12_ring_97 ?_
              refine utop (nI_add K ((m1 - K) % (N - K))) ?_
              refine lv_istore (lv' := [(8, .int (nI (K + ((m1 - K) % (N - K))))), (7, .int (nI K)), (6, .int (nI (N - K))), (5, .int (nI N)), (0, .ref (G.2.2 71)), (1, .int x), (2, .int (nI o)), (3, .int (nI m1)), (4, .int 0)]) S.1 S.2.1 dX12_ring_98 hl (by decide) rfl (fun ls hl => ?_)
              refine lv_iload S.1 S.2.1 dX12_ring_100 (lv_at hl 8 rfl) ?_
              refine lv_if_ne (tgt := 115) S.1 S.2.1 dX12_ring_102 (by decide) (fun c => absurd c (by decide)) (fun _ => ?_)
              refine lv_aload_n S.1 S.2.1 dX12_ring_105 rfl (lv_at hl 4 rfl) ?_
              refine lv_iload_n S.1 S.2.1 dX12_ring_106 rfl (lv_at hl 6 rfl) ?_
              refine lv_iload S.1 S.2.1 dX12_ring_107 (lv_at hl 0 rfl) ?_
              refine ud_Vi (As := [.int (nI o), .int (nI (K + ((m1 - K) % (N - K))))]) (rest := []) S hK hA Z (c_X12_walk l G o (K + ((m1 - K) % (N - K))) (by omega) (by omega) (uAr (uAr M 86 nx) 87 me) nx (fun i => (uAr_o _ _ _ _ (by decide)).trans (uAr_g _ _ _ _)) hn8) (cwV 2 S.2.2.2.2 gX12_ring_X12_walk rfl rfl rfl (by decide +kernel) ⟨Nat.le_of_ble_eq_true rfl, Nat.le_of_ble_eq_true rfl⟩) (by decide) rfl rfl rfl hl.1 rfl (Nat.le_of_ble_eq_true rfl) dX12_ring_109 ⟨Nat.zero_le _, Nat.zero_le _⟩ (fun H locs Z => ?_)
              refine lv_goto (tgt := 128) S.1 S.2.1 dX12_ring_112 (by decide) ?_
              refine uret_i S hK Z hre hlk dX12_ring_128 ?_
              refine ⟨Or.inr (Or.inr ⟨u_inn0 (by omega) (by decide), u_inn0 (by omega) (by decide), ⟨by decide, by decide⟩, v, N, K, hrow, hv, hok, ?_, ?_⟩), mSm_r mSm_86 (by decide)⟩
              · rw [nI_clamp (show o < 2 ^ 31 by omega)]
                exact rEnd_congr (it_dg hnx hok (by omega)) ⟨e1, e2, e3, e4, e5⟩
              · rw [if_pos rfl]
                refine congrArg nI ?_
                rw [nI_clamp (show o < 2 ^ 31 by omega), nI_clamp (show m1 < 2 ^ 31 by omega), ← ring_m e3, ← it_dg hnx hok (by omega)]
                first | rw [if_pos (by omega)] | rw [if_neg (by omega)]
            · skip
              have c_11 : ¬ K ≤ m1 := fun z9 => c_11 ((nI_leI (a := K) (b := m1) (by omega) (by omega)).mpr z9)
              refine lv_iload_n S.1 S.2.1 dX12_ring_84 rfl (lv_at hl 6 rfl) ?_
              refine lv_goto (tgt := 98) S.1 S.2.1 dX12_ring_85 (by decide) ?_
              refine lv_istore (lv' := [(8, .int (nI m1)), (7, .int (nI K)), (6, .int (nI (N - K))), (5, .int (nI N)), (0, .ref (G.2.2 71)), (1, .int x), (2, .int (nI o)), (3, .int (nI m1)), (4, .int 0)]) S.1 S.2.1 dX12_ring_98 hl (by decide) rfl (fun ls hl => ?_)
              refine lv_iload S.1 S.2.1 dX12_ring_100 (lv_at hl 8 rfl) ?_
              refine lv_if_ne (tgt := 115) S.1 S.2.1 dX12_ring_102 (by decide) (fun c => absurd c (by decide)) (fun _ => ?_)
              refine lv_aload_n S.1 S.2.1 dX12_ring_105 rfl (lv_at hl 4 rfl) ?_
              refine lv_iload_n S.1 S.2.1 dX12_ring_106 rfl (lv_at hl 6 rfl) ?_
              refine lv_iload S.1 S.2.1 dX12_ring_107 (lv_at hl 0 rfl) ?_
              refine ud_Vi (As := [.int (nI o), .int (nI m1)]) (rest := []) S hK hA Z (c_X12_walk l G o m1 (by omega) (by omega) (uAr (uAr M 86 nx) 87 me) nx (fun i => (uAr_o _ _ _ _ (by decide)).trans (uAr_g _ _ _ _)) hn8) (cwV 2 S.2.2.2.2 gX12_ring_X12_walk rfl rfl rfl (by decide +kernel) ⟨Nat.le_of_ble_eq_true rfl, Nat.le_of_ble_eq_true rfl⟩) (by decide) rfl rfl rfl hl.1 rfl (Nat.le_of_ble_eq_true rfl) dX12_ring_109 ⟨Nat.zero_le _, Nat.zero_le _⟩ (fun H locs Z => ?_)
              refine lv_goto (tgt := 128) S.1 S.2.1 dX12_ring_112 (by decide) ?_
              refine uret_i S hK Z hre hlk dX12_ring_128 ?_
              refine ⟨Or.inr (Or.inr ⟨u_inn0 (by omega) (by decide), u_inn0 (by omega) (by decide), ⟨by decide, by decide⟩, v, N, K, hrow, hv, hok, ?_, ?_⟩), mSm_r mSm_86 (by decide)⟩
              · rw [nI_clamp (show o < 2 ^ 31 by omega)]
                exact rEnd_congr (it_dg hnx hok (by omega)) ⟨e1, e2, e3, e4, e5⟩
              · rw [if_pos rfl]
                refine congrArg nI ?_
                rw [nI_clamp (show o < 2 ^ 31 by omega), nI_clamp (show m1 < 2 ^ 31 by omega), ← ring_m e3, ← it_dg hnx hok (by omega)]
                first | rw [if_pos (by omega)] | rw [if_neg (by omega)]
          · skip
            obtain ⟨o, ho, rfl⟩ := u_in0 (n := 7) (show inr y 0 7 by assumption) (by decide)
            obtain ⟨m1, hm1, rfl⟩ := u_in0 (n := 999999999) (show inr m 0 999999999 by assumption) (by decide)
            have hn8 : ∀ i, i < 8 → nx i < 8 := fun i hi => by
              rw [hnx i hi]
              have := hok.2 i hi
              omega
            obtain ⟨me0, hme0⟩ := uAr_ex (uAr M 86 nx) 87
            refine lv_aload_n S.1 S.2.1 dX12_ring_45 rfl (lv_at hl 0 rfl) ?_
            refine lv_iload_n S.1 S.2.1 dX12_ring_46 rfl (lv_at hl 2 rfl) ?_
            refine uc_Vi (As := [.int (nI o)]) (rest := []) S hK hA Z ((by have h9 := c_X12_goRing l G o (by omega) (uAr M 86 nx) me0 nx (fun i => uAr_g _ _ _ _) hn8; rw [hme0] at h9; exact h9)) (cwV 1 S.2.2.2.2 gX12_ring_X12_goRing rfl rfl rfl (by decide +kernel) ⟨Nat.le_of_ble_eq_true rfl, Nat.le_of_ble_eq_true rfl⟩) (by decide) rfl rfl rfl hl.1 rfl (Nat.le_of_ble_eq_true rfl) dX12_ring_47 ⟨Nat.zero_le _, Nat.zero_le _⟩ (fun r_16 M_16 H locs hp Z => ?_)
            obtain ⟨N, K, me, hE, hM2, hrN, hme⟩ := hp
            rw [hM2] at Z
            refine utop hrN ?_
            obtain ⟨e1, e2, e3, e4, e5⟩ := hE
            have y3 := it_lt hn8 (x := o) (by omega) N
            have y4 : me (it nx o N) = K + 1 := by rw [← e4]; exact hme K e3
            refine lv_istore (lv' := [(5, .int (nI N)), (0, .ref (G.2.2 71)), (1, .int x), (2, .int (nI o)), (3, .int (nI m1)), (4, .int 1)]) S.1 S.2.1 dX12_ring_50 hl (by decide) rfl (fun ls hl => ?_)
            refine lv_iload S.1 S.2.1 dX12_ring_52 (lv_at hl 0 rfl) ?_
            refine lv_iconst (v := 1) S.1 S.2.1 dX12_ring_54 (by decide) ?_
            refine lv_iadd S.1 S.2.1 dX12_ring_55 ?_
            refine utop (nI_add N 1) ?_
            refine lv_aload_n S.1 S.2.1 dX12_ring_56 rfl (lv_at hl 1 rfl) ?_
            refine ug_r S hK Z (j := 26) 87 (by decide) rfl rfl rfl (by decide) iX12_ring_X12 qX12_ring_55 dX12_ring_57 ?_
            refine lv_aload_n S.1 S.2.1 dX12_ring_60 rfl (lv_at hl 1 rfl) ?_
            refine lv_iload_n S.1 S.2.1 dX12_ring_61 rfl (lv_at hl 3 rfl) ?_
            refine lv_iload S.1 S.2.1 dX12_ring_62 (lv_at hl 0 rfl) ?_
            refine ud_Vi (As := [.int (nI o), .int (nI N)]) (rest := [.ref (G.2.2 87), .int (nI (N + 1))]) S hK hA Z (c_X12_walk l G o N (by omega) (by omega) (uAr (uAr M 86 nx) 87 me) nx (fun i => (uAr_o _ _ _ _ (by decide)).trans (uAr_g _ _ _ _)) hn8) (cwV 2 S.2.2.2.2 gX12_ring_X12_walk rfl rfl rfl (by decide +kernel) ⟨Nat.le_of_ble_eq_true rfl, Nat.le_of_ble_eq_true rfl⟩) (by decide) rfl rfl rfl hl.1 rfl (Nat.le_of_ble_eq_true rfl) dX12_ring_64 ⟨Nat.zero_le _, Nat.zero_le _⟩ (fun H locs Z => ?_)
            refine ua_ild S hK Z (it nx o N) (by decide) rfl rfl (by omega) dX12_ring_67 ?_
            refine utop (y := (nI (me (it nx o N)))) (uAr_g _ _ _ (it nx o N)) ?_
            refine utop (congrArg nI y4) ?_
            refine lv_isub S.1 S.2.1 dX12_ring_68 ?_
            refine utop (pk_sub (a := (N + 1)) (b := (K + 1)) (by omega)) ?_
            refine utop (congrArg nI (show N + 1 - (K + 1) = N - K by omega)) ?_
            refine lv_istore (lv' := [(6, .int (nI (N - K))), (5, .int (nI N)), (0, .ref (G.2.2 71)), (1, .int x), (2, .int (nI o)), (3, .int (nI m1)), (4, .int 1)]) S.1 S.2.1 dX12_ring_69 hl (by decide) rfl (fun ls hl => ?_)
            refine lv_iload S.1 S.2.1 dX12_ring_71 (lv_at hl 1 rfl) ?_
            refine lv_iload S.1 S.2.1 dX12_ring_73 (lv_at hl 0 rfl) ?_
            refine lv_isub S.1 S.2.1 dX12_ring_75 ?_
            refine utop (pk_sub (a := N) (b := (N - K)) (by omega)) ?_
            refine utop (congrArg nI (show N - (N - K) = K by omega)) ?_
            refine lv_istore (lv' := [(7, .int (nI K)), (6, .int (nI (N - K))), (5, .int (nI N)), (0, .ref (G.2.2 71)), (1, .int x), (2, .int (nI o)), (3, .int (nI m1)), (4, .int 1)]) S.1 S.2.1 dX12_ring_76 hl (by decide) rfl (fun ls hl => ?_)
            refine lv_iload_n S.1 S.2.1 dX12_ring_78 rfl (lv_at hl 6 rfl) ?_
            refine lv_iload S.1 S.2.1 dX12_ring_79 (lv_at hl 0 rfl) ?_
            refine lv_icmp_ge (tgt := 88) S.1 S.2.1 dX12_ring_81 (by decide) (fun c_18 => ?_) (fun c_18 => ?_)
            · skip
              have c_18 : K ≤ m1 := (nI_leI (a := K) (b := m1) (by omega) (by omega)).mp c_18
              have y5 := Nat.mod_lt (m1 - K) (show 0 < N - K by omega)
              refine lv_iload S.1 S.2.1 dX12_ring_88 (lv_at hl 0 rfl) ?_
              refine lv_iload_n S.1 S.2.1 dX12_ring_90 rfl (lv_at hl 6 rfl) ?_
              refine lv_iload S.1 S.2.1 dX12_ring_91 (lv_at hl 0 rfl) ?_
              refine lv_isub S.1 S.2.1 dX12_ring_93 ?_
              refine utop (pk_sub (a := m1) (b := K) (by omega)) ?_
              refine lv_iload S.1 S.2.1 dX12_ring_94 (lv_at hl 1 rfl) ?_
              refine lv_irem S.1 S.2.1 dX12_ring_96 (nI_ne0 (by omega) (by omega)) ?_
              refine utop (pk_rem (a := (m1 - K)) (d := (N - K)) (by omega) (by omega) (by omega)) ?_
              refine lv_iadd S.1 S.2.1 dX12_ring_97 ?_
              refine utop (nI_add K ((m1 - K) % (N - K))) ?_
              refine lv_istore (lv' := [(8, .int (nI (K + ((m1 - K) % (N - K))))), (7, .int (nI K)), (6, .int (nI (N - K))), (5, .int (nI N)), (0, .ref (G.2.2 71)), (1, .int x), (2, .int (nI o)), (3, .int (nI m1)), (4, .int 1)]) S.1 S.2.1 dX12_ring_98 hl (by decide) rfl (fun ls hl => ?_)
              refine lv_iload S.1 S.2.1 dX12_ring_100 (lv_at hl 8 rfl) ?_
              refine lv_if_ne (tgt := 115) S.1 S.2.1 dX12_ring_102 (by decide) (fun _ => ?_) (fun c => absurd c (by decide))
              refine lv_iload S.1 S.2.1 dX12_ring_115 (lv_at hl 8 rfl) ?_
              refine lv_iconst (v := 1) S.1 S.2.1 dX12_ring_117 (by decide) ?_
              refine lv_icmp_ne (tgt := 126) S.1 S.2.1 dX12_ring_118 (by decide) (fun c => absurd c (by decide)) (fun _ => ?_)
              refine lv_iload S.1 S.2.1 dX12_ring_121 (lv_at hl 3 rfl) ?_
              refine lv_goto (tgt := 128) S.1 S.2.1 dX12_ring_123 (by decide) ?_
              refine uret_i S hK Z hre hlk dX12_ring_128 ?_
              refine ⟨Or.inr (Or.inr ⟨u_inn0 (by omega) (by decide), u_inn0 (by omega) (by decide), ⟨by decide, by decide⟩, v, N, K, hrow, hv, hok, ?_, ?_⟩), mSm_r mSm_86 (by decide)⟩
              · rw [nI_clamp (show o < 2 ^ 31 by omega)]
                exact rEnd_congr (it_dg hnx hok (by omega)) ⟨e1, e2, e3, e4, e5⟩
              · rw [if_neg (by decide), if_pos rfl]
            · skip
              have c_18 : ¬ K ≤ m1 := fun z9 => c_18 ((nI_leI (a := K) (b := m1) (by omega) (by omega)).mpr z9)
              refine lv_iload_n S.1 S.2.1 dX12_ring_84 rfl (lv_at hl 6 rfl) ?_
              refine lv_goto (tgt := 98) S.1 S.2.1 dX12_ring_85 (by decide) ?_
              refine lv_istore (lv' := [(8, .int (nI m1)), (7, .int (nI K)), (6, .int (nI (N - K))), (5, .int (nI N)), (0, .ref (G.2.2 71)), (1, .int x), (2, .int (nI o)), (3, .int (nI m1)), (4, .int 1)]) S.1 S.2.1 dX12_ring_98 hl (by decide) rfl (fun ls hl => ?_)
              refine lv_iload S.1 S.2.1 dX12_ring_100 (lv_at hl 8 rfl) ?_
              refine lv_if_ne (tgt := 115) S.1 S.2.1 dX12_ring_102 (by decide) (fun _ => ?_) (fun c => absurd c (by decide))
              refine lv_iload S.1 S.2.1 dX12_ring_115 (lv_at hl 8 rfl) ?_
              refine lv_iconst (v := 1) S.1 S.2.1 dX12_ring_117 (by decide) ?_
              refine lv_icmp_ne (tgt := 126) S.1 S.2.1 dX12_ring_118 (by decide) (fun c => absurd c (by decide)) (fun _ => ?_)
              refine lv_iload S.1 S.2.1 dX12_ring_121 (lv_at hl 3 rfl) ?_
              refine lv_goto (tgt := 128) S.1 S.2.1 dX12_ring_123 (by decide) ?_
              refine uret_i S hK Z hre hlk dX12_ring_128 ?_
              refine ⟨Or.inr (Or.inr ⟨u_inn0 (by omega) (by decide), u_inn0 (by omega) (by decide), ⟨by decide, by decide⟩, v, N, K, hrow, hv, hok, ?_, ?_⟩), mSm_r mSm_86 (by decide)⟩
              · rw [nI_clamp (show o < 2 ^ 31 by omega)]
                exact rEnd_congr (it_dg hnx hok (by omega)) ⟨e1, e2, e3, e4, e5⟩
              · rw [if_neg (by decide), if_pos rfl]
          · skip
            obtain ⟨o, ho, rfl⟩ := u_in0 (n := 7) (show inr y 0 7 by assumption) (by decide)
            obtain ⟨m1, hm1, rfl⟩ := u_in0 (n := 999999999) (show inr m 0 999999999 by assumption) (by decide)
            have hn8 : ∀ i, i < 8 → nx i < 8 := fun i hi => by
              rw [hnx i hi]
              have := hok.2 i hi
              omega
            obtain ⟨me0, hme0⟩ := uAr_ex (uAr M 86 nx) 87
            refine lv_aload_n S.1 S.2.1 dX12_ring_45 rfl (lv_at hl 0 rfl) ?_
            refine lv_iload_n S.1 S.2.1 dX12_ring_46 rfl (lv_at hl 2 rfl) ?_
            refine uc_Vi (As := [.int (nI o)]) (rest := []) S hK hA Z ((by have h9 := c_X12_goRing l G o (by omega) (uAr M 86 nx) me0 nx (fun i => uAr_g _ _ _ _) hn8; rw [hme0] at h9; exact h9)) (cwV 1 S.2.2.2.2 gX12_ring_X12_goRing rfl rfl rfl (by decide +kernel) ⟨Nat.le_of_ble_eq_true rfl, Nat.le_of_ble_eq_true rfl⟩) (by decide) rfl rfl rfl hl.1 rfl (Nat.le_of_ble_eq_true rfl) dX12_ring_47 ⟨Nat.zero_le _, Nat.zero_le _⟩ (fun r_23 M_23 H locs hp Z => ?_)
            obtain ⟨N, K, me, hE, hM2, hrN, hme⟩ := hp
            rw [hM2] at Z
            refine utop hrN ?_
            obtain ⟨e1, e2, e3, e4, e5⟩ := hE
            have y3 := it_lt hn8 (x := o) (by omega) N
            have y4 : me (it nx o N) = K + 1 := by rw [← e4]; exact hme K e3
            refine lv_istore (lv' := [(5, .int (nI N)), (0, .ref (G.2.2 71)), (1, .int x), (2, .int (nI o)), (3, .int (nI m1)), (4, .int 2)]) S.1 S.2.1 dX12_ring_50 hl (by decide) rfl (fun ls hl => ?_)
            refine lv_iload S.1 S.2.1 dX12_ring_52 (lv_at hl 0 rfl) ?_
            refine lv_iconst (v := 1) S.1 S.2.1 dX12_ring_54 (by decide) ?_
            refine lv_iadd S.1 S.2.1 dX12_ring_55 ?_
            refine utop (nI_add N 1) ?_
            refine lv_aload_n S.1 S.2.1 dX12_ring_56 rfl (lv_at hl 1 rfl) ?_
            refine ug_r S hK Z (j := 26) 87 (by decide) rfl rfl rfl (by decide) iX12_ring_X12 qX12_ring_55 dX12_ring_57 ?_
            refine lv_aload_n S.1 S.2.1 dX12_ring_60 rfl (lv_at hl 1 rfl) ?_
            refine lv_iload_n S.1 S.2.1 dX12_ring_61 rfl (lv_at hl 3 rfl) ?_
            refine lv_iload S.1 S.2.1 dX12_ring_62 (lv_at hl 0 rfl) ?_
            refine ud_Vi (As := [.int (nI o), .int (nI N)]) (rest := [.ref (G.2.2 87), .int (nI (N + 1))]) S hK hA Z (c_X12_walk l G o N (by omega) (by omega) (uAr (uAr M 86 nx) 87 me) nx (fun i => (uAr_o _ _ _ _ (by decide)).trans (uAr_g _ _ _ _)) hn8) (cwV 2 S.2.2.2.2 gX12_ring_X12_walk rfl rfl rfl (by decide +kernel) ⟨Nat.le_of_ble_eq_true rfl, Nat.le_of_ble_eq_true rfl⟩) (by decide) rfl rfl rfl hl.1 rfl (Nat.le_of_ble_eq_true rfl) dX12_ring_64 ⟨Nat.zero_le _, Nat.zero_le _⟩ (fun H locs Z => ?_)
            refine ua_ild S hK Z (it nx o N) (by decide) rfl rfl (by omega) dX12_ring_67 ?_
            refine utop (y := (nI (me (it nx o N)))) (uAr_g _ _ _ (it nx o N)) ?_
            refine utop (congrArg nI y4) ?_
            refine lv_isub S.1 S.2.1 dX12_ring_68 ?_
            refine utop (pk_sub (a := (N + 1)) (b := (K + 1)) (by omega)) ?_
            refine utop (congrArg nI (show N + 1 - (K + 1) = N - K by omega)) ?_
            refine lv_istore (lv' := [(6, .int (nI (N - K))), (5, .int (nI N)), (0, .ref (G.2.2 71)), (1, .int x), (2, .int (nI o)), (3, .int (nI m1)), (4, .int 2)]) S.1 S.2.1 dX12_ring_69 hl (by decide) rfl (fun ls hl => ?_)
            refine lv_iload S.1 S.2.1 dX12_ring_71 (lv_at hl 1 rfl) ?_
            refine lv_iload S.1 S.2.1 dX12_ring_73 (lv_at hl 0 rfl) ?_
            refine lv_isub S.1 S.2.1 dX12_ring_75 ?_
            refine utop (pk_sub (a := N) (b := (N - K)) (by omega)) ?_
            refine utop (congrArg nI (show N - (N - K) = K by omega)) ?_
            refine lv_istore (lv' := [(7, .int (nI K)), (6, .int (nI (N - K))), (5, .int (nI N)), (0, .ref (G.2.2 71)), (1, .int x), (2, .int (nI o)), (3, .int (nI m1)), (4, .int 2)]) S.1 S.2.1 dX12_ring_76 hl (by decide) rfl (fun ls hl => ?_)
            refine lv_iload_n S.1 S.2.1 dX12_ring_78 rfl (lv_at hl 6 rfl) ?_
            refine lv_iload S.1 S.2.1 dX12_ring_79 (lv_at hl 0 rfl) ?_
            refine lv_icmp_ge (tgt := 88) S.1 S.2.1 dX12_ring_81 (by decide) (fun c_25 => ?_) (fun c_25 => ?_)
            · skip
              have c_25 : K ≤ m1 := (nI_leI (a := K) (b := m1) (by omega) (by omega)).mp c_25
              have y5 := Nat.mod_lt (m1 - K) (show 0 < N - K by omega)
              refine lv_iload S.1 S.2.1 dX12_ring_88 (lv_at hl 0 rfl) ?_
              refine lv_iload_n S.1 S.2.1 dX12_ring_90 rfl (lv_at hl 6 rfl) ?_
              refine lv_iload S.1 S.2.1 dX12_ring_91 (lv_at hl 0 rfl) ?_
              refine lv_isub S.1 S.2.1 dX12_ring_93 ?_
              refine utop (pk_sub (a := m1) (b := K) (by omega)) ?_
              refine lv_iload S.1 S.2.1 dX12_ring_94 (lv_at hl 1 rfl) ?_
              refine lv_irem S.1 S.2.1 dX12_ring_96 (nI_ne0 (by omega) (by omega)) ?_
              refine utop (pk_rem (a := (m1 - K)) (d := (N - K)) (by omega) (by omega) (by omega)) ?_
              refine lv_iadd S.1 S.2.1 dX12_ring_97 ?_
              refine utop (nI_add K ((m1 - K) % (N - K))) ?_
              refine lv_istore (lv' := [(8, .int (nI (K + ((m1 - K) % (N - K))))), (7, .int (nI K)), (6, .int (nI (N - K))), (5, .int (nI N)), (0, .ref (G.2.2 71)), (1, .int x), (2, .int (nI o)), (3, .int (nI m1)), (4, .int 2)]) S.1 S.2.1 dX12_ring_98 hl (by decide) rfl (fun ls hl => ?_)
              refine lv_iload S.1 S.2.1 dX12_ring_100 (lv_at hl 8 rfl) ?_
              refine lv_if_ne (tgt := 115) S.1 S.2.1 dX12_ring_102 (by decide) (fun _ => ?_) (fun c => absurd c (by decide))
              refine lv_iload S.1 S.2.1 dX12_ring_115 (lv_at hl 8 rfl) ?_
              refine lv_iconst (v := 1) S.1 S.2.1 dX12_ring_117 (by decide) ?_
              refine lv_icmp_ne (tgt := 126) S.1 S.2.1 dX12_ring_118 (by decide) (fun _ => ?_) (fun c => absurd c (by decide))
              refine lv_iload S.1 S.2.1 dX12_ring_126 (lv_at hl 2 rfl) ?_
              refine uret_i S hK Z hre hlk dX12_ring_128 ?_
              refine ⟨Or.inr (Or.inr ⟨u_inn0 (by omega) (by decide), u_inn0 (by omega) (by decide), ⟨by decide, by decide⟩, v, N, K, hrow, hv, hok, ?_, ?_⟩), mSm_r mSm_86 (by decide)⟩
              · rw [nI_clamp (show o < 2 ^ 31 by omega)]
                exact rEnd_congr (it_dg hnx hok (by omega)) ⟨e1, e2, e3, e4, e5⟩
              · rw [if_neg (by decide), if_neg (by decide)]
            · skip
              have c_25 : ¬ K ≤ m1 := fun z9 => c_25 ((nI_leI (a := K) (b := m1) (by omega) (by omega)).mpr z9)
              refine lv_iload_n S.1 S.2.1 dX12_ring_84 rfl (lv_at hl 6 rfl) ?_
              refine lv_goto (tgt := 98) S.1 S.2.1 dX12_ring_85 (by decide) ?_
              refine lv_istore (lv' := [(8, .int (nI m1)), (7, .int (nI K)), (6, .int (nI (N - K))), (5, .int (nI N)), (0, .ref (G.2.2 71)), (1, .int x), (2, .int (nI o)), (3, .int (nI m1)), (4, .int 2)]) S.1 S.2.1 dX12_ring_98 hl (by decide) rfl (fun ls hl => ?_)
              refine lv_iload S.1 S.2.1 dX12_ring_100 (lv_at hl 8 rfl) ?_
              refine lv_if_ne (tgt := 115) S.1 S.2.1 dX12_ring_102 (by decide) (fun _ => ?_) (fun c => absurd c (by decide))
              refine lv_iload S.1 S.2.1 dX12_ring_115 (lv_at hl 8 rfl) ?_
              refine lv_iconst (v := 1) S.1 S.2.1 dX12_ring_117 (by decide) ?_
              refine lv_icmp_ne (tgt := 126) S.1 S.2.1 dX12_ring_118 (by decide) (fun _ => ?_) (fun c => absurd c (by decide))
              refine lv_iload S.1 S.2.1 dX12_ring_126 (lv_at hl 2 rfl) ?_
              refine uret_i S hK Z hre hlk dX12_ring_128 ?_
              refine ⟨Or.inr (Or.inr ⟨u_inn0 (by omega) (by decide), u_inn0 (by omega) (by decide), ⟨by decide, by decide⟩, v, N, K, hrow, hv, hok, ?_, ?_⟩), mSm_r mSm_86 (by decide)⟩
              · rw [nI_clamp (show o < 2 ^ 31 by omega)]
                exact rEnd_congr (it_dg hnx hok (by omega)) ⟨e1, e2, e3, e4, e5⟩
              · rw [if_neg (by decide), if_neg (by decide)]
        · skip
          rw [hM_7] at Z
          refine lv_if_ne (tgt := 45) S.1 S.2.1 dX12_ring_39 (by decide) (fun c => absurd c (by decide)) (fun _ => ?_)
          refine lv_bipush (v := (-2)) S.1 S.2.1 dX12_ring_42 (by decide) ?_
          refine uret_i S hK Z hre hlk dX12_ring_44 ?_
          first
            | exact ⟨Or.inr (Or.inl ⟨by assumption, Or.inr (Or.inr hno), rfl⟩), mSm_86⟩
            | exact ⟨Or.inr (Or.inl ⟨by assumption, Or.inl (by assumption), rfl⟩), mSm_86⟩
            | exact ⟨Or.inr (Or.inl ⟨by assumption, Or.inr (Or.inl (by assumption)), rfl⟩), mSm_86⟩
      · skip
        rw [hM_5] at Z
        refine lv_if_eq (tgt := 42) S.1 S.2.1 dX12_ring_26 (by decide) (fun _ => ?_) (fun c => absurd c (by decide))
        refine lv_bipush (v := (-2)) S.1 S.2.1 dX12_ring_42 (by decide) ?_
        refine uret_i S hK Z hre hlk dX12_ring_44 ?_
        first
          | exact ⟨Or.inr (Or.inl ⟨by assumption, Or.inr (Or.inr hno), rfl⟩), mSm_86⟩
          | exact ⟨Or.inr (Or.inl ⟨by assumption, Or.inl (by assumption), rfl⟩), mSm_86⟩
          | exact ⟨Or.inr (Or.inl ⟨by assumption, Or.inr (Or.inl (by assumption)), rfl⟩), mSm_86⟩
    · skip
      rw [hM] at Z
      refine lv_if_eq (tgt := 42) S.1 S.2.1 dX12_ring_14 (by decide) (fun _ => ?_) (fun c => absurd c (by decide))
      refine lv_bipush (v := (-2)) S.1 S.2.1 dX12_ring_42 (by decide) ?_
      refine uret_i S hK Z hre hlk dX12_ring_44 ?_
      first
        | exact ⟨Or.inr (Or.inl ⟨by assumption, Or.inr (Or.inr hno), rfl⟩), mSm_86⟩
        | exact ⟨Or.inr (Or.inl ⟨by assumption, Or.inl (by assumption), rfl⟩), mSm_86⟩
        | exact ⟨Or.inr (Or.inl ⟨by assumption, Or.inr (Or.inl (by assumption)), rfl⟩), mSm_86⟩
  · skip
    rw [hM_1] at Z
    refine lv_if_ne (tgt := 9) S.1 S.2.1 dX12_ring_4 (by decide) (fun c => absurd c (by decide)) (fun _ => ?_)
    refine lv_iconst (v := (-1)) S.1 S.2.1 dX12_ring_7 (by decide) ?_
    refine uret_i S hK Z hre hlk dX12_ring_8 ?_
    exact ⟨Or.inl ⟨by assumption, rfl⟩, mSm_rf _⟩
