/-! cells in numbers -/
def uAr (M : uM) (k : Nat) (f : Nat → Nat) : uM := (fun a i => if a = k then nI (f i) else M.1 a i, M.2)
def fu (f : Nat → Nat) (i v : Nat) : Nat → Nat := fun j => if j = i then v else f j
theorem fu_eq (f : Nat → Nat) (i v : Nat) : fu f i v i = v := by simp [fu]
theorem fu_ne {f : Nat → Nat} {i v j : Nat} (h : j ≠ i) : fu f i v j = f j := by simp [fu, h]
theorem uAr_g (M : uM) (k : Nat) (f : Nat → Nat) (i : Nat) : (uAr M k f).1 k i = nI (f i) := by simp [uAr]
theorem uAr_o (M : uM) (k : Nat) (f : Nat → Nat) (i : Nat) {a : Nat} (h : a ≠ k) : (uAr M k f).1 a i = M.1 a i := by simp [uAr, h]
theorem uAr_s (M : uM) (k : Nat) (f : Nat → Nat) (i v : Nat) : u1 (uAr M k f) k i (nI v) = uAr M k (fu f i v) := uM_ext (fun a c => by
  rw [u1_1]
  unfold uAr fu
  dsimp only
  by_cases h : a = k <;> by_cases h2 : c = i <;> simp [h, h2]) rfl
theorem uAr_c (M : uM) (k : Nat) (f : Nat → Nat) {a : Nat} (i : Nat) (v : Int32) (h : a ≠ k) : u1 (uAr M k f) a i v = uAr (u1 M a i v) k f := uM_ext (fun x c => by
  rw [u1_1]
  unfold uAr
  dsimp only
  rw [u1_1]
  by_cases h1 : x = k
  · subst h1
    rw [if_neg (fun z => h z.1.symm), if_pos rfl, if_pos rfl]
  · rw [if_neg h1, if_neg h1]) rfl
theorem uAr_fill (M : uM) (k : Nat) (f : Nat → Nat) (n v : Nat) : uFill (uAr M k f) k n (nI v) = uAr M k (fun i => if i < n then v else f i) := uM_ext (fun a c => by
  unfold uFill uAr
  dsimp only
  by_cases h : a = k <;> by_cases h2 : c < n <;> simp [h, h2]) rfl
theorem uAr_fillc (M : uM) (k : Nat) (f : Nat → Nat) {a : Nat} (n : Nat) (x : Int32) (h : a ≠ k) : uFill (uAr M k f) a n x = uAr (uFill M a n x) k f := uM_ext (fun b c => by
  unfold uFill uAr
  dsimp only
  by_cases h1 : b = k
  · subst h1
    rw [if_neg (fun z => h z.1.symm), if_pos rfl, if_pos rfl]
  · rw [if_neg h1, if_neg h1]) rfl
theorem nI_all (x : Int32) : ∃ n : Nat, x = nI n := ⟨x.toBitVec.toNat, Int32.toBitVec_inj.mp (by show _ = BitVec.ofNat 32 _; simp)⟩
theorem uAr_ex (M : uM) (k : Nat) : ∃ f, uAr M k f = M := by
  refine ⟨fun i => (M.1 k i).toBitVec.toNat, uM_ext (fun a i => ?_) rfl⟩
  by_cases h : a = k
  · subst h
    rw [uAr_g]
    exact Int32.toBitVec_inj.mp (by show BitVec.ofNat 32 _ = _; simp)
  · rw [uAr_o _ _ _ _ h]
theorem u_dec {r : Nat} (h : 0 < r) : nI r + Int32.ofInt (-1) = nI (r - 1) := by
  obtain ⟨q, rfl⟩ : ∃ q, r = q + 1 := ⟨r - 1, by omega⟩
  exact u_dec1 q
theorem u_down (q : Nat) : (q = 0 ∧ nI q + (-1) = -1) ∨ ∃ q', q = q' + 1 ∧ nI q + (-1) = nI q' := by
  cases q with
  | zero => exact Or.inl ⟨rfl, rfl⟩
  | succ q => exact Or.inr ⟨q, rfl, pk_m1 q⟩
/-! the digits of a number -/
def dg (v n i : Nat) : Nat := v / 10 ^ (n - 1 - i) % 10
theorem dg_div (v j : Nat) : v / 10 ^ j / 10 = v / 10 ^ (j + 1) := by
  rw [Nat.div_div_eq_div_mul, Nat.pow_succ]
theorem div_bd (v p : Nat) (h : v < 2147483648) : v / p < 2147483648 := Nat.lt_of_le_of_lt (Nat.div_le_self _ _) h
/-! a sack, thing by thing -/
def ofF (f : Nat → Nat) (v wt c r : Nat) : Nat → Nat := fun i => if r < i ∧ i ≤ c ∧ wt ≤ i ∧ f i < f (i - wt) + v then f (i - wt) + v else f i
def ofG (f g : Nat → Nat) (t v wt c r : Nat) : Nat → Nat := fun i => if r < i ∧ i ≤ c ∧ wt ≤ i ∧ f i < f (i - wt) + v then g (i - wt) ||| 2 ^ t else g i
theorem ofF_0 (f : Nat → Nat) (v wt c : Nat) : ofF f v wt c c = f := funext fun i => by
  unfold ofF
  rw [if_neg (by omega)]
theorem ofG_0 (f g : Nat → Nat) (t v wt c : Nat) : ofG f g t v wt c c = g := funext fun i => by
  unfold ofG
  rw [if_neg (by omega)]
theorem ofF_at {f : Nat → Nat} {v wt c r i : Nat} (h : i ≤ r) : ofF f v wt c r i = f i := by
  unfold ofF
  rw [if_neg (by omega)]
theorem ofG_at {f g : Nat → Nat} {t v wt c r i : Nat} (h : i ≤ r) : ofG f g t v wt c r i = g i := by
  unfold ofG
  rw [if_neg (by omega)]
theorem ofF_1 {f : Nat → Nat} {v wt c r : Nat} (hr : r ≤ c) (h0 : 0 < r) (hw : wt ≤ r) (h : f r < f (r - wt) + v) : fu (ofF f v wt c r) r (f (r - wt) + v) = ofF f v wt c (r - 1) := funext fun i => by
  unfold fu
  by_cases hi : i = r
  · subst hi
    rw [if_pos rfl]
    unfold ofF
    rw [if_pos ⟨by omega, hr, hw, h⟩]
  · rw [if_neg hi]
    unfold ofF
    by_cases q : r < i
    · by_cases z : i ≤ c ∧ wt ≤ i ∧ f i < f (i - wt) + v
      · rw [if_pos ⟨q, z⟩, if_pos ⟨by omega, z⟩]
      · rw [if_neg (fun y => z y.2), if_neg (fun y => z y.2)]
    · rw [if_neg (fun y => q y.1), if_neg (fun y => by omega)]
theorem ofG_1 {f g : Nat → Nat} {t v wt c r : Nat} (hr : r ≤ c) (h0 : 0 < r) (hw : wt ≤ r) (h : f r < f (r - wt) + v) : fu (ofG f g t v wt c r) r (g (r - wt) ||| 2 ^ t) = ofG f g t v wt c (r - 1) := funext fun i => by
  unfold fu
  by_cases hi : i = r
  · subst hi
    rw [if_pos rfl]
    unfold ofG
    rw [if_pos ⟨by omega, hr, hw, h⟩]
  · rw [if_neg hi]
    unfold ofG
    by_cases q : r < i
    · by_cases z : i ≤ c ∧ wt ≤ i ∧ f i < f (i - wt) + v
      · rw [if_pos ⟨q, z⟩, if_pos ⟨by omega, z⟩]
      · rw [if_neg (fun y => z y.2), if_neg (fun y => z y.2)]
    · rw [if_neg (fun y => q y.1), if_neg (fun y => by omega)]
theorem ofF_2 {f : Nat → Nat} {v wt c r : Nat} (h : ¬ f r < f (r - wt) + v) : ofF f v wt c r = ofF f v wt c (r - 1) := funext fun i => by
  unfold ofF
  by_cases q : r < i
  · by_cases z : i ≤ c ∧ wt ≤ i ∧ f i < f (i - wt) + v
    · rw [if_pos ⟨q, z⟩, if_pos ⟨by omega, z⟩]
    · rw [if_neg (fun y => z y.2), if_neg (fun y => z y.2)]
  · by_cases hi : i = r
    · subst hi
      rw [if_neg (fun y => q y.1), if_neg (fun y => h y.2.2.2)]
    · rw [if_neg (fun y => q y.1), if_neg (fun y => by omega)]
theorem ofG_2 {f g : Nat → Nat} {t v wt c r : Nat} (h : ¬ f r < f (r - wt) + v) : ofG f g t v wt c r = ofG f g t v wt c (r - 1) := funext fun i => by
  unfold ofG
  by_cases q : r < i
  · by_cases z : i ≤ c ∧ wt ≤ i ∧ f i < f (i - wt) + v
    · rw [if_pos ⟨q, z⟩, if_pos ⟨by omega, z⟩]
    · rw [if_neg (fun y => z y.2), if_neg (fun y => z y.2)]
  · by_cases hi : i = r
    · subst hi
      rw [if_neg (fun y => q y.1), if_neg (fun y => h y.2.2.2)]
    · rw [if_neg (fun y => q y.1), if_neg (fun y => by omega)]
/-- what stands behind the first t things: the most worth, and the set, by room -/
def dpS (w : Nat → Nat → Nat) (k c : Nat) (f g : Nat → Nat) : Nat → (Nat → Nat) × (Nat → Nat)
  | 0 => (f, g)
  | t + 1 => if w 1 t = k then dpS w k c f g t else (ofF (dpS w k c f g t).1 (w 3 t) (w 4 t) c (w 4 t - 1), ofG (dpS w k c f g t).1 (dpS w k c f g t).2 t (w 3 t) (w 4 t) c (w 4 t - 1))
def f0 (n : Nat) (f : Nat → Nat) : Nat → Nat := fun i => if i < n then 0 else f i
theorem dpS_bd {w : Nat → Nat → Nat} (hw : wOk w) (k c : Nat) (f g : Nat → Nat) (hf : ∀ i, i ≤ c → f i = 0) : ∀ t, t ≤ 12 → ∀ i, i ≤ c → (dpS w k c f g t).1 i ≤ 99 * t := by
  intro t
  induction t with
  | zero => intro _ i hi; rw [show (dpS w k c f g 0).1 = f from rfl, hf i hi]; exact Nat.zero_le _
  | succ t ih =>
    intro ht i hi
    have h3 := (hw.1 t (by omega)).2.2.1
    rw [dpS]
    split
    · have := ih (by omega) i hi
      omega
    · show ofF _ _ _ _ _ i ≤ _
      unfold ofF
      have h1 := ih (by omega) i hi
      have h2 := ih (by omega) (i - w 4 t) (by omega)
      split <;> omega
theorem qX6_offer_9 : Cond.fieldLink RX6 9 (TX6 0).1 (TX6 0).2.1 (TX6 0).2.2.1 ∈ wsX6_offer := List.mem_of_getElem? (i := 1) rfl
theorem iX6_offer_X6 : ∀ w ∈ wsX60, w ∈ wsX6_offer := fun _ h => List.mem_cons_of_mem _ (List.mem_append_right _ h)
theorem qX6_offer_15 : Cond.fieldLink RX6 15 (TX6 1).1 (TX6 1).2.1 (TX6 1).2.2.1 ∈ wsX6_offer := List.mem_of_getElem? (i := 2) rfl
theorem qX6_fill_9 : Cond.fieldLink RX6 9 (TX6 0).1 (TX6 0).2.1 (TX6 0).2.2.1 ∈ wsX6_fill := List.mem_of_getElem? (i := 1) rfl
theorem iX6_fill_X6 : ∀ w ∈ wsX60, w ∈ wsX6_fill := fun _ h => List.mem_cons_of_mem _ (List.mem_append_left _ (List.mem_append_right _ h))
theorem qX6_fill_15 : Cond.fieldLink RX6 15 (TX6 1).1 (TX6 1).2.1 (TX6 1).2.2.1 ∈ wsX6_fill := List.mem_of_getElem? (i := 2) rfl
theorem qX6_fill_24 : Cond.fieldLink RX6 24 (TX10 0).1 (TX10 0).2.1 (TX10 0).2.2.1 ∈ wsX6_fill := List.mem_of_getElem? (i := 3) rfl
theorem iX6_fill_X10 : ∀ w ∈ wsX100, w ∈ wsX6_fill := fun _ h => List.mem_cons_of_mem _ (List.mem_append_right _ h)
theorem qX6_fill_33 : Cond.fieldLink RX6 33 (TX10 2).1 (TX10 2).2.1 (TX10 2).2.2.1 ∈ wsX6_fill := List.mem_of_getElem? (i := 4) rfl
theorem qX6_fill_34 : Cond.fieldLink RX6 34 (TX10 3).1 (TX10 3).2.1 (TX10 3).2.2.1 ∈ wsX6_fill := List.mem_of_getElem? (i := 5) rfl
set_option maxHeartbeats 4000000 in
set_option maxRecDepth 100000 in
theorem c_X5_readDigits (l : Launch) (G : uG) (v d k n : Nat) (hv : v < 2147483648) (hd1 : 1 ≤ d) (hd : d ≤ n) (hk : k < 96) (hs : uSh k = .inr (0, n)) (M : uM) (f : Nat → Nat) : CTi l G yX5_readDigits wsX5_readDigits 1 22 [.int (nI v), .int (nI d), .ref (G.2.2 k)] (uAr M k f) (fun r M2 => ((r = 1 ∧ v / 10 ^ d = 0) ∨ (r = 0 ∧ ¬ v / 10 ^ d = 0)) ∧ M2 = uAr M k (fun i => if i < d then dg v d i else f i)) := by
  have hn : n < 8000 := uSh_lt k hk (0, n) hs
  refine ustart_i (cc := cX5_readDigits) (maxL := 5) (ret := (some .boolean)) (own := RX5) rfl (by decide) rfl (Nat.le_of_ble_eq_true rfl) ?_
  intro xp xe xs xm xa xb xt xc xA ls S hK hA Z hre hlk hl
  have hl : lv_has ls 5 [(0, .int (nI v)), (1, .int (nI d)), (2, .ref (G.2.2 k))] := hl
  refine lv_iload_n S.1 S.2.1 dX5_readDigits_0 rfl (lv_at hl 0 rfl) ?_
  refine lv_istore_n (lv' := [(3, .int (nI v)), (0, .int (nI v)), (1, .int (nI d)), (2, .ref (G.2.2 k))]) S.1 S.2.1 dX5_readDigits_1 rfl hl (by decide) rfl (fun ls hl => ?_)
  refine lv_iload_n S.1 S.2.1 dX5_readDigits_2 rfl (lv_at hl 2 rfl) ?_
  refine lv_iconst (v := 1) S.1 S.2.1 dX5_readDigits_3 (by decide) ?_
  refine lv_isub S.1 S.2.1 dX5_readDigits_4 ?_
  refine utop (pk_sub (a := d) (b := 1) (by omega)) ?_
  refine lv_istore (lv' := [(4, .int (nI (d - 1))), (3, .int (nI v)), (0, .int (nI v)), (1, .int (nI d)), (2, .ref (G.2.2 k))]) S.1 S.2.1 dX5_readDigits_5 hl (by decide) rfl (fun ls hl => ?_)
  have LP7 : ∀ (fU : Nat) (q : Nat) (x4 : Int32) (rs : Nat) (h : Nat → Nat), (d < (d - q) + fU) → (q ≤ d) → ((q = 0 ∧ x4 = -1) ∨ ∃ q1, q = q1 + 1 ∧ x4 = nI q1) → (rs = v / 10 ^ (d - q)) → (∀ i, h i = if q ≤ i ∧ i < d then dg v d i else f i) → ∀ (H : Heap) (locs : List Loc) (ls : Array Slot), uZ G xA (uAr M k h) xs.heap H locs → lv_has ls 5 [(4, .int x4), (3, .int (nI rs)), (0, .int (nI v)), (1, .int (nI d)), (2, .ref (G.2.2 k))] → W xp l xe (uRm 1 22) xs xm xa xb xt xc H locs 0 0 (MQ xb (va_Qi (fun r M2 => ((r = 1 ∧ v / 10 ^ d = 0) ∨ (r = 0 ∧ ¬ v / 10 ^ d = 0)) ∧ M2 = uAr M k (fun i => if i < d then dg v d i else f i)) (fun M' t => uB G M' t) xA) xa xs 0 0 xA) (F0 xm 7 ls []) := by
    intro fU
    induction fU with
    | zero =>
      intro q x4 rs h hfl hq hx hr hh H locs ls Z hl
      exfalso
      omega
    | succ fU ih7 =>
      intro q x4 rs h hfl hq hx hr hh H locs ls Z hl
      have hrb : rs < 2147483648 := by rw [hr]; exact div_bd _ _ hv
      rcases hx with ⟨hq0, hx⟩ | ⟨q1, hq0, hx⟩
      · skip
        subst hq0
        subst hx
        refine lv_iload S.1 S.2.1 dX5_readDigits_7 (lv_at hl 0 rfl) ?_
        refine lv_if_lt (tgt := 33) S.1 S.2.1 dX5_readDigits_9 (by decide) (fun _ => ?_) (fun c => absurd c (by decide))
        refine lv_iload_n S.1 S.2.1 dX5_readDigits_33 rfl (lv_at hl 2 rfl) ?_
        refine lv_if_lt (tgt := 45) S.1 S.2.1 dX5_readDigits_34 (by decide) (fun c_2 => ?_) (fun c_2 => ?_)
        · skip
          have c_2 : v < 0 := (nI_ltI (a := v) (b := 0) (by omega) (by omega)).mp c_2
          omega
        · skip
          have c_2 : ¬ v < 0 := fun z9 => c_2 ((nI_ltI (a := v) (b := 0) (by omega) (by omega)).mpr z9)
          refine lv_iload_n S.1 S.2.1 dX5_readDigits_37 rfl (lv_at hl 1 rfl) ?_
          refine lv_if_ne (tgt := 45) S.1 S.2.1 dX5_readDigits_38 (by decide) (fun c_3 => ?_) (fun c_3 => ?_)
          · skip
            have c_3 : ¬ rs = 0 := fun z9 => c_3 ((nI_eq (a := rs) (b := 0) (by omega) (by omega)).mpr z9)
            refine lv_iconst (v := 0) S.1 S.2.1 dX5_readDigits_45 (by decide) ?_
            refine uret_z S hK Z hre hlk (by decide) dX5_readDigits_46 ?_
            have e1 : (fun i => if i < d then dg v d i else f i) = h := funext fun i => by
              rw [hh i]
              by_cases y : i < d
              · rw [if_pos y, if_pos ⟨Nat.zero_le _, y⟩]
              · rw [if_neg y, if_neg (fun x => y x.2)]
            rw [Nat.sub_zero] at hr
            rw [e1]
            exact ⟨Or.inr ⟨rfl, by omega⟩, rfl⟩
          · skip
            have c_3 : rs = 0 := (nI_eq (a := rs) (b := 0) (by omega) (by omega)).mp c_3
            refine lv_iconst (v := 1) S.1 S.2.1 dX5_readDigits_41 (by decide) ?_
            refine lv_goto (tgt := 46) S.1 S.2.1 dX5_readDigits_42 (by decide) ?_
            refine uret_z S hK Z hre hlk (by decide) dX5_readDigits_46 ?_
            have e1 : (fun i => if i < d then dg v d i else f i) = h := funext fun i => by
              rw [hh i]
              by_cases y : i < d
              · rw [if_pos y, if_pos ⟨Nat.zero_le _, y⟩]
              · rw [if_neg y, if_neg (fun x => y x.2)]
            rw [Nat.sub_zero] at hr
            rw [e1]
            exact ⟨Or.inl ⟨rfl, by omega⟩, rfl⟩
      · skip
        subst hq0
        subst hx
        refine lv_iload S.1 S.2.1 dX5_readDigits_7 (lv_at hl 0 rfl) ?_
        refine lv_if_lt (tgt := 33) S.1 S.2.1 dX5_readDigits_9 (by decide) (fun c_4 => ?_) (fun c_4 => ?_)
        · skip
          have c_4 : q1 < 0 := (nI_ltI (a := q1) (b := 0) (by omega) (by omega)).mp c_4
          omega
        · skip
          have c_4 : ¬ q1 < 0 := fun z9 => c_4 ((nI_ltI (a := q1) (b := 0) (by omega) (by omega)).mpr z9)
          refine lv_aload_n S.1 S.2.1 dX5_readDigits_12 rfl (lv_at hl 4 rfl) ?_
          refine lv_iload S.1 S.2.1 dX5_readDigits_13 (lv_at hl 0 rfl) ?_
          refine lv_iload_n S.1 S.2.1 dX5_readDigits_15 rfl (lv_at hl 1 rfl) ?_
          refine lv_bipush (v := 10) S.1 S.2.1 dX5_readDigits_16 (by decide) ?_
          refine lv_irem S.1 S.2.1 dX5_readDigits_18 (by decide) ?_
          refine utop (pk_rem (a := rs) (d := 10) (by omega) (by omega) (by omega)) ?_
          refine ud_Sv (As := [.ref (G.2.2 k), .int (nI q1), .int (nI (rs % 10))]) (rest := []) S hK hA Z (c_X5_put l G k n q1 hk hs (by omega) (nI (rs % 10)) (uAr M k h)) (va_cwS 3 S.2.2.2.2 gX5_readDigits_X5_put rfl rfl rfl (by decide +kernel) ⟨Nat.le_of_ble_eq_true rfl, Nat.le_of_ble_eq_true rfl⟩) rfl hl.1 rfl (Nat.le_of_ble_eq_true rfl) dX5_readDigits_19 ⟨Nat.zero_le _, Nat.zero_le _⟩ (fun H locs Z => ?_)
          have Z := uZ_eq (uAr_s M k h q1 (rs % 10)) Z
          refine lv_iload_n S.1 S.2.1 dX5_readDigits_22 rfl (lv_at hl 1 rfl) ?_
          refine lv_bipush (v := 10) S.1 S.2.1 dX5_readDigits_23 (by decide) ?_
          refine lv_idiv S.1 S.2.1 dX5_readDigits_25 (by decide) ?_
          refine utop (pk_div (a := rs) (d := 10) (by omega) (by omega) (by omega)) ?_
          refine lv_istore_n (lv' := [(3, .int (nI (rs / 10))), (4, .int (nI q1)), (0, .int (nI v)), (1, .int (nI d)), (2, .ref (G.2.2 k))]) S.1 S.2.1 dX5_readDigits_26 rfl hl (by decide) rfl (fun ls hl => ?_)
          refine lv_iinc (v := ((nI q1) + (-1))) (lv' := [(4, .int ((nI q1) + (-1))), (3, .int (nI (rs / 10))), (0, .int (nI v)), (1, .int (nI d)), (2, .ref (G.2.2 k))]) S.1 S.2.1 dX5_readDigits_27 hl (k := 1) rfl rfl (by decide) rfl (fun ls hl => ?_)
          refine lv_goto (tgt := 7) S.1 S.2.1 dX5_readDigits_30 (by decide) ?_
          exact ih7 q1 ((nI q1) + (-1)) (rs / 10) (fu h q1 (rs % 10)) (by omega) (by omega) (by exact u_down q1) (by rw [hr, dg_div, show d - (q1 + 1) + 1 = d - q1 from by omega]) (by
              intro i
              by_cases z : i = q1
              · subst z
                rw [fu_eq, if_pos ⟨Nat.le_refl _, by omega⟩, hr]
                unfold dg
                rw [show d - (i + 1) = d - 1 - i from by omega]
              · rw [fu_ne z, hh i]
                by_cases y : q1 + 1 ≤ i ∧ i < d
                · rw [if_pos y, if_pos ⟨by omega, y.2⟩]
                · rw [if_neg y, if_neg (fun x => y ⟨by omega, x.2⟩)]) _ _ _ Z (lv_sub hl [0, 1, 2, 3, 4] rfl)
  exact LP7 (d + 1) d (nI (d - 1)) v f (by omega) (by omega) (by exact Or.inr ⟨d - 1, by omega, rfl⟩) (by rw [Nat.sub_self, Nat.pow_zero, Nat.div_one]) (by
      intro i
      rw [if_neg (by omega)]) _ _ _ Z (lv_sub hl [0, 1, 2, 3, 4] rfl)
set_option maxHeartbeats 4000000 in
set_option maxRecDepth 100000 in
theorem c_X5_readDigitsN (l : Launch) (G : uG) (x : Int32) (d k n : Nat) (hx0 : x < 0) (hd1 : 1 ≤ d) (hd : d ≤ n) (hk : k < 96) (hs : uSh k = .inr (0, n)) (M : uM) : CTi l G yX5_readDigits wsX5_readDigits 1 22 [.int x, .int (nI d), .ref (G.2.2 k)] M (fun r M2 => r = 0 ∧ ∀ a, a ≠ k → M2.1 a = M.1 a) := by
  have hn : n < 8000 := uSh_lt k hk (0, n) hs
  refine ustart_i (cc := cX5_readDigits) (maxL := 5) (ret := (some .boolean)) (own := RX5) rfl (by decide) rfl (Nat.le_of_ble_eq_true rfl) ?_
  intro xp xe xs xm xa xb xt xc xA ls S hK hA Z hre hlk hl
  have hl : lv_has ls 5 [(0, .int x), (1, .int (nI d)), (2, .ref (G.2.2 k))] := hl
  refine lv_iload_n S.1 S.2.1 dX5_readDigits_0 rfl (lv_at hl 0 rfl) ?_
  refine lv_istore_n (lv' := [(3, .int x), (0, .int x), (1, .int (nI d)), (2, .ref (G.2.2 k))]) S.1 S.2.1 dX5_readDigits_1 rfl hl (by decide) rfl (fun ls hl => ?_)
  refine lv_iload_n S.1 S.2.1 dX5_readDigits_2 rfl (lv_at hl 2 rfl) ?_
  refine lv_iconst (v := 1) S.1 S.2.1 dX5_readDigits_3 (by decide) ?_
  refine lv_isub S.1 S.2.1 dX5_readDigits_4 ?_
  refine utop (pk_sub (a := d) (b := 1) (by omega)) ?_
  refine lv_istore (lv' := [(4, .int (nI (d - 1))), (3, .int x), (0, .int x), (1, .int (nI d)), (2, .ref (G.2.2 k))]) S.1 S.2.1 dX5_readDigits_5 hl (by decide) rfl (fun ls hl => ?_)
  have LP7 : ∀ (fU : Nat) (q : Nat) (x4 : Int32) (rs : Int32) (M1 : uM), (d < (d - q) + fU) → (q ≤ d) → ((q = 0 ∧ x4 = -1) ∨ ∃ q1, q = q1 + 1 ∧ x4 = nI q1) → (∀ a, a ≠ k → M1.1 a = M.1 a) → ∀ (H : Heap) (locs : List Loc) (ls : Array Slot), uZ G xA M1 xs.heap H locs → lv_has ls 5 [(4, .int x4), (3, .int rs), (0, .int x), (1, .int (nI d)), (2, .ref (G.2.2 k))] → W xp l xe (uRm 1 22) xs xm xa xb xt xc H locs 0 0 (MQ xb (va_Qi (fun r M2 => r = 0 ∧ ∀ a, a ≠ k → M2.1 a = M.1 a) (fun M' t => uB G M' t) xA) xa xs 0 0 xA) (F0 xm 7 ls []) := by
    intro fU
    induction fU with
    | zero =>
      intro q x4 rs M1 hfl hq hx hh H locs ls Z hl
      exfalso
      omega
    | succ fU ih7 =>
      intro q x4 rs M1 hfl hq hx hh H locs ls Z hl
      rcases hx with ⟨hq0, hx⟩ | ⟨q1, hq0, hx⟩
      · skip
        subst hq0
        subst hx
        refine lv_iload S.1 S.2.1 dX5_readDigits_7 (lv_at hl 0 rfl) ?_
        refine lv_if_lt (tgt := 33) S.1 S.2.1 dX5_readDigits_9 (by decide) (fun _ => ?_) (fun c => absurd c (by decide))
        refine lv_iload_n S.1 S.2.1 dX5_readDigits_33 rfl (lv_at hl 2 rfl) ?_
        refine lv_if_lt (tgt := 45) S.1 S.2.1 dX5_readDigits_34 (by decide) (fun c_2 => ?_) (fun c_2 => ?_)
        · skip
          refine lv_iconst (v := 0) S.1 S.2.1 dX5_readDigits_45 (by decide) ?_
          refine uret_z S hK Z hre hlk (by decide) dX5_readDigits_46 ?_
          exact ⟨rfl, hh⟩
        · skip
          exact absurd hx0 c_2
      · skip
        subst hq0
        subst hx
        refine lv_iload S.1 S.2.1 dX5_readDigits_7 (lv_at hl 0 rfl) ?_
        refine lv_if_lt (tgt := 33) S.1 S.2.1 dX5_readDigits_9 (by decide) (fun c_3 => ?_) (fun c_3 => ?_)
        · skip
          have c_3 : q1 < 0 := (nI_ltI (a := q1) (b := 0) (by omega) (by omega)).mp c_3
          refine lv_iload_n S.1 S.2.1 dX5_readDigits_33 rfl (lv_at hl 2 rfl) ?_
          refine lv_if_lt (tgt := 45) S.1 S.2.1 dX5_readDigits_34 (by decide) (fun c_4 => ?_) (fun c_4 => ?_)
          · skip
            refine lv_iconst (v := 0) S.1 S.2.1 dX5_readDigits_45 (by decide) ?_
            refine uret_z S hK Z hre hlk (by decide) dX5_readDigits_46 ?_
            exact ⟨rfl, hh⟩
          · skip
            exact absurd hx0 c_4
        · skip
          have c_3 : ¬ q1 < 0 := fun z9 => c_3 ((nI_ltI (a := q1) (b := 0) (by omega) (by omega)).mpr z9)
          refine lv_aload_n S.1 S.2.1 dX5_readDigits_12 rfl (lv_at hl 4 rfl) ?_
          refine lv_iload S.1 S.2.1 dX5_readDigits_13 (lv_at hl 0 rfl) ?_
          refine lv_iload_n S.1 S.2.1 dX5_readDigits_15 rfl (lv_at hl 1 rfl) ?_
          refine lv_bipush (v := 10) S.1 S.2.1 dX5_readDigits_16 (by decide) ?_
          refine lv_irem S.1 S.2.1 dX5_readDigits_18 (by decide) ?_
          refine ud_Sv (As := [.ref (G.2.2 k), .int (nI q1), .int (rs - rs / 10 * 10)]) (rest := []) S hK hA Z (c_X5_put l G k n q1 hk hs (by omega) (rs - rs / 10 * 10) M1) (va_cwS 3 S.2.2.2.2 gX5_readDigits_X5_put rfl rfl rfl (by decide +kernel) ⟨Nat.le_of_ble_eq_true rfl, Nat.le_of_ble_eq_true rfl⟩) rfl hl.1 rfl (Nat.le_of_ble_eq_true rfl) dX5_readDigits_19 ⟨Nat.zero_le _, Nat.zero_le _⟩ (fun H locs Z => ?_)
          refine lv_iload_n S.1 S.2.1 dX5_readDigits_22 rfl (lv_at hl 1 rfl) ?_
          refine lv_bipush (v := 10) S.1 S.2.1 dX5_readDigits_23 (by decide) ?_
          refine lv_idiv S.1 S.2.1 dX5_readDigits_25 (by decide) ?_
          refine lv_istore_n (lv' := [(3, .int (rs / 10)), (4, .int (nI q1)), (0, .int x), (1, .int (nI d)), (2, .ref (G.2.2 k))]) S.1 S.2.1 dX5_readDigits_26 rfl hl (by decide) rfl (fun ls hl => ?_)
          refine lv_iinc (v := ((nI q1) + (-1))) (lv' := [(4, .int ((nI q1) + (-1))), (3, .int (rs / 10)), (0, .int x), (1, .int (nI d)), (2, .ref (G.2.2 k))]) S.1 S.2.1 dX5_readDigits_27 hl (k := 1) rfl rfl (by decide) rfl (fun ls hl => ?_)
          refine lv_goto (tgt := 7) S.1 S.2.1 dX5_readDigits_30 (by decide) ?_
          exact ih7 q1 ((nI q1) + (-1)) (rs / 10) (u1 M1 k q1 (rs - rs / 10 * 10)) (by omega) (by omega) (by exact u_down q1) (by intro a ha; rw [u1_ne ha]; exact hh a ha) _ _ _ Z (lv_sub hl [0, 1, 2, 3, 4] rfl)
  exact LP7 (d + 1) d (nI (d - 1)) x M (by omega) (by omega) (by exact Or.inr ⟨d - 1, by omega, rfl⟩) (by exact fun _ _ => rfl) _ _ _ Z (lv_sub hl [0, 1, 2, 3, 4] rfl)
set_option maxHeartbeats 4000000 in
set_option maxRecDepth 100000 in
theorem c_X6_offer (l : Launch) (G : uG) (t v wt c : Nat) (ht : t < 12) (hv : v ≤ 99) (hw1 : 1 ≤ wt) (hw2 : wt ≤ 9) (hc : c ≤ 99) (M : uM) (f g : Nat → Nat) (hf : ∀ i, i ≤ c → f i ≤ 1200) : CTv l G yX6_offer wsX6_offer 1 22 [.ref (G.2.2 34), .int (nI t), .int (nI v), .int (nI wt), .int (nI c)] (uAr (uAr M 35 f) 36 g) (fun M2 => M2 = uAr (uAr M 35 (ofF f v wt c (wt - 1))) 36 (ofG f g t v wt c (wt - 1))) := by
  refine ustart_v (cc := cX6_offer) (maxL := 7) (ret := none) (own := RX6) rfl (by decide) rfl (Nat.le_of_ble_eq_true rfl) ?_
  intro xp xe xs xm xa xb xt xc xA ls S hK hA Z hre hlk hl
  have hl : lv_has ls 7 [(0, .ref (G.2.2 34)), (1, .int (nI t)), (2, .int (nI v)), (3, .int (nI wt)), (4, .int (nI c))] := hl
  refine lv_iload S.1 S.2.1 dX6_offer_0 (lv_at hl 4 rfl) ?_
  refine lv_istore (lv' := [(5, .int (nI c)), (0, .ref (G.2.2 34)), (1, .int (nI t)), (2, .int (nI v)), (3, .int (nI wt)), (4, .int (nI c))]) S.1 S.2.1 dX6_offer_2 hl (by decide) rfl (fun ls hl => ?_)
  have LP4 : ∀ (fU : Nat) (r : Nat) (f1 : Nat → Nat) (g1 : Nat → Nat), (r < fU) → (r ≤ c) → (wt - 1 ≤ r ∨ r = c) → (f1 = ofF f v wt c r) → (g1 = ofG f g t v wt c r) → ∀ (H : Heap) (locs : List Loc) (ls : Array Slot), uZ G xA (uAr (uAr M 35 f1) 36 g1) xs.heap H locs → lv_has ls 7 [(5, .int (nI r)), (0, .ref (G.2.2 34)), (1, .int (nI t)), (2, .int (nI v)), (3, .int (nI wt)), (4, .int (nI c))] → W xp l xe (uRm 1 22) xs xm xa xb xt xc H locs 0 0 (MQ xb (va_Qv (fun M2 => M2 = uAr (uAr M 35 (ofF f v wt c (wt - 1))) 36 (ofG f g t v wt c (wt - 1))) (fun M' t => uB G M' t) xA) xa xs 0 0 xA) (F0 xm 4 ls []) := by
    intro fU
    induction fU with
    | zero =>
      intro r f1 g1 hfl i1 i2 i3 i4 H locs ls Z hl
      exfalso
      omega
    | succ fU ih4 =>
      intro r f1 g1 hfl i1 i2 i3 i4 H locs ls Z hl
      refine lv_iload S.1 S.2.1 dX6_offer_4 (lv_at hl 0 rfl) ?_
      refine lv_iload_n S.1 S.2.1 dX6_offer_6 rfl (lv_at hl 4 rfl) ?_
      refine lv_icmp_lt (tgt := 80) S.1 S.2.1 dX6_offer_7 (by decide) (fun c_1 => ?_) (fun c_1 => ?_)
      · skip
        have c_1 : r < wt := (nI_ltI (a := r) (b := wt) (by omega) (by omega)).mp c_1
        refine uret_v S hK Z hre hlk dX6_offer_80 ?_
        rw [i3, i4]
        by_cases hz : wt - 1 = r
        · rw [hz]
        · have e1 : ofF f v wt c r = ofF f v wt c (wt - 1) := funext fun i => by
            unfold ofF
            rw [if_neg (by omega), if_neg (by omega)]
          have e2 : ofG f g t v wt c r = ofG f g t v wt c (wt - 1) := funext fun i => by
            unfold ofG
            rw [if_neg (by omega), if_neg (by omega)]
          rw [e1, e2]
      · skip
        have c_1 : ¬ r < wt := fun z9 => c_1 ((nI_ltI (a := r) (b := wt) (by omega) (by omega)).mpr z9)
        have y1 : f1 (r - wt) = f (r - wt) := by rw [i3, ofF_at (by omega)]
        have y2 : f1 r = f r := by rw [i3, ofF_at (by omega)]
        have y3 : g1 (r - wt) = g (r - wt) := by rw [i4, ofG_at (by omega)]
        have b1 := hf r i1
        have b2 := hf (r - wt) (by omega)
        refine lv_aload_n S.1 S.2.1 dX6_offer_10 rfl (lv_at hl 1 rfl) ?_
        refine ug_r S hK Z (j := 0) 35 (by decide) rfl rfl rfl (by decide) iX6_offer_X6 qX6_offer_9 dX6_offer_11 ?_
        refine lv_iload S.1 S.2.1 dX6_offer_14 (lv_at hl 0 rfl) ?_
        refine lv_iload_n S.1 S.2.1 dX6_offer_16 rfl (lv_at hl 4 rfl) ?_
        refine lv_isub S.1 S.2.1 dX6_offer_17 ?_
        refine utop (pk_sub (a := r) (b := wt) (by omega)) ?_
        refine ud_Si (As := [.ref (G.2.2 35), .int (nI (r - wt))]) (rest := []) S hK hA Z (c_X5_at l G 35 100 (r - wt) (by decide) rfl (by omega) (uAr (uAr M 35 f1) 36 g1)) (va_cwS 2 S.2.2.2.2 gX6_offer_X5_at rfl rfl rfl (by decide +kernel) ⟨Nat.le_of_ble_eq_true rfl, Nat.le_of_ble_eq_true rfl⟩) rfl hl.1 rfl (Nat.le_of_ble_eq_true rfl) dX6_offer_18 ⟨Nat.zero_le _, Nat.zero_le _⟩ (fun H locs Z => ?_)
        refine utop (y := (nI (f1 (r - wt)))) ((uAr_o (uAr M 35 f1) 36 g1 (r - wt) (a := 35) (by decide)).trans (uAr_g M 35 f1 (r - wt))) ?_
        refine lv_iload_n S.1 S.2.1 dX6_offer_21 rfl (lv_at hl 3 rfl) ?_
        refine lv_iadd S.1 S.2.1 dX6_offer_22 ?_
        refine utop (nI_add (f1 (r - wt)) v) ?_
        refine lv_istore (lv' := [(6, .int (nI ((f1 (r - wt)) + v))), (5, .int (nI r)), (0, .ref (G.2.2 34)), (1, .int (nI t)), (2, .int (nI v)), (3, .int (nI wt)), (4, .int (nI c))]) S.1 S.2.1 dX6_offer_23 hl (by decide) rfl (fun ls hl => ?_)
        refine lv_iload S.1 S.2.1 dX6_offer_25 (lv_at hl 0 rfl) ?_
        refine lv_aload_n S.1 S.2.1 dX6_offer_27 rfl (lv_at hl 2 rfl) ?_
        refine ug_r S hK Z (j := 0) 35 (by decide) rfl rfl rfl (by decide) iX6_offer_X6 qX6_offer_9 dX6_offer_28 ?_
        refine lv_iload S.1 S.2.1 dX6_offer_31 (lv_at hl 1 rfl) ?_
        refine ud_Si (As := [.ref (G.2.2 35), .int (nI r)]) (rest := [.int (nI ((f1 (r - wt)) + v))]) S hK hA Z (c_X5_at l G 35 100 r (by decide) rfl (by omega) (uAr (uAr M 35 f1) 36 g1)) (va_cwS 2 S.2.2.2.2 gX6_offer_X5_at rfl rfl rfl (by decide +kernel) ⟨Nat.le_of_ble_eq_true rfl, Nat.le_of_ble_eq_true rfl⟩) rfl hl.1 rfl (Nat.le_of_ble_eq_true rfl) dX6_offer_33 ⟨Nat.zero_le _, Nat.zero_le _⟩ (fun H locs Z => ?_)
        refine utop (y := (nI (f1 r))) ((uAr_o (uAr M 35 f1) 36 g1 r (a := 35) (by decide)).trans (uAr_g M 35 f1 r)) ?_
        refine lv_icmp_le (tgt := 74) S.1 S.2.1 dX6_offer_36 (by decide) (fun c_4 => ?_) (fun c_4 => ?_)
        · skip
          have c_4 : ((f1 (r - wt)) + v) ≤ (f1 r) := (nI_leI (a := ((f1 (r - wt)) + v)) (b := (f1 r)) (by omega) (by omega)).mp c_4
          refine lv_iinc (v := (nI (r - 1))) (lv' := [(5, .int (nI (r - 1))), (6, .int (nI ((f1 (r - wt)) + v))), (0, .ref (G.2.2 34)), (1, .int (nI t)), (2, .int (nI v)), (3, .int (nI wt)), (4, .int (nI c))]) S.1 S.2.1 dX6_offer_74 hl (k := 1) rfl (u_dec (r := r) (by omega)) (by decide) rfl (fun ls hl => ?_)
          refine lv_goto (tgt := 4) S.1 S.2.1 dX6_offer_77 (by decide) ?_
          exact ih4 (r - 1) f1 g1 (by omega) (by omega) (by omega) (by first | (rw [i3] at y4 ⊢; rw [← y4, y1, y2, i3, ofF_at (by omega), y3] ; done) | (rw [y5]; exact ofF_1 i1 (by omega) (by omega) (by omega)) | (rw [i3]; exact ofF_2 (by omega))) (by first | (rw [y6]; exact ofG_1 i1 (by omega) (by omega) (by omega)) | (rw [i4]; exact ofG_2 (by omega))) _ _ _ Z (lv_sub hl [0, 2, 3, 4, 5, 6] rfl)
        · skip
          have c_4 : ¬ ((f1 (r - wt)) + v) ≤ (f1 r) := fun z9 => c_4 ((nI_leI (a := ((f1 (r - wt)) + v)) (b := (f1 r)) (by omega) (by omega)).mpr z9)
          have y5 : fu f1 r (f1 (r - wt) + v) = fu (ofF f v wt c r) r (f (r - wt) + v) := by rw [y1, i3]
          have y6 : fu g1 r (g1 (r - wt) ||| 2 ^ t) = fu (ofG f g t v wt c r) r (g (r - wt) ||| 2 ^ t) := by rw [y3, i4]
          refine lv_aload_n S.1 S.2.1 dX6_offer_39 rfl (lv_at hl 2 rfl) ?_
          refine ug_r S hK Z (j := 0) 35 (by decide) rfl rfl rfl (by decide) iX6_offer_X6 qX6_offer_9 dX6_offer_40 ?_
          refine lv_iload S.1 S.2.1 dX6_offer_43 (lv_at hl 1 rfl) ?_
          refine lv_iload S.1 S.2.1 dX6_offer_45 (lv_at hl 0 rfl) ?_
          refine ud_Sv (As := [.ref (G.2.2 35), .int (nI r), .int (nI ((f1 (r - wt)) + v))]) (rest := []) S hK hA Z (c_X5_put l G 35 100 r (by decide) rfl (by omega) (nI ((f1 (r - wt)) + v)) (uAr (uAr M 35 f1) 36 g1)) (va_cwS 3 S.2.2.2.2 gX6_offer_X5_put rfl rfl rfl (by decide +kernel) ⟨Nat.le_of_ble_eq_true rfl, Nat.le_of_ble_eq_true rfl⟩) rfl hl.1 rfl (Nat.le_of_ble_eq_true rfl) dX6_offer_47 ⟨Nat.zero_le _, Nat.zero_le _⟩ (fun H locs Z => ?_)
          have Z := uZ_eq ((uAr_c (uAr M 35 f1) 36 g1 (a := 35) r (nI ((f1 (r - wt)) + v)) (by decide)).trans (congrArg (fun X => uAr X 36 g1) (uAr_s M 35 f1 r ((f1 (r - wt)) + v)))) Z
          refine lv_aload_n S.1 S.2.1 dX6_offer_50 rfl (lv_at hl 2 rfl) ?_
          refine ug_r S hK Z (j := 1) 36 (by decide) rfl rfl rfl (by decide) iX6_offer_X6 qX6_offer_15 dX6_offer_51 ?_
          refine lv_iload S.1 S.2.1 dX6_offer_54 (lv_at hl 1 rfl) ?_
          refine lv_aload_n S.1 S.2.1 dX6_offer_56 rfl (lv_at hl 2 rfl) ?_
          refine ug_r S hK Z (j := 1) 36 (by decide) rfl rfl rfl (by decide) iX6_offer_X6 qX6_offer_15 dX6_offer_57 ?_
          refine lv_iload S.1 S.2.1 dX6_offer_60 (lv_at hl 1 rfl) ?_
          refine lv_iload_n S.1 S.2.1 dX6_offer_62 rfl (lv_at hl 5 rfl) ?_
          refine lv_isub S.1 S.2.1 dX6_offer_63 ?_
          refine utop (pk_sub (a := r) (b := wt) (by omega)) ?_
          refine ud_Si (As := [.ref (G.2.2 36), .int (nI (r - wt))]) (rest := [.int (nI r), .ref (G.2.2 36)]) S hK hA Z (c_X5_at l G 36 100 (r - wt) (by decide) rfl (by omega) (uAr (uAr M 35 (fu f1 r ((f1 (r - wt)) + v))) 36 g1)) (va_cwS 2 S.2.2.2.2 gX6_offer_X5_at rfl rfl rfl (by decide +kernel) ⟨Nat.le_of_ble_eq_true rfl, Nat.le_of_ble_eq_true rfl⟩) rfl hl.1 rfl (Nat.le_of_ble_eq_true rfl) dX6_offer_64 ⟨Nat.zero_le _, Nat.zero_le _⟩ (fun H locs Z => ?_)
          refine utop (y := (nI (g1 (r - wt)))) (uAr_g (uAr M 35 (fu f1 r ((f1 (r - wt)) + v))) 36 g1 (r - wt)) ?_
          refine lv_iconst (v := 1) S.1 S.2.1 dX6_offer_67 (by decide) ?_
          refine lv_iload_n S.1 S.2.1 dX6_offer_68 rfl (lv_at hl 3 rfl) ?_
          refine lv_ishl S.1 S.2.1 dX6_offer_69 ?_
          refine utop (u_shl1 (k := t) (by omega)) ?_
          refine lv_ior S.1 S.2.1 dX6_offer_70 ?_
          refine utop (nx_or (g1 (r - wt)) (2 ^ t)) ?_
          refine ud_Sv (As := [.ref (G.2.2 36), .int (nI r), .int (nI ((g1 (r - wt)) ||| (2 ^ t)))]) (rest := []) S hK hA Z (c_X5_put l G 36 100 r (by decide) rfl (by omega) (nI ((g1 (r - wt)) ||| (2 ^ t))) (uAr (uAr M 35 (fu f1 r ((f1 (r - wt)) + v))) 36 g1)) (va_cwS 3 S.2.2.2.2 gX6_offer_X5_put rfl rfl rfl (by decide +kernel) ⟨Nat.le_of_ble_eq_true rfl, Nat.le_of_ble_eq_true rfl⟩) rfl hl.1 rfl (Nat.le_of_ble_eq_true rfl) dX6_offer_71 ⟨Nat.zero_le _, Nat.zero_le _⟩ (fun H locs Z => ?_)
          have Z := uZ_eq (uAr_s (uAr M 35 (fu f1 r ((f1 (r - wt)) + v))) 36 g1 r ((g1 (r - wt)) ||| (2 ^ t))) Z
          refine lv_iinc (v := (nI (r - 1))) (lv' := [(5, .int (nI (r - 1))), (6, .int (nI ((f1 (r - wt)) + v))), (0, .ref (G.2.2 34)), (1, .int (nI t)), (2, .int (nI v)), (3, .int (nI wt)), (4, .int (nI c))]) S.1 S.2.1 dX6_offer_74 hl (k := 1) rfl (u_dec (r := r) (by omega)) (by decide) rfl (fun ls hl => ?_)
          refine lv_goto (tgt := 4) S.1 S.2.1 dX6_offer_77 (by decide) ?_
          exact ih4 (r - 1) (fu f1 r ((f1 (r - wt)) + v)) (fu g1 r ((g1 (r - wt)) ||| (2 ^ t))) (by omega) (by omega) (by omega) (by first | (rw [i3] at y4 ⊢; rw [← y4, y1, y2, i3, ofF_at (by omega), y3] ; done) | (rw [y5]; exact ofF_1 i1 (by omega) (by omega) (by omega)) | (rw [i3]; exact ofF_2 (by omega))) (by first | (rw [y6]; exact ofG_1 i1 (by omega) (by omega) (by omega)) | (rw [i4]; exact ofG_2 (by omega))) _ _ _ Z (lv_sub hl [0, 2, 3, 4, 5, 6] rfl)
  exact LP4 (c + 1) c f g (by omega) (by omega) (by omega) (by exact (ofF_0 f v wt c).symm) (by exact (ofG_0 f g t v wt c).symm) _ _ _ Z (lv_sub hl [0, 1, 2, 3, 4, 5] rfl)
set_option maxHeartbeats 4000000 in
set_option maxRecDepth 100000 in
theorem c_X6_fill (l : Launch) (G : uG) (k c : Nat) (hk : k < 8) (hc : c ≤ 99) (M : uM) (w : Nat → Nat → Nat) (fo go : Nat → Nat) (hr : uRd M 1 w) (hw : wOk w) : CTv l G yX6_fill wsX6_fill 2 48 [.ref (G.2.2 34), .ref (G.2.2 1), .int (nI k), .int (nI c)] (uAr (uAr M 35 fo) 36 go) (fun M2 => M2 = uAr (uAr M 35 (dpS w k c (f0 100 fo) (f0 100 go) 12).1) 36 (dpS w k c (f0 100 fo) (f0 100 go) 12).2) := by
  refine ustart_v (cc := cX6_fill) (maxL := 5) (ret := none) (own := RX6) rfl (by decide) rfl (Nat.le_of_ble_eq_true rfl) ?_
  intro xp xe xs xm xa xb xt xc xA ls S hK hA Z hre hlk hl
  have hl : lv_has ls 5 [(0, .ref (G.2.2 34)), (1, .ref (G.2.2 1)), (2, .int (nI k)), (3, .int (nI c))] := hl
  refine lv_aload_n S.1 S.2.1 dX6_fill_0 rfl (lv_at hl 0 rfl) ?_
  refine ug_r S hK Z (j := 0) 35 (by decide) rfl rfl rfl (by decide) iX6_fill_X6 qX6_fill_9 dX6_fill_1 ?_
  refine lv_iconst (v := 0) S.1 S.2.1 dX6_fill_4 (by decide) ?_
  refine ud_Sv (As := [.ref (G.2.2 35), .int 0]) (rest := []) S hK hA Z (c_X5_fill l G 35 100 (by decide) rfl 0 (uAr (uAr M 35 fo) 36 go)) (va_cwS 2 S.2.2.2.2 gX6_fill_X5_fill rfl rfl rfl (by decide +kernel) ⟨Nat.le_of_ble_eq_true rfl, Nat.le_of_ble_eq_true rfl⟩) rfl hl.1 rfl (Nat.le_of_ble_eq_true rfl) dX6_fill_5 ⟨Nat.zero_le _, Nat.zero_le _⟩ (fun H locs Z => ?_)
  have Z := uZ_eq ((uAr_fillc (uAr M 35 fo) 36 go (a := 35) 100 (nI 0) (by decide)).trans (congrArg (fun X => uAr X 36 go) (uAr_fill M 35 fo 100 0))) Z
  refine lv_aload_n S.1 S.2.1 dX6_fill_8 rfl (lv_at hl 0 rfl) ?_
  refine ug_r S hK Z (j := 1) 36 (by decide) rfl rfl rfl (by decide) iX6_fill_X6 qX6_fill_15 dX6_fill_9 ?_
  refine lv_iconst (v := 0) S.1 S.2.1 dX6_fill_12 (by decide) ?_
  refine ud_Sv (As := [.ref (G.2.2 36), .int 0]) (rest := []) S hK hA Z (c_X5_fill l G 36 100 (by decide) rfl 0 (uAr (uAr M 35 (f0 100 fo)) 36 go)) (va_cwS 2 S.2.2.2.2 gX6_fill_X5_fill rfl rfl rfl (by decide +kernel) ⟨Nat.le_of_ble_eq_true rfl, Nat.le_of_ble_eq_true rfl⟩) rfl hl.1 rfl (Nat.le_of_ble_eq_true rfl) dX6_fill_13 ⟨Nat.zero_le _, Nat.zero_le _⟩ (fun H locs Z => ?_)
  have Z := uZ_eq (uAr_fill (uAr M 35 (f0 100 fo)) 36 go 100 0) Z
  refine lv_iconst (v := 0) S.1 S.2.1 dX6_fill_16 (by decide) ?_
  refine lv_istore (lv' := [(4, .int 0), (0, .ref (G.2.2 34)), (1, .ref (G.2.2 1)), (2, .int (nI k)), (3, .int (nI c))]) S.1 S.2.1 dX6_fill_17 hl (by decide) rfl (fun ls hl => ?_)
  have LP19 : ∀ (fU : Nat) (t : Nat) (f1 : Nat → Nat) (g1 : Nat → Nat), (12 < t + fU) → (t ≤ 12) → ((f1, g1) = dpS w k c (f0 100 fo) (f0 100 go) t) → ∀ (H : Heap) (locs : List Loc) (ls : Array Slot), uZ G xA (uAr (uAr M 35 f1) 36 g1) xs.heap H locs → lv_has ls 5 [(4, .int (nI t)), (0, .ref (G.2.2 34)), (1, .ref (G.2.2 1)), (2, .int (nI k)), (3, .int (nI c))] → W xp l xe (uRm 2 48) xs xm xa xb xt xc H locs 0 0 (MQ xb (va_Qv (fun M2 => M2 = uAr (uAr M 35 (dpS w k c (f0 100 fo) (f0 100 go) 12).1) 36 (dpS w k c (f0 100 fo) (f0 100 go) 12).2) (fun M' t => uB G M' t) xA) xa xs 0 0 xA) (F0 xm 19 ls []) := by
    intro fU
    induction fU with
    | zero =>
      intro t f1 g1 hfl i1 i2 H locs ls Z hl
      exfalso
      omega
    | succ fU ih19 =>
      intro t f1 g1 hfl i1 i2 H locs ls Z hl
      refine lv_iload S.1 S.2.1 dX6_fill_19 (lv_at hl 0 rfl) ?_
      refine lv_bipush (v := 12) S.1 S.2.1 dX6_fill_21 (by decide) ?_
      refine lv_icmp_ge (tgt := 70) S.1 S.2.1 dX6_fill_23 (by decide) (fun c_3 => ?_) (fun c_3 => ?_)
      · skip
        have c_3 : 12 ≤ t := (nI_leI (a := 12) (b := t) (by omega) (by omega)).mp c_3
        refine uret_v S hK Z hre hlk dX6_fill_70 ?_
        obtain rfl : t = 12 := by omega
        rw [← i2]
      · skip
        have c_3 : ¬ 12 ≤ t := fun z9 => c_3 ((nI_leI (a := 12) (b := t) (by omega) (by omega)).mpr z9)
        have y0 : ∀ i, i ≤ c → f1 i ≤ 1200 := fun i hi => by
          have h8 := dpS_bd hw k c (f0 100 fo) (f0 100 go) (fun i hi => by unfold f0; rw [if_pos (by omega)]) t i1 i hi
          rw [← i2] at h8
          dsimp only at h8
          omega
        obtain ⟨y1, y2, y3, y4, y5⟩ := hw.1 t (by omega)
        refine lv_aload_n S.1 S.2.1 dX6_fill_26 rfl (lv_at hl 2 rfl) ?_
        refine ug_r S hK Z (j := 0) 2 (by decide) rfl rfl rfl (by decide) iX6_fill_X10 qX6_fill_24 dX6_fill_27 ?_
        refine lv_iload S.1 S.2.1 dX6_fill_30 (lv_at hl 0 rfl) ?_
        refine ud_Si (As := [.ref (G.2.2 2), .int (nI t)]) (rest := []) S hK hA Z (c_X5_at l G 2 12 t (by decide) rfl (by omega) (uAr (uAr M 35 f1) 36 g1)) (va_cwS 2 S.2.2.2.2 gX6_fill_X5_at rfl rfl rfl (by decide +kernel) ⟨Nat.le_of_ble_eq_true rfl, Nat.le_of_ble_eq_true rfl⟩) rfl hl.1 rfl (Nat.le_of_ble_eq_true rfl) dX6_fill_32 ⟨Nat.zero_le _, Nat.zero_le _⟩ (fun H locs Z => ?_)
        refine utop (y := (nI (w 1 t))) ((uAr_o (uAr M 35 f1) 36 g1 t (a := 2) (by decide)).trans ((uAr_o M 35 f1 t (a := 2) (by decide)).trans (hr 1 (by decide) t))) ?_
        refine lv_iload_n S.1 S.2.1 dX6_fill_35 rfl (lv_at hl 3 rfl) ?_
        refine lv_icmp_eq (tgt := 64) S.1 S.2.1 dX6_fill_36 (by decide) (fun c_5 => ?_) (fun c_5 => ?_)
        · skip
          have c_5 : (w 1 t) = k := (nI_eq (a := (w 1 t)) (b := k) (by omega) (by omega)).mp c_5
          refine lv_iinc (v := (nI (t + 1))) (lv' := [(4, .int (nI (t + 1))), (0, .ref (G.2.2 34)), (1, .ref (G.2.2 1)), (2, .int (nI k)), (3, .int (nI c))]) S.1 S.2.1 dX6_fill_64 hl (k := 0) rfl (u_inc1 t) (by decide) rfl (fun ls hl => ?_)
          refine lv_goto (tgt := 19) S.1 S.2.1 dX6_fill_67 (by decide) ?_
          exact ih19 (t + 1) f1 g1 (by omega) (by omega) (by
              rw [dpS, ← i2]
              first | rw [if_neg (by assumption)] | rw [if_pos (by assumption)]) _ _ _ Z (lv_sub hl [0, 1, 2, 3, 4] rfl)
        · skip
          have c_5 : ¬ (w 1 t) = k := fun z9 => c_5 ((nI_eq (a := (w 1 t)) (b := k) (by omega) (by omega)).mpr z9)
          refine lv_aload_n S.1 S.2.1 dX6_fill_39 rfl (lv_at hl 1 rfl) ?_
          refine lv_iload S.1 S.2.1 dX6_fill_40 (lv_at hl 0 rfl) ?_
          refine lv_aload_n S.1 S.2.1 dX6_fill_42 rfl (lv_at hl 2 rfl) ?_
          refine ug_r S hK Z (j := 2) 4 (by decide) rfl rfl rfl (by decide) iX6_fill_X10 qX6_fill_33 dX6_fill_43 ?_
          refine lv_iload S.1 S.2.1 dX6_fill_46 (lv_at hl 0 rfl) ?_
          refine ud_Si (As := [.ref (G.2.2 4), .int (nI t)]) (rest := [.int (nI t), .ref (G.2.2 34)]) S hK hA Z (c_X5_at l G 4 12 t (by decide) rfl (by omega) (uAr (uAr M 35 f1) 36 g1)) (va_cwS 2 S.2.2.2.2 gX6_fill_X5_at rfl rfl rfl (by decide +kernel) ⟨Nat.le_of_ble_eq_true rfl, Nat.le_of_ble_eq_true rfl⟩) rfl hl.1 rfl (Nat.le_of_ble_eq_true rfl) dX6_fill_48 ⟨Nat.zero_le _, Nat.zero_le _⟩ (fun H locs Z => ?_)
          refine utop (y := (nI (w 3 t))) ((uAr_o (uAr M 35 f1) 36 g1 t (a := 4) (by decide)).trans ((uAr_o M 35 f1 t (a := 4) (by decide)).trans (hr 3 (by decide) t))) ?_
          refine lv_aload_n S.1 S.2.1 dX6_fill_51 rfl (lv_at hl 2 rfl) ?_
          refine ug_r S hK Z (j := 3) 5 (by decide) rfl rfl rfl (by decide) iX6_fill_X10 qX6_fill_34 dX6_fill_52 ?_
          refine lv_iload S.1 S.2.1 dX6_fill_55 (lv_at hl 0 rfl) ?_
          refine ud_Si (As := [.ref (G.2.2 5), .int (nI t)]) (rest := [.int (nI (w 3 t)), .int (nI t), .ref (G.2.2 34)]) S hK hA Z (c_X5_at l G 5 12 t (by decide) rfl (by omega) (uAr (uAr M 35 f1) 36 g1)) (va_cwS 2 S.2.2.2.2 gX6_fill_X5_at rfl rfl rfl (by decide +kernel) ⟨Nat.le_of_ble_eq_true rfl, Nat.le_of_ble_eq_true rfl⟩) rfl hl.1 rfl (Nat.le_of_ble_eq_true rfl) dX6_fill_57 ⟨Nat.zero_le _, Nat.zero_le _⟩ (fun H locs Z => ?_)
          refine utop (y := (nI (w 4 t))) ((uAr_o (uAr M 35 f1) 36 g1 t (a := 5) (by decide)).trans ((uAr_o M 35 f1 t (a := 5) (by decide)).trans (hr 4 (by decide) t))) ?_
          refine lv_iload_n S.1 S.2.1 dX6_fill_60 rfl (lv_at hl 4 rfl) ?_
          refine ud_Vv (As := [.int (nI t), .int (nI (w 3 t)), .int (nI (w 4 t)), .int (nI c)]) (rest := []) S hK hA Z (c_X6_offer l G t (w 3 t) (w 4 t) c (by omega) (by omega) (by omega) (by omega) (by omega) M f1 g1 y0) (cwV 4 S.2.2.2.2 gX6_fill_X6_offer rfl rfl rfl (by decide +kernel) ⟨Nat.le_of_ble_eq_true rfl, Nat.le_of_ble_eq_true rfl⟩) (by decide) rfl rfl rfl hl.1 rfl (Nat.le_of_ble_eq_true rfl) dX6_fill_61 ⟨Nat.zero_le _, Nat.zero_le _⟩ (fun H locs Z => ?_)
          refine lv_iinc (v := (nI (t + 1))) (lv' := [(4, .int (nI (t + 1))), (0, .ref (G.2.2 34)), (1, .ref (G.2.2 1)), (2, .int (nI k)), (3, .int (nI c))]) S.1 S.2.1 dX6_fill_64 hl (k := 0) rfl (u_inc1 t) (by decide) rfl (fun ls hl => ?_)
          refine lv_goto (tgt := 19) S.1 S.2.1 dX6_fill_67 (by decide) ?_
          exact ih19 (t + 1) (ofF f1 (w 3 t) (w 4 t) c ((w 4 t) - 1)) (ofG f1 g1 t (w 3 t) (w 4 t) c ((w 4 t) - 1)) (by omega) (by omega) (by
              rw [dpS, ← i2]
              first | rw [if_neg (by assumption)] | rw [if_pos (by assumption)]) _ _ _ Z (lv_sub hl [0, 1, 2, 3, 4] rfl)
  exact LP19 13 0 (f0 100 fo) (f0 100 go) (by omega) (by omega) (by rfl) _ _ _ Z (lv_sub hl [0, 1, 2, 3, 4] rfl)
