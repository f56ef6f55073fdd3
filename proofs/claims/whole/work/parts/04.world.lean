/-! bits -/
theorem u_sl : ∀ n, n < 32 → ((nI n &&& 31).toBitVec.smod 32).toNat = n := by decide +kernel
theorem nx_or (a b : Nat) : nI a ||| nI b = nI (a ||| b) := by
  apply Int32.toBitVec_inj.1
  show BitVec.ofNat 32 a ||| BitVec.ofNat 32 b = BitVec.ofNat 32 (a ||| b)
  rw [BitVec.ofNat_or]
theorem nx_and (a b : Nat) : nI a &&& nI b = nI (a &&& b) := by
  apply Int32.toBitVec_inj.1
  show BitVec.ofNat 32 a &&& BitVec.ofNat 32 b = BitVec.ofNat 32 (a &&& b)
  rw [BitVec.ofNat_and]
theorem nx_xor (a b : Nat) : nI a ^^^ nI b = nI (a ^^^ b) := by
  apply Int32.toBitVec_inj.1
  show BitVec.ofNat 32 a ^^^ BitVec.ofNat 32 b = BitVec.ofNat 32 (a ^^^ b)
  rw [BitVec.ofNat_xor]
theorem u_shl1 {k : Nat} (hk : k < 32) : (1 : Int32) <<< (nI k &&& 31) = nI (2 ^ k) := by
  have h := pk_shlN (n := 1) (nI k &&& 31) k (u_sl k (by omega)) (by rw [Nat.one_mul]; exact Nat.pow_lt_pow_right (by decide) (by omega))
  rw [Nat.one_mul] at h
  exact h
theorem u_bit {a k : Nat} (ha : a < 2 ^ 31) (hk : k < 31) : (nI a >>> (nI k &&& 31)) &&& 1 = nI (a / 2 ^ k % 2) := by
  rw [pk_shrN ha (nI k &&& 31) k (u_sl k (by omega))]
  exact pk_andN (n := a / 2 ^ k) (by have := Nat.div_le_self a (2 ^ k); omega) (m := 1) 1 (by decide)
def uClr (a k : Nat) : Nat := if a / 2 ^ k % 2 = 1 then a - 2 ^ k else a
theorem u_clr0 : ∀ a, a < 256 → ∀ k, k < 8 → nI a &&& (nI (2 ^ k) ^^^ (-1)) = nI (uClr a k) := by decide +kernel
theorem u_clr {a k : Nat} (ha : a < 256) (hk : k < 8) : nI a &&& (nI (2 ^ k) ^^^ (-1)) = nI (uClr a k) := u_clr0 a ha k hk
/-! a world's block, in numbers -/
theorem uZ_eq {G : uG} {A : Nat → Prop} {M M' : uM} {H0 H : Heap} {locs : List Loc} (h : M = M') (Z : uZ G A M H0 H locs) : uZ G A M' H0 H locs := h ▸ Z
def uPW (M : uM) (b : Nat) (w : Nat → Nat → Nat) : uM := (fun a i => if b ≤ a ∧ a < b + 10 then nI (w (a - b) i) else M.1 a i, M.2)
def wu (w : Nat → Nat → Nat) (j i v : Nat) : Nat → Nat → Nat := fun a c => if a = j ∧ c = i then v else w a c
theorem wu_eq (w : Nat → Nat → Nat) (j i v : Nat) : wu w j i v j i = v := by simp [wu]
theorem wu_ne {w : Nat → Nat → Nat} {j i v a c : Nat} (h : ¬ (a = j ∧ c = i)) : wu w j i v a c = w a c := by rw [wu, if_neg h]
theorem wu_row {w : Nat → Nat → Nat} {j i v a : Nat} (h : a ≠ j) (c : Nat) : wu w j i v a c = w a c := wu_ne (fun q => h q.1)
theorem uPW_g (M : uM) (b : Nat) (w : Nat → Nat → Nat) (i : Nat) {j : Nat} (hj : j < 10) : (uPW M b w).1 (b + j) i = nI (w j i) := by
  show (if b ≤ b + j ∧ b + j < b + 10 then nI (w (b + j - b) i) else _) = _
  rw [if_pos ⟨by omega, by omega⟩, show b + j - b = j from by omega]
theorem uPW_o (M : uM) (b : Nat) (w : Nat → Nat → Nat) (i : Nat) {a : Nat} (ha : a < b ∨ b + 10 ≤ a) : (uPW M b w).1 a i = M.1 a i := by
  show (if b ≤ a ∧ a < b + 10 then _ else _) = _
  rw [if_neg (by omega)]
theorem uPW_s (M : uM) (b : Nat) (w : Nat → Nat → Nat) (i v : Nat) {j : Nat} (hj : j < 10) : u1 (uPW M b w) (b + j) i (nI v) = uPW M b (wu w j i v) := uM_ext (fun a c => by
  rw [u1_1]
  by_cases h : a = b + j ∧ c = i
  · obtain ⟨rfl, rfl⟩ := h
    rw [if_pos ⟨rfl, rfl⟩, uPW_g _ _ _ _ hj, wu_eq]
  · rw [if_neg h]
    by_cases h2 : b ≤ a ∧ a < b + 10
    · obtain ⟨d, rfl⟩ : ∃ d, a = b + d := ⟨a - b, by omega⟩
      rw [uPW_g _ _ _ _ (by omega), uPW_g _ _ _ _ (by omega), wu_ne (fun q => h ⟨by omega, q.2⟩)]
    · rw [uPW_o _ _ _ _ (by omega), uPW_o _ _ _ _ (by omega)]) rfl
def uRd (M : uM) (b : Nat) (w : Nat → Nat → Nat) : Prop := ∀ j, j < 10 → ∀ i, M.1 (b + j) i = nI (w j i)
theorem uPW_rd (M : uM) (b : Nat) (w : Nat → Nat → Nat) : uRd (uPW M b w) b w := fun _ hj _ => uPW_g _ _ _ _ hj
theorem uPW_id {M : uM} {b : Nat} {w : Nat → Nat → Nat} (h : uRd M b w) : uPW M b w = M := uM_ext (fun a c => by
  by_cases h2 : b ≤ a ∧ a < b + 10
  · obtain ⟨d, rfl⟩ : ∃ d, a = b + d := ⟨a - b, by omega⟩
    rw [uPW_g _ _ _ _ (by omega), h d (by omega) c]
  · rw [uPW_o _ _ _ _ (by omega)]) rfl
theorem uPW_uPW (M : uM) (b : Nat) (w w' : Nat → Nat → Nat) : uPW (uPW M b w) b w' = uPW M b w' := uM_ext (fun a c => by
  by_cases h2 : b ≤ a ∧ a < b + 10
  · obtain ⟨d, rfl⟩ : ∃ d, a = b + d := ⟨a - b, by omega⟩
    rw [uPW_g _ _ _ _ (by omega), uPW_g _ _ _ _ (by omega)]
  · rw [uPW_o _ _ _ _ (by omega), uPW_o _ _ _ _ (by omega), uPW_o _ _ _ _ (by omega)]) rfl
/-- which places of a world's block count -/
def wIn (j i : Nat) : Prop := (j = 0 ∧ (i = 7 ∨ i = 8)) ∨ (1 ≤ j ∧ j ≤ 4 ∧ i < 12) ∨ ((j = 5 ∨ j = 6 ∨ j = 8 ∨ j = 9) ∧ i < 8) ∨ (j = 7 ∧ i = 2)
/-- a world as it can be: 0 ajar and night, 1 who has it, 2 taken, 3 worth, 4 weight, 5 coin, 6 brothers, 7 sights, 8 and 9 what was seen -/
def wOk (w : Nat → Nat → Nat) : Prop := (∀ t, t < 12 → w 1 t < 8 ∧ w 2 t ≤ 9 ∧ w 3 t ≤ 99 ∧ 1 ≤ w 4 t ∧ w 4 t ≤ 9) ∧ (∀ k, k < 8 → w 5 k ≤ 9999 ∧ w 6 k < 256 ∧ w 8 k < 5 ∧ w 9 k < 5) ∧ w 0 7 < 256 ∧ w 0 8 ≤ 99 ∧ w 7 2 ≤ 8 ∧ (∀ k q, k < 8 → q < 8 → w 6 k / 2 ^ q % 2 = w 6 q / 2 ^ k % 2) ∧ ∀ j i, ¬ wIn j i → w j i = 0
/-! acts -/
def wPrice (w : Nat → Nat → Nat) (t : Nat) : Nat := if w 2 t < 2 ∨ w 2 t = 9 then 0 else w 3 t * (w 2 t - 1)
def wHand (w : Nat → Nat → Nat) (t q : Nat) : Nat → Nat → Nat := wu (wu w 1 t q) 2 t 0
def acTake (w : Nat → Nat → Nat) (k t : Nat) : Nat × (Nat → Nat → Nat) :=
  if w 1 t = k then (1, w) else if w 0 7 / 2 ^ w 1 t % 2 = 1 then (0, wu (if w 6 (w 1 t) / 2 ^ k % 2 = 1 then w else wu w 2 t (min 9 (w 2 t + 1))) 1 t k) else (2, w)
def acWhy (w : Nat → Nat → Nat) (k t q : Nat) : Nat := if w 1 t = k then (if k = q then 3 else 0) else 1
def acGive (w : Nat → Nat → Nat) (k t q : Nat) : Nat × (Nat → Nat → Nat) := if acWhy w k t q = 0 then (0, wHand w t q) else (acWhy w k t q, w)
def acSell (w : Nat → Nat → Nat) (k t q : Nat) : Nat × (Nat → Nat → Nat) :=
  if acWhy w k t q = 0 then (if w 2 t < 2 then (4, w) else if w 5 q < wPrice w t then (5, w) else (0, wHand (wu (wu w 5 q (w 5 q - wPrice w t)) 5 k (min 9999 (w 5 k + wPrice w t))) t q)) else (acWhy w k t q, w)
def acDoor (w : Nat → Nat → Nat) (k : Nat) : Nat → Nat → Nat := wu w 0 7 (w 0 7 ^^^ 2 ^ k)
def wOwn (w : Nat → Nat → Nat) (n : Nat) : Nat → Nat → Nat := fun a c => if a = 2 ∧ c < n ∧ w 2 c = 1 then 0 else w a c
def acNight (w : Nat → Nat → Nat) : Nat × (Nat → Nat → Nat) := if w 0 8 < 99 then (0, wOwn (wu (wu w 0 8 (w 0 8 + 1)) 0 7 255) 12) else (6, w)
def ac (w : Nat → Nat → Nat) (kd k t q : Nat) : Nat × (Nat → Nat → Nat) := if kd = 0 then acTake w k t else if kd = 1 then acSell w k t q else if kd = 2 then acGive w k t q else if kd = 3 then (0, acDoor w k) else acNight w
def wMany (w : Nat → Nat → Nat) (k : Nat) : Nat → Nat
  | 0 => 0
  | n + 1 => if w 1 n = k then wMany w k n + 1 else wMany w k n
def wFit (w : Nat → Nat → Nat) : Nat → Nat
  | 0 => 0
  | n + 1 => if 2 ≤ w 2 n then wFit w n + 1 else wFit w n
theorem wMany_le (w : Nat → Nat → Nat) (k : Nat) : ∀ n, wMany w k n ≤ n := by
  intro n
  induction n with
  | zero => exact Nat.le_refl _
  | succ n ih =>
    unfold wMany
    split <;> omega
theorem wFit_le (w : Nat → Nat → Nat) : ∀ n, wFit w n ≤ n := by
  intro n
  induction n with
  | zero => exact Nat.le_refl _
  | succ n ih =>
    unfold wFit
    split <;> omega
theorem wOwn_0 (w : Nat → Nat → Nat) : wOwn w 0 = w := funext fun a => funext fun c => by simp [wOwn]
theorem wOwn_1 {w : Nat → Nat → Nat} {n : Nat} (h : w 2 n = 1) : wu (wOwn w n) 2 n 0 = wOwn w (n + 1) := funext fun a => funext fun c => by
  by_cases h1 : a = 2 ∧ c = n
  · obtain ⟨rfl, rfl⟩ := h1
    rw [wu_eq]
    simp [wOwn, h]
  · rw [wu_ne h1]
    unfold wOwn
    by_cases h2 : a = 2 ∧ c < n ∧ w 2 c = 1
    · rw [if_pos h2, if_pos ⟨h2.1, by omega, h2.2.2⟩]
    · rw [if_neg h2, if_neg (fun q => h2 ⟨q.1, by have := q.2.1; have : ¬ c = n := fun z => h1 ⟨q.1, z⟩; omega, q.2.2⟩)]
theorem wOwn_2 {w : Nat → Nat → Nat} {n : Nat} (h : ¬ w 2 n = 1) : wOwn w n = wOwn w (n + 1) := funext fun a => funext fun c => by
  unfold wOwn
  by_cases h2 : a = 2 ∧ c < n ∧ w 2 c = 1
  · rw [if_pos h2, if_pos ⟨h2.1, by omega, h2.2.2⟩]
  · rw [if_neg h2, if_neg (fun q => h2 ⟨q.1, by
      have h3 := q.2.1
      have : ¬ c = n := fun z => h (by rw [← z]; exact q.2.2)
      omega, q.2.2⟩)]
theorem wOwn_g (w : Nat → Nat → Nat) (n : Nat) : wOwn w n 2 n = w 2 n := by
  unfold wOwn
  rw [if_neg (by omega)]
/-! counting brothers: how many bits -/
def uPop (a : Nat) : Nat := a % 2 + a / 2 % 2 + a / 4 % 2 + a / 8 % 2 + a / 16 % 2 + a / 32 % 2 + a / 64 % 2 + a / 128 % 2
def wPop (w : Nat → Nat → Nat) : Nat → Nat
  | 0 => 0
  | n + 1 => wPop w n + uPop (w 6 n)
theorem uPop_le (a : Nat) : uPop a ≤ 8 := by
  unfold uPop
  omega
theorem wPop_le (w : Nat → Nat → Nat) : ∀ n, wPop w n ≤ 8 * n := by
  intro n
  induction n with
  | zero => exact Nat.le_refl _
  | succ n ih =>
    have := uPop_le (w 6 n)
    unfold wPop
    omega
theorem qX10_isAjar_37 : Cond.fieldLink RX10 37 (TX10 7).1 (TX10 7).2.1 (TX10 7).2.2.1 ∈ wsX10_isAjar := List.mem_of_getElem? (i := 1) rfl
theorem iX10_isAjar_X10 : ∀ w ∈ wsX100, w ∈ wsX10_isAjar := fun _ h => List.mem_cons_of_mem _ (List.mem_append_right _ h)
theorem qX10_areBrothers_27 : Cond.fieldLink RX10 27 (TX10 5).1 (TX10 5).2.1 (TX10 5).2.2.1 ∈ wsX10_areBrothers := List.mem_of_getElem? (i := 1) rfl
theorem iX10_areBrothers_X10 : ∀ w ∈ wsX100, w ∈ wsX10_areBrothers := fun _ h => List.mem_cons_of_mem _ (List.mem_append_right _ h)
theorem qX10_isFitForSale_15 : Cond.fieldLink RX10 15 (TX10 1).1 (TX10 1).2.1 (TX10 1).2.2.1 ∈ wsX10_isFitForSale := List.mem_of_getElem? (i := 1) rfl
theorem iX10_isFitForSale_X10 : ∀ w ∈ wsX100, w ∈ wsX10_isFitForSale := fun _ h => List.mem_cons_of_mem _ (List.mem_append_right _ h)
theorem qX10_priceOf_15 : Cond.fieldLink RX10 15 (TX10 1).1 (TX10 1).2.1 (TX10 1).2.2.1 ∈ wsX10_priceOf := List.mem_of_getElem? (i := 1) rfl
theorem iX10_priceOf_X10 : ∀ w ∈ wsX100, w ∈ wsX10_priceOf := fun _ h => List.mem_cons_of_mem _ (List.mem_append_right _ h)
theorem qX10_priceOf_18 : Cond.fieldLink RX10 18 (TX10 2).1 (TX10 2).2.1 (TX10 2).2.2.1 ∈ wsX10_priceOf := List.mem_of_getElem? (i := 2) rfl
theorem qX10_thingsOf_9 : Cond.fieldLink RX10 9 (TX10 0).1 (TX10 0).2.1 (TX10 0).2.2.1 ∈ wsX10_thingsOf := List.mem_of_getElem? (i := 1) rfl
theorem iX10_thingsOf_X10 : ∀ w ∈ wsX100, w ∈ wsX10_thingsOf := fun _ h => List.mem_cons_of_mem _ (List.mem_append_right _ h)
theorem qX10_pairsOfBrothers_27 : Cond.fieldLink RX10 27 (TX10 5).1 (TX10 5).2.1 (TX10 5).2.2.1 ∈ wsX10_pairsOfBrothers := List.mem_of_getElem? (i := 1) rfl
theorem iX10_pairsOfBrothers_X10 : ∀ w ∈ wsX100, w ∈ wsX10_pairsOfBrothers := fun _ h => List.mem_cons_of_mem _ (List.mem_append_right _ h)
theorem qX10_bind_27 : Cond.fieldLink RX10 27 (TX10 5).1 (TX10 5).2.1 (TX10 5).2.2.1 ∈ wsX10_bind := List.mem_of_getElem? (i := 1) rfl
theorem iX10_bind_X10 : ∀ w ∈ wsX100, w ∈ wsX10_bind := fun _ h => List.mem_cons_of_mem _ (List.mem_append_right _ h)
theorem qX10_hand_9 : Cond.fieldLink RX10 9 (TX10 0).1 (TX10 0).2.1 (TX10 0).2.2.1 ∈ wsX10_hand := List.mem_of_getElem? (i := 1) rfl
theorem iX10_hand_X10 : ∀ w ∈ wsX100, w ∈ wsX10_hand := fun _ h => List.mem_cons_of_mem _ (List.mem_append_right _ h)
theorem qX10_hand_15 : Cond.fieldLink RX10 15 (TX10 1).1 (TX10 1).2.1 (TX10 1).2.2.1 ∈ wsX10_hand := List.mem_of_getElem? (i := 2) rfl
theorem qX10_reasonAgainstHanding_9 : Cond.fieldLink RX10 9 (TX10 0).1 (TX10 0).2.1 (TX10 0).2.2.1 ∈ wsX10_reasonAgainstHanding := List.mem_of_getElem? (i := 1) rfl
theorem iX10_reasonAgainstHanding_X10 : ∀ w ∈ wsX100, w ∈ wsX10_reasonAgainstHanding := fun _ h => List.mem_cons_of_mem _ (List.mem_append_right _ h)
theorem qX10_sell_24 : Cond.fieldLink RX10 24 (TX10 4).1 (TX10 4).2.1 (TX10 4).2.2.1 ∈ wsX10_sell := List.mem_of_getElem? (i := 1) rfl
theorem iX10_sell_X10 : ∀ w ∈ wsX100, w ∈ wsX10_sell := fun _ h => List.mem_cons_of_mem _ (List.mem_append_right _ h)
theorem qX10_sell_97 : Cond.methodLink RX10 97 Lib.Math.min.name ∈ wsX10_sell := List.mem_of_getElem? (i := 2) rfl
theorem qX10_sell_w3 : Cond.static Lib.Math.min.name ∈ wsX10_sell := List.mem_of_getElem? (i := 3) rfl
theorem qX10_sell_w4 : Cond.initialized "java/lang/Math" ∈ wsX10_sell := List.mem_of_getElem? (i := 4) rfl
theorem qX10_sell_w5 : Cond.code Lib.Math.min.name Lib.Math.min.code 2 (some .int) ∈ wsX10_sell := List.mem_of_getElem? (i := 5) rfl
theorem qX10_take_9 : Cond.fieldLink RX10 9 (TX10 0).1 (TX10 0).2.1 (TX10 0).2.2.1 ∈ wsX10_take := List.mem_of_getElem? (i := 1) rfl
theorem iX10_take_X10 : ∀ w ∈ wsX100, w ∈ wsX10_take := fun _ h => List.mem_cons_of_mem _ (List.mem_append_right _ h)
theorem qX10_take_15 : Cond.fieldLink RX10 15 (TX10 1).1 (TX10 1).2.1 (TX10 1).2.2.1 ∈ wsX10_take := List.mem_of_getElem? (i := 2) rfl
theorem qX10_take_97 : Cond.methodLink RX10 97 Lib.Math.min.name ∈ wsX10_take := List.mem_of_getElem? (i := 3) rfl
theorem qX10_take_w4 : Cond.static Lib.Math.min.name ∈ wsX10_take := List.mem_of_getElem? (i := 4) rfl
theorem qX10_take_w5 : Cond.initialized "java/lang/Math" ∈ wsX10_take := List.mem_of_getElem? (i := 5) rfl
theorem qX10_take_w6 : Cond.code Lib.Math.min.name Lib.Math.min.code 2 (some .int) ∈ wsX10_take := List.mem_of_getElem? (i := 6) rfl
theorem qX10_passNight_41 : Cond.fieldLink RX10 41 (TX10 8).1 (TX10 8).2.1 (TX10 8).2.2.1 ∈ wsX10_passNight := List.mem_of_getElem? (i := 1) rfl
theorem iX10_passNight_X10 : ∀ w ∈ wsX100, w ∈ wsX10_passNight := fun _ h => List.mem_cons_of_mem _ (List.mem_append_right _ h)
theorem qX10_passNight_37 : Cond.fieldLink RX10 37 (TX10 7).1 (TX10 7).2.1 (TX10 7).2.2.1 ∈ wsX10_passNight := List.mem_of_getElem? (i := 2) rfl
theorem qX10_passNight_15 : Cond.fieldLink RX10 15 (TX10 1).1 (TX10 1).2.1 (TX10 1).2.2.1 ∈ wsX10_passNight := List.mem_of_getElem? (i := 3) rfl
theorem qX10_act_37 : Cond.fieldLink RX10 37 (TX10 7).1 (TX10 7).2.1 (TX10 7).2.2.1 ∈ wsX10_act := List.mem_of_getElem? (i := 1) rfl
theorem iX10_act_X10 : ∀ w ∈ wsX100, w ∈ wsX10_act := fun _ h => List.mem_cons_of_mem _ (List.mem_append_right _ h)
theorem qJ6_bitCount_0f7a4_265 : Cond.constant RJ6 265 1431655765 ∈ wsJ6_bitCount_0f7a4 := List.mem_of_getElem? (i := 1) rfl
theorem qJ6_bitCount_0f7a4_266 : Cond.constant RJ6 266 858993459 ∈ wsJ6_bitCount_0f7a4 := List.mem_of_getElem? (i := 2) rfl
theorem qJ6_bitCount_0f7a4_267 : Cond.constant RJ6 267 252645135 ∈ wsJ6_bitCount_0f7a4 := List.mem_of_getElem? (i := 3) rfl
theorem u_bc : ∀ a, a < 256 → ((((((((((nI a) - ((((nI a).toUInt32 >>> ((1 : Int32).toUInt32 &&& Int32.toUInt32 31)).toInt32) &&& 1431655765)) &&& 858993459) + (((((nI a) - ((((nI a).toUInt32 >>> ((1 : Int32).toUInt32 &&& Int32.toUInt32 31)).toInt32) &&& 1431655765)).toUInt32 >>> ((2 : Int32).toUInt32 &&& Int32.toUInt32 31)).toInt32) &&& 858993459)) + ((((((nI a) - ((((nI a).toUInt32 >>> ((1 : Int32).toUInt32 &&& Int32.toUInt32 31)).toInt32) &&& 1431655765)) &&& 858993459) + (((((nI a) - ((((nI a).toUInt32 >>> ((1 : Int32).toUInt32 &&& Int32.toUInt32 31)).toInt32) &&& 1431655765)).toUInt32 >>> ((2 : Int32).toUInt32 &&& Int32.toUInt32 31)).toInt32) &&& 858993459)).toUInt32 >>> ((4 : Int32).toUInt32 &&& Int32.toUInt32 31)).toInt32)) &&& 252645135) + ((((((((nI a) - ((((nI a).toUInt32 >>> ((1 : Int32).toUInt32 &&& Int32.toUInt32 31)).toInt32) &&& 1431655765)) &&& 858993459) + (((((nI a) - ((((nI a).toUInt32 >>> ((1 : Int32).toUInt32 &&& Int32.toUInt32 31)).toInt32) &&& 1431655765)).toUInt32 >>> ((2 : Int32).toUInt32 &&& Int32.toUInt32 31)).toInt32) &&& 858993459)) + ((((((nI a) - ((((nI a).toUInt32 >>> ((1 : Int32).toUInt32 &&& Int32.toUInt32 31)).toInt32) &&& 1431655765)) &&& 858993459) + (((((nI a) - ((((nI a).toUInt32 >>> ((1 : Int32).toUInt32 &&& Int32.toUInt32 31)).toInt32) &&& 1431655765)).toUInt32 >>> ((2 : Int32).toUInt32 &&& Int32.toUInt32 31)).toInt32) &&& 858993459)).toUInt32 >>> ((4 : Int32).toUInt32 &&& Int32.toUInt32 31)).toInt32)) &&& 252645135).toUInt32 >>> ((8 : Int32).toUInt32 &&& Int32.toUInt32 31)).toInt32)) + (((((((((nI a) - ((((nI a).toUInt32 >>> ((1 : Int32).toUInt32 &&& Int32.toUInt32 31)).toInt32) &&& 1431655765)) &&& 858993459) + (((((nI a) - ((((nI a).toUInt32 >>> ((1 : Int32).toUInt32 &&& Int32.toUInt32 31)).toInt32) &&& 1431655765)).toUInt32 >>> ((2 : Int32).toUInt32 &&& Int32.toUInt32 31)).toInt32) &&& 858993459)) + ((((((nI a) - ((((nI a).toUInt32 >>> ((1 : Int32).toUInt32 &&& Int32.toUInt32 31)).toInt32) &&& 1431655765)) &&& 858993459) + (((((nI a) - ((((nI a).toUInt32 >>> ((1 : Int32).toUInt32 &&& Int32.toUInt32 31)).toInt32) &&& 1431655765)).toUInt32 >>> ((2 : Int32).toUInt32 &&& Int32.toUInt32 31)).toInt32) &&& 858993459)).toUInt32 >>> ((4 : Int32).toUInt32 &&& Int32.toUInt32 31)).toInt32)) &&& 252645135) + ((((((((nI a) - ((((nI a).toUInt32 >>> ((1 : Int32).toUInt32 &&& Int32.toUInt32 31)).toInt32) &&& 1431655765)) &&& 858993459) + (((((nI a) - ((((nI a).toUInt32 >>> ((1 : Int32).toUInt32 &&& Int32.toUInt32 31)).toInt32) &&& 1431655765)).toUInt32 >>> ((2 : Int32).toUInt32 &&& Int32.toUInt32 31)).toInt32) &&& 858993459)) + ((((((nI a) - ((((nI a).toUInt32 >>> ((1 : Int32).toUInt32 &&& Int32.toUInt32 31)).toInt32) &&& 1431655765)) &&& 858993459) + (((((nI a) - ((((nI a).toUInt32 >>> ((1 : Int32).toUInt32 &&& Int32.toUInt32 31)).toInt32) &&& 1431655765)).toUInt32 >>> ((2 : Int32).toUInt32 &&& Int32.toUInt32 31)).toInt32) &&& 858993459)).toUInt32 >>> ((4 : Int32).toUInt32 &&& Int32.toUInt32 31)).toInt32)) &&& 252645135).toUInt32 >>> ((8 : Int32).toUInt32 &&& Int32.toUInt32 31)).toInt32)).toUInt32 >>> ((16 : Int32).toUInt32 &&& Int32.toUInt32 31)).toInt32)) &&& 63) : Int32) = nI (uPop a) := by decide +kernel
set_option maxHeartbeats 4000000 in
set_option maxRecDepth 100000 in
theorem c_J6_bitCount (l : Launch) (G : uG) (a : Nat) (ha : a < 256) (M : uM) : CTi l G yJ6_bitCount_0f7a4 wsJ6_bitCount_0f7a4 0 0 [.int (nI a)] M (fun r M2 => r = nI (uPop a) ∧ M2 = M) := by
  refine ustart_i (cc := cJ6_bitCount_0f7a4) (maxL := 1) (ret := (some .int)) (own := RJ6) rfl (by decide) rfl (Nat.le_of_ble_eq_true rfl) ?_
  intro xp xe xs xm xa xb xt xc xA ls S hK hA Z hre hlk hl
  have hl : lv_has ls 1 [(0, .int (nI a))] := hl
  refine lv_iload_n S.1 S.2.1 dJ6_bitCount_0f7a4_0 rfl (lv_at hl 0 rfl) ?_
  refine lv_iload_n S.1 S.2.1 dJ6_bitCount_0f7a4_1 rfl (lv_at hl 0 rfl) ?_
  refine lv_iconst (v := 1) S.1 S.2.1 dJ6_bitCount_0f7a4_2 (by decide) ?_
  refine lv_iushr (v := (((nI a).toUInt32 >>> ((1 : Int32).toUInt32 &&& Int32.toUInt32 31)).toInt32)) S.1 S.2.1 dJ6_bitCount_0f7a4_3 rfl ?_
  refine lv_ldcw (v := 1431655765) S.1 S.2.1 S.2.2.2.1 (S.2.2.2.2 _ qJ6_bitCount_0f7a4_265) dJ6_bitCount_0f7a4_4 ?_
  refine lv_iand S.1 S.2.1 dJ6_bitCount_0f7a4_7 ?_
  refine lv_isub S.1 S.2.1 dJ6_bitCount_0f7a4_8 ?_
  refine lv_istore_n (lv' := [(0, .int ((nI a) - ((((nI a).toUInt32 >>> ((1 : Int32).toUInt32 &&& Int32.toUInt32 31)).toInt32) &&& 1431655765)))]) S.1 S.2.1 dJ6_bitCount_0f7a4_9 rfl hl (by decide) rfl (fun ls hl => ?_)
  refine lv_iload_n S.1 S.2.1 dJ6_bitCount_0f7a4_10 rfl (lv_at hl 0 rfl) ?_
  refine lv_ldcw (v := 858993459) S.1 S.2.1 S.2.2.2.1 (S.2.2.2.2 _ qJ6_bitCount_0f7a4_266) dJ6_bitCount_0f7a4_11 ?_
  refine lv_iand S.1 S.2.1 dJ6_bitCount_0f7a4_14 ?_
  refine lv_iload_n S.1 S.2.1 dJ6_bitCount_0f7a4_15 rfl (lv_at hl 0 rfl) ?_
  refine lv_iconst (v := 2) S.1 S.2.1 dJ6_bitCount_0f7a4_16 (by decide) ?_
  refine lv_iushr (v := ((((nI a) - ((((nI a).toUInt32 >>> ((1 : Int32).toUInt32 &&& Int32.toUInt32 31)).toInt32) &&& 1431655765)).toUInt32 >>> ((2 : Int32).toUInt32 &&& Int32.toUInt32 31)).toInt32)) S.1 S.2.1 dJ6_bitCount_0f7a4_17 rfl ?_
  refine lv_ldcw (v := 858993459) S.1 S.2.1 S.2.2.2.1 (S.2.2.2.2 _ qJ6_bitCount_0f7a4_266) dJ6_bitCount_0f7a4_18 ?_
  refine lv_iand S.1 S.2.1 dJ6_bitCount_0f7a4_21 ?_
  refine lv_iadd S.1 S.2.1 dJ6_bitCount_0f7a4_22 ?_
  refine lv_istore_n (lv' := [(0, .int ((((nI a) - ((((nI a).toUInt32 >>> ((1 : Int32).toUInt32 &&& Int32.toUInt32 31)).toInt32) &&& 1431655765)) &&& 858993459) + (((((nI a) - ((((nI a).toUInt32 >>> ((1 : Int32).toUInt32 &&& Int32.toUInt32 31)).toInt32) &&& 1431655765)).toUInt32 >>> ((2 : Int32).toUInt32 &&& Int32.toUInt32 31)).toInt32) &&& 858993459)))]) S.1 S.2.1 dJ6_bitCount_0f7a4_23 rfl hl (by decide) rfl (fun ls hl => ?_)
  refine lv_iload_n S.1 S.2.1 dJ6_bitCount_0f7a4_24 rfl (lv_at hl 0 rfl) ?_
  refine lv_iload_n S.1 S.2.1 dJ6_bitCount_0f7a4_25 rfl (lv_at hl 0 rfl) ?_
  refine lv_iconst (v := 4) S.1 S.2.1 dJ6_bitCount_0f7a4_26 (by decide) ?_
  refine lv_iushr (v := ((((((nI a) - ((((nI a).toUInt32 >>> ((1 : Int32).toUInt32 &&& Int32.toUInt32 31)).toInt32) &&& 1431655765)) &&& 858993459) + (((((nI a) - ((((nI a).toUInt32 >>> ((1 : Int32).toUInt32 &&& Int32.toUInt32 31)).toInt32) &&& 1431655765)).toUInt32 >>> ((2 : Int32).toUInt32 &&& Int32.toUInt32 31)).toInt32) &&& 858993459)).toUInt32 >>> ((4 : Int32).toUInt32 &&& Int32.toUInt32 31)).toInt32)) S.1 S.2.1 dJ6_bitCount_0f7a4_27 rfl ?_
  refine lv_iadd S.1 S.2.1 dJ6_bitCount_0f7a4_28 ?_
  refine lv_ldcw (v := 252645135) S.1 S.2.1 S.2.2.2.1 (S.2.2.2.2 _ qJ6_bitCount_0f7a4_267) dJ6_bitCount_0f7a4_29 ?_
  refine lv_iand S.1 S.2.1 dJ6_bitCount_0f7a4_32 ?_
  refine lv_istore_n (lv' := [(0, .int ((((((nI a) - ((((nI a).toUInt32 >>> ((1 : Int32).toUInt32 &&& Int32.toUInt32 31)).toInt32) &&& 1431655765)) &&& 858993459) + (((((nI a) - ((((nI a).toUInt32 >>> ((1 : Int32).toUInt32 &&& Int32.toUInt32 31)).toInt32) &&& 1431655765)).toUInt32 >>> ((2 : Int32).toUInt32 &&& Int32.toUInt32 31)).toInt32) &&& 858993459)) + ((((((nI a) - ((((nI a).toUInt32 >>> ((1 : Int32).toUInt32 &&& Int32.toUInt32 31)).toInt32) &&& 1431655765)) &&& 858993459) + (((((nI a) - ((((nI a).toUInt32 >>> ((1 : Int32).toUInt32 &&& Int32.toUInt32 31)).toInt32) &&& 1431655765)).toUInt32 >>> ((2 : Int32).toUInt32 &&& Int32.toUInt32 31)).toInt32) &&& 858993459)).toUInt32 >>> ((4 : Int32).toUInt32 &&& Int32.toUInt32 31)).toInt32)) &&& 252645135))]) S.1 S.2.1 dJ6_bitCount_0f7a4_33 rfl hl (by decide) rfl (fun ls hl => ?_)
  refine lv_iload_n S.1 S.2.1 dJ6_bitCount_0f7a4_34 rfl (lv_at hl 0 rfl) ?_
  refine lv_iload_n S.1 S.2.1 dJ6_bitCount_0f7a4_35 rfl (lv_at hl 0 rfl) ?_
  refine lv_bipush (v := 8) S.1 S.2.1 dJ6_bitCount_0f7a4_36 (by decide) ?_
  refine lv_iushr (v := ((((((((nI a) - ((((nI a).toUInt32 >>> ((1 : Int32).toUInt32 &&& Int32.toUInt32 31)).toInt32) &&& 1431655765)) &&& 858993459) + (((((nI a) - ((((nI a).toUInt32 >>> ((1 : Int32).toUInt32 &&& Int32.toUInt32 31)).toInt32) &&& 1431655765)).toUInt32 >>> ((2 : Int32).toUInt32 &&& Int32.toUInt32 31)).toInt32) &&& 858993459)) + ((((((nI a) - ((((nI a).toUInt32 >>> ((1 : Int32).toUInt32 &&& Int32.toUInt32 31)).toInt32) &&& 1431655765)) &&& 858993459) + (((((nI a) - ((((nI a).toUInt32 >>> ((1 : Int32).toUInt32 &&& Int32.toUInt32 31)).toInt32) &&& 1431655765)).toUInt32 >>> ((2 : Int32).toUInt32 &&& Int32.toUInt32 31)).toInt32) &&& 858993459)).toUInt32 >>> ((4 : Int32).toUInt32 &&& Int32.toUInt32 31)).toInt32)) &&& 252645135).toUInt32 >>> ((8 : Int32).toUInt32 &&& Int32.toUInt32 31)).toInt32)) S.1 S.2.1 dJ6_bitCount_0f7a4_38 rfl ?_
  refine lv_iadd S.1 S.2.1 dJ6_bitCount_0f7a4_39 ?_
  refine lv_istore_n (lv' := [(0, .int (((((((nI a) - ((((nI a).toUInt32 >>> ((1 : Int32).toUInt32 &&& Int32.toUInt32 31)).toInt32) &&& 1431655765)) &&& 858993459) + (((((nI a) - ((((nI a).toUInt32 >>> ((1 : Int32).toUInt32 &&& Int32.toUInt32 31)).toInt32) &&& 1431655765)).toUInt32 >>> ((2 : Int32).toUInt32 &&& Int32.toUInt32 31)).toInt32) &&& 858993459)) + ((((((nI a) - ((((nI a).toUInt32 >>> ((1 : Int32).toUInt32 &&& Int32.toUInt32 31)).toInt32) &&& 1431655765)) &&& 858993459) + (((((nI a) - ((((nI a).toUInt32 >>> ((1 : Int32).toUInt32 &&& Int32.toUInt32 31)).toInt32) &&& 1431655765)).toUInt32 >>> ((2 : Int32).toUInt32 &&& Int32.toUInt32 31)).toInt32) &&& 858993459)).toUInt32 >>> ((4 : Int32).toUInt32 &&& Int32.toUInt32 31)).toInt32)) &&& 252645135) + ((((((((nI a) - ((((nI a).toUInt32 >>> ((1 : Int32).toUInt32 &&& Int32.toUInt32 31)).toInt32) &&& 1431655765)) &&& 858993459) + (((((nI a) - ((((nI a).toUInt32 >>> ((1 : Int32).toUInt32 &&& Int32.toUInt32 31)).toInt32) &&& 1431655765)).toUInt32 >>> ((2 : Int32).toUInt32 &&& Int32.toUInt32 31)).toInt32) &&& 858993459)) + ((((((nI a) - ((((nI a).toUInt32 >>> ((1 : Int32).toUInt32 &&& Int32.toUInt32 31)).toInt32) &&& 1431655765)) &&& 858993459) + (((((nI a) - ((((nI a).toUInt32 >>> ((1 : Int32).toUInt32 &&& Int32.toUInt32 31)).toInt32) &&& 1431655765)).toUInt32 >>> ((2 : Int32).toUInt32 &&& Int32.toUInt32 31)).toInt32) &&& 858993459)).toUInt32 >>> ((4 : Int32).toUInt32 &&& Int32.toUInt32 31)).toInt32)) &&& 252645135).toUInt32 >>> ((8 : Int32).toUInt32 &&& Int32.toUInt32 31)).toInt32)))]) S.1 S.2.1 dJ6_bitCount_0f7a4_40 rfl hl (by decide) rfl (fun ls hl => ?_)
  refine lv_iload_n S.1 S.2.1 dJ6_bitCount_0f7a4_41 rfl (lv_at hl 0 rfl) ?_
  refine lv_iload_n S.1 S.2.1 dJ6_bitCount_0f7a4_42 rfl (lv_at hl 0 rfl) ?_
  refine lv_bipush (v := 16) S.1 S.2.1 dJ6_bitCount_0f7a4_43 (by decide) ?_
  refine lv_iushr (v := (((((((((nI a) - ((((nI a).toUInt32 >>> ((1 : Int32).toUInt32 &&& Int32.toUInt32 31)).toInt32) &&& 1431655765)) &&& 858993459) + (((((nI a) - ((((nI a).toUInt32 >>> ((1 : Int32).toUInt32 &&& Int32.toUInt32 31)).toInt32) &&& 1431655765)).toUInt32 >>> ((2 : Int32).toUInt32 &&& Int32.toUInt32 31)).toInt32) &&& 858993459)) + ((((((nI a) - ((((nI a).toUInt32 >>> ((1 : Int32).toUInt32 &&& Int32.toUInt32 31)).toInt32) &&& 1431655765)) &&& 858993459) + (((((nI a) - ((((nI a).toUInt32 >>> ((1 : Int32).toUInt32 &&& Int32.toUInt32 31)).toInt32) &&& 1431655765)).toUInt32 >>> ((2 : Int32).toUInt32 &&& Int32.toUInt32 31)).toInt32) &&& 858993459)).toUInt32 >>> ((4 : Int32).toUInt32 &&& Int32.toUInt32 31)).toInt32)) &&& 252645135) + ((((((((nI a) - ((((nI a).toUInt32 >>> ((1 : Int32).toUInt32 &&& Int32.toUInt32 31)).toInt32) &&& 1431655765)) &&& 858993459) + (((((nI a) - ((((nI a).toUInt32 >>> ((1 : Int32).toUInt32 &&& Int32.toUInt32 31)).toInt32) &&& 1431655765)).toUInt32 >>> ((2 : Int32).toUInt32 &&& Int32.toUInt32 31)).toInt32) &&& 858993459)) + ((((((nI a) - ((((nI a).toUInt32 >>> ((1 : Int32).toUInt32 &&& Int32.toUInt32 31)).toInt32) &&& 1431655765)) &&& 858993459) + (((((nI a) - ((((nI a).toUInt32 >>> ((1 : Int32).toUInt32 &&& Int32.toUInt32 31)).toInt32) &&& 1431655765)).toUInt32 >>> ((2 : Int32).toUInt32 &&& Int32.toUInt32 31)).toInt32) &&& 858993459)).toUInt32 >>> ((4 : Int32).toUInt32 &&& Int32.toUInt32 31)).toInt32)) &&& 252645135).toUInt32 >>> ((8 : Int32).toUInt32 &&& Int32.toUInt32 31)).toInt32)).toUInt32 >>> ((16 : Int32).toUInt32 &&& Int32.toUInt32 31)).toInt32)) S.1 S.2.1 dJ6_bitCount_0f7a4_45 rfl ?_
  refine lv_iadd S.1 S.2.1 dJ6_bitCount_0f7a4_46 ?_
  refine lv_istore_n (lv' := [(0, .int ((((((((nI a) - ((((nI a).toUInt32 >>> ((1 : Int32).toUInt32 &&& Int32.toUInt32 31)).toInt32) &&& 1431655765)) &&& 858993459) + (((((nI a) - ((((nI a).toUInt32 >>> ((1 : Int32).toUInt32 &&& Int32.toUInt32 31)).toInt32) &&& 1431655765)).toUInt32 >>> ((2 : Int32).toUInt32 &&& Int32.toUInt32 31)).toInt32) &&& 858993459)) + ((((((nI a) - ((((nI a).toUInt32 >>> ((1 : Int32).toUInt32 &&& Int32.toUInt32 31)).toInt32) &&& 1431655765)) &&& 858993459) + (((((nI a) - ((((nI a).toUInt32 >>> ((1 : Int32).toUInt32 &&& Int32.toUInt32 31)).toInt32) &&& 1431655765)).toUInt32 >>> ((2 : Int32).toUInt32 &&& Int32.toUInt32 31)).toInt32) &&& 858993459)).toUInt32 >>> ((4 : Int32).toUInt32 &&& Int32.toUInt32 31)).toInt32)) &&& 252645135) + ((((((((nI a) - ((((nI a).toUInt32 >>> ((1 : Int32).toUInt32 &&& Int32.toUInt32 31)).toInt32) &&& 1431655765)) &&& 858993459) + (((((nI a) - ((((nI a).toUInt32 >>> ((1 : Int32).toUInt32 &&& Int32.toUInt32 31)).toInt32) &&& 1431655765)).toUInt32 >>> ((2 : Int32).toUInt32 &&& Int32.toUInt32 31)).toInt32) &&& 858993459)) + ((((((nI a) - ((((nI a).toUInt32 >>> ((1 : Int32).toUInt32 &&& Int32.toUInt32 31)).toInt32) &&& 1431655765)) &&& 858993459) + (((((nI a) - ((((nI a).toUInt32 >>> ((1 : Int32).toUInt32 &&& Int32.toUInt32 31)).toInt32) &&& 1431655765)).toUInt32 >>> ((2 : Int32).toUInt32 &&& Int32.toUInt32 31)).toInt32) &&& 858993459)).toUInt32 >>> ((4 : Int32).toUInt32 &&& Int32.toUInt32 31)).toInt32)) &&& 252645135).toUInt32 >>> ((8 : Int32).toUInt32 &&& Int32.toUInt32 31)).toInt32)) + (((((((((nI a) - ((((nI a).toUInt32 >>> ((1 : Int32).toUInt32 &&& Int32.toUInt32 31)).toInt32) &&& 1431655765)) &&& 858993459) + (((((nI a) - ((((nI a).toUInt32 >>> ((1 : Int32).toUInt32 &&& Int32.toUInt32 31)).toInt32) &&& 1431655765)).toUInt32 >>> ((2 : Int32).toUInt32 &&& Int32.toUInt32 31)).toInt32) &&& 858993459)) + ((((((nI a) - ((((nI a).toUInt32 >>> ((1 : Int32).toUInt32 &&& Int32.toUInt32 31)).toInt32) &&& 1431655765)) &&& 858993459) + (((((nI a) - ((((nI a).toUInt32 >>> ((1 : Int32).toUInt32 &&& Int32.toUInt32 31)).toInt32) &&& 1431655765)).toUInt32 >>> ((2 : Int32).toUInt32 &&& Int32.toUInt32 31)).toInt32) &&& 858993459)).toUInt32 >>> ((4 : Int32).toUInt32 &&& Int32.toUInt32 31)).toInt32)) &&& 252645135) + ((((((((nI a) - ((((nI a).toUInt32 >>> ((1 : Int32).toUInt32 &&& Int32.toUInt32 31)).toInt32) &&& 1431655765)) &&& 858993459) + (((((nI a) - ((((nI a).toUInt32 >>> ((1 : Int32).toUInt32 &&& Int32.toUInt32 31)).toInt32) &&& 1431655765)).toUInt32 >>> ((2 : Int32).toUInt32 &&& Int32.toUInt32 31)).toInt32) &&& 858993459)) + ((((((nI a) - ((((nI a).toUInt32 >>> ((1 : Int32).toUInt32 &&& Int32.toUInt32 31)).toInt32) &&& 1431655765)) &&& 858993459) + (((((nI a) - ((((nI a).toUInt32 >>> ((1 : Int32).toUInt32 &&& Int32.toUInt32 31)).toInt32) &&& 1431655765)).toUInt32 >>> ((2 : Int32).toUInt32 &&& Int32.toUInt32 31)).toInt32) &&& 858993459)).toUInt32 >>> ((4 : Int32).toUInt32 &&& Int32.toUInt32 31)).toInt32)) &&& 252645135).toUInt32 >>> ((8 : Int32).toUInt32 &&& Int32.toUInt32 31)).toInt32)).toUInt32 >>> ((16 : Int32).toUInt32 &&& Int32.toUInt32 31)).toInt32)))]) S.1 S.2.1 dJ6_bitCount_0f7a4_47 rfl hl (by decide) rfl (fun ls hl => ?_)
  refine lv_iload_n S.1 S.2.1 dJ6_bitCount_0f7a4_48 rfl (lv_at hl 0 rfl) ?_
  refine lv_bipush (v := 63) S.1 S.2.1 dJ6_bitCount_0f7a4_49 (by decide) ?_
  refine lv_iand S.1 S.2.1 dJ6_bitCount_0f7a4_51 ?_
  refine uret_i S hK Z hre hlk dJ6_bitCount_0f7a4_52 ?_
  exact ⟨u_bc a ha, rfl⟩
set_option maxHeartbeats 4000000 in
set_option maxRecDepth 100000 in
theorem c_X10_isAjar (l : Launch) (G : uG) (b : Nat) (hb : uIsW b) (M : uM) (w : Nat → Nat → Nat) (k : Nat) (hk : k < 8) (h7 : w 0 7 < 256) : CTi l G yX10_isAjar wsX10_isAjar 0 0 [.ref (G.2.2 b), .int (nI k)] (uPW M b w) (fun r M2 => ((r = 1 ∧ w 0 7 / 2 ^ k % 2 = 1) ∨ (r = 0 ∧ ¬ w 0 7 / 2 ^ k % 2 = 1)) ∧ M2 = uPW M b w) := by
  refine ustart_i (cc := cX10_isAjar) (maxL := 2) (ret := (some .boolean)) (own := RX10) rfl (by decide) rfl (Nat.le_of_ble_eq_true rfl) ?_
  intro xp xe xs xm xa xb xt xc xA ls S hK hA Z hre hlk hl
  have hl : lv_has ls 2 [(0, .ref (G.2.2 b)), (1, .int (nI k))] := hl
  refine lv_aload_n S.1 S.2.1 dX10_isAjar_0 rfl (lv_at hl 0 rfl) ?_
  refine ug_i S hK Z (j := 7) (uW_lt 0 hb (by decide)) (uW_0 hb) rfl rfl (by decide) iX10_isAjar_X10 qX10_isAjar_37 dX10_isAjar_1 ?_
  refine utop (y := (nI (w 0 7))) (uPW_g M b w 7 (j := 0) (by decide)) ?_
  refine lv_iload_n S.1 S.2.1 dX10_isAjar_4 rfl (lv_at hl 1 rfl) ?_
  refine lv_ishr S.1 S.2.1 dX10_isAjar_5 ?_
  refine lv_iconst (v := 1) S.1 S.2.1 dX10_isAjar_6 (by decide) ?_
  refine lv_iand S.1 S.2.1 dX10_isAjar_7 ?_
  refine utop (u_bit (a := (w 0 7)) (k := k) (by omega) (by omega)) ?_
  refine lv_iconst (v := 1) S.1 S.2.1 dX10_isAjar_8 (by decide) ?_
  refine lv_icmp_ne (tgt := 16) S.1 S.2.1 dX10_isAjar_9 (by decide) (fun c_1 => ?_) (fun c_1 => ?_)
  · skip
    have c_1 : ¬ ((w 0 7) / 2 ^ k % 2) = 1 := fun z9 => c_1 ((nI_eq (a := ((w 0 7) / 2 ^ k % 2)) (b := 1) (by omega) (by omega)).mpr z9)
    refine lv_iconst (v := 0) S.1 S.2.1 dX10_isAjar_16 (by decide) ?_
    refine uret_z S hK Z hre hlk (by decide) dX10_isAjar_17 ?_
    exact ⟨Or.inr ⟨rfl, c_1⟩, rfl⟩
  · skip
    have c_1 : ((w 0 7) / 2 ^ k % 2) = 1 := (nI_eq (a := ((w 0 7) / 2 ^ k % 2)) (b := 1) (by omega) (by omega)).mp c_1
    refine lv_iconst (v := 1) S.1 S.2.1 dX10_isAjar_12 (by decide) ?_
    refine lv_goto (tgt := 17) S.1 S.2.1 dX10_isAjar_13 (by decide) ?_
    refine uret_z S hK Z hre hlk (by decide) dX10_isAjar_17 ?_
    exact ⟨Or.inl ⟨rfl, c_1⟩, rfl⟩
set_option maxHeartbeats 4000000 in
set_option maxRecDepth 100000 in
theorem c_X10_areBrothers (l : Launch) (G : uG) (b : Nat) (hb : uIsW b) (M : uM) (w : Nat → Nat → Nat) (f k : Nat) (hf : f < 8) (hk : k < 8) (h6 : w 6 f < 256) : CTi l G yX10_areBrothers wsX10_areBrothers 1 21 [.ref (G.2.2 b), .int (nI f), .int (nI k)] (uPW M b w) (fun r M2 => ((r = 1 ∧ w 6 f / 2 ^ k % 2 = 1) ∨ (r = 0 ∧ ¬ w 6 f / 2 ^ k % 2 = 1)) ∧ M2 = uPW M b w) := by
  refine ustart_i (cc := cX10_areBrothers) (maxL := 3) (ret := (some .boolean)) (own := RX10) rfl (by decide) rfl (Nat.le_of_ble_eq_true rfl) ?_
  intro xp xe xs xm xa xb xt xc xA ls S hK hA Z hre hlk hl
  have hl : lv_has ls 3 [(0, .ref (G.2.2 b)), (1, .int (nI f)), (2, .int (nI k))] := hl
  refine lv_aload_n S.1 S.2.1 dX10_areBrothers_0 rfl (lv_at hl 0 rfl) ?_
  refine ug_r S hK Z (j := 5) (b + 6) (uW_lt 0 hb (by decide)) (uW_0 hb) rfl rfl (by decide) iX10_areBrothers_X10 qX10_areBrothers_27 dX10_areBrothers_1 ?_
  refine lv_iload_n S.1 S.2.1 dX10_areBrothers_4 rfl (lv_at hl 1 rfl) ?_
  refine ud_Si (As := [.ref (G.2.2 (b + 6)), .int (nI f)]) (rest := []) S hK hA Z (c_X5_at l G (b + 6) 8 f (uW_lt 6 hb (by decide)) (uW_6 hb) (by omega) (uPW M b w)) (va_cwS 2 S.2.2.2.2 gX10_areBrothers_X5_at rfl rfl rfl (by decide +kernel) ⟨Nat.le_of_ble_eq_true rfl, Nat.le_of_ble_eq_true rfl⟩) rfl hl.1 rfl (Nat.le_of_ble_eq_true rfl) dX10_areBrothers_5 ⟨Nat.zero_le _, Nat.zero_le _⟩ (fun H locs Z => ?_)
  refine utop (y := (nI (w 6 f))) (uPW_g M b w f (j := 6) (by decide)) ?_
  refine lv_iload_n S.1 S.2.1 dX10_areBrothers_8 rfl (lv_at hl 2 rfl) ?_
  refine lv_ishr S.1 S.2.1 dX10_areBrothers_9 ?_
  refine lv_iconst (v := 1) S.1 S.2.1 dX10_areBrothers_10 (by decide) ?_
  refine lv_iand S.1 S.2.1 dX10_areBrothers_11 ?_
  refine utop (u_bit (a := (w 6 f)) (k := k) (by omega) (by omega)) ?_
  refine lv_iconst (v := 1) S.1 S.2.1 dX10_areBrothers_12 (by decide) ?_
  refine lv_icmp_ne (tgt := 20) S.1 S.2.1 dX10_areBrothers_13 (by decide) (fun c_2 => ?_) (fun c_2 => ?_)
  · skip
    have c_2 : ¬ ((w 6 f) / 2 ^ k % 2) = 1 := fun z9 => c_2 ((nI_eq (a := ((w 6 f) / 2 ^ k % 2)) (b := 1) (by omega) (by omega)).mpr z9)
    refine lv_iconst (v := 0) S.1 S.2.1 dX10_areBrothers_20 (by decide) ?_
    refine uret_z S hK Z hre hlk (by decide) dX10_areBrothers_21 ?_
    exact ⟨Or.inr ⟨rfl, c_2⟩, rfl⟩
  · skip
    have c_2 : ((w 6 f) / 2 ^ k % 2) = 1 := (nI_eq (a := ((w 6 f) / 2 ^ k % 2)) (b := 1) (by omega) (by omega)).mp c_2
    refine lv_iconst (v := 1) S.1 S.2.1 dX10_areBrothers_16 (by decide) ?_
    refine lv_goto (tgt := 21) S.1 S.2.1 dX10_areBrothers_17 (by decide) ?_
    refine uret_z S hK Z hre hlk (by decide) dX10_areBrothers_21 ?_
    exact ⟨Or.inl ⟨rfl, c_2⟩, rfl⟩
set_option maxHeartbeats 4000000 in
set_option maxRecDepth 100000 in
theorem c_X10_isFitForSale (l : Launch) (G : uG) (b : Nat) (hb : uIsW b) (M : uM) (w : Nat → Nat → Nat) (t : Nat) (ht : t < 12) (h2 : w 2 t ≤ 9) : CTi l G yX10_isFitForSale wsX10_isFitForSale 1 21 [.ref (G.2.2 b), .int (nI t)] (uPW M b w) (fun r M2 => ((r = 1 ∧ 2 ≤ w 2 t) ∨ (r = 0 ∧ ¬ 2 ≤ w 2 t)) ∧ M2 = uPW M b w) := by
  refine ustart_i (cc := cX10_isFitForSale) (maxL := 2) (ret := (some .boolean)) (own := RX10) rfl (by decide) rfl (Nat.le_of_ble_eq_true rfl) ?_
  intro xp xe xs xm xa xb xt xc xA ls S hK hA Z hre hlk hl
  have hl : lv_has ls 2 [(0, .ref (G.2.2 b)), (1, .int (nI t))] := hl
  refine lv_aload_n S.1 S.2.1 dX10_isFitForSale_0 rfl (lv_at hl 0 rfl) ?_
  refine ug_r S hK Z (j := 1) (b + 2) (uW_lt 0 hb (by decide)) (uW_0 hb) rfl rfl (by decide) iX10_isFitForSale_X10 qX10_isFitForSale_15 dX10_isFitForSale_1 ?_
  refine lv_iload_n S.1 S.2.1 dX10_isFitForSale_4 rfl (lv_at hl 1 rfl) ?_
  refine ud_Si (As := [.ref (G.2.2 (b + 2)), .int (nI t)]) (rest := []) S hK hA Z (c_X5_at l G (b + 2) 12 t (uW_lt 2 hb (by decide)) (uW_2 hb) (by omega) (uPW M b w)) (va_cwS 2 S.2.2.2.2 gX10_isFitForSale_X5_at rfl rfl rfl (by decide +kernel) ⟨Nat.le_of_ble_eq_true rfl, Nat.le_of_ble_eq_true rfl⟩) rfl hl.1 rfl (Nat.le_of_ble_eq_true rfl) dX10_isFitForSale_5 ⟨Nat.zero_le _, Nat.zero_le _⟩ (fun H locs Z => ?_)
  refine utop (y := (nI (w 2 t))) (uPW_g M b w t (j := 2) (by decide)) ?_
  refine lv_iconst (v := 2) S.1 S.2.1 dX10_isFitForSale_8 (by decide) ?_
  refine lv_icmp_lt (tgt := 16) S.1 S.2.1 dX10_isFitForSale_9 (by decide) (fun c_2 => ?_) (fun c_2 => ?_)
  · skip
    have c_2 : (w 2 t) < 2 := (nI_ltI (a := (w 2 t)) (b := 2) (by omega) (by omega)).mp c_2
    refine lv_iconst (v := 0) S.1 S.2.1 dX10_isFitForSale_16 (by decide) ?_
    refine uret_z S hK Z hre hlk (by decide) dX10_isFitForSale_17 ?_
    exact ⟨Or.inr ⟨rfl, by omega⟩, rfl⟩
  · skip
    have c_2 : ¬ (w 2 t) < 2 := fun z9 => c_2 ((nI_ltI (a := (w 2 t)) (b := 2) (by omega) (by omega)).mpr z9)
    refine lv_iconst (v := 1) S.1 S.2.1 dX10_isFitForSale_12 (by decide) ?_
    refine lv_goto (tgt := 17) S.1 S.2.1 dX10_isFitForSale_13 (by decide) ?_
    refine uret_z S hK Z hre hlk (by decide) dX10_isFitForSale_17 ?_
    exact ⟨Or.inl ⟨rfl, by omega⟩, rfl⟩
set_option maxHeartbeats 4000000 in
set_option maxRecDepth 100000 in
theorem c_X10_priceOf (l : Launch) (G : uG) (b : Nat) (hb : uIsW b) (M : uM) (w : Nat → Nat → Nat) (t : Nat) (ht : t < 12) (h2 : w 2 t ≤ 9) (h3 : w 3 t ≤ 99) : CTi l G yX10_priceOf wsX10_priceOf 1 21 [.ref (G.2.2 b), .int (nI t)] (uPW M b w) (fun r M2 => (2 ≤ w 2 t → r = nI (wPrice w t)) ∧ M2 = uPW M b w) := by
  refine ustart_i (cc := cX10_priceOf) (maxL := 3) (ret := (some .int)) (own := RX10) rfl (by decide) rfl (Nat.le_of_ble_eq_true rfl) ?_
  intro xp xe xs xm xa xb xt xc xA ls S hK hA Z hre hlk hl
  have hl : lv_has ls 3 [(0, .ref (G.2.2 b)), (1, .int (nI t))] := hl
  refine lv_aload_n S.1 S.2.1 dX10_priceOf_0 rfl (lv_at hl 0 rfl) ?_
  refine ug_r S hK Z (j := 1) (b + 2) (uW_lt 0 hb (by decide)) (uW_0 hb) rfl rfl (by decide) iX10_priceOf_X10 qX10_priceOf_15 dX10_priceOf_1 ?_
  refine lv_iload_n S.1 S.2.1 dX10_priceOf_4 rfl (lv_at hl 1 rfl) ?_
  refine ud_Si (As := [.ref (G.2.2 (b + 2)), .int (nI t)]) (rest := []) S hK hA Z (c_X5_at l G (b + 2) 12 t (uW_lt 2 hb (by decide)) (uW_2 hb) (by omega) (uPW M b w)) (va_cwS 2 S.2.2.2.2 gX10_priceOf_X5_at rfl rfl rfl (by decide +kernel) ⟨Nat.le_of_ble_eq_true rfl, Nat.le_of_ble_eq_true rfl⟩) rfl hl.1 rfl (Nat.le_of_ble_eq_true rfl) dX10_priceOf_5 ⟨Nat.zero_le _, Nat.zero_le _⟩ (fun H locs Z => ?_)
  refine utop (y := (nI (w 2 t))) (uPW_g M b w t (j := 2) (by decide)) ?_
  refine lv_istore_n (lv' := [(2, .int (nI (w 2 t))), (0, .ref (G.2.2 b)), (1, .int (nI t))]) S.1 S.2.1 dX10_priceOf_8 rfl hl (by decide) rfl (fun ls hl => ?_)
  refine lv_iload_n S.1 S.2.1 dX10_priceOf_9 rfl (lv_at hl 0 rfl) ?_
  refine lv_bipush (v := 9) S.1 S.2.1 dX10_priceOf_10 (by decide) ?_
  refine lv_icmp_ne (tgt := 19) S.1 S.2.1 dX10_priceOf_12 (by decide) (fun c_2 => ?_) (fun c_2 => ?_)
  · skip
    have c_2 : ¬ (w 2 t) = 9 := fun z9 => c_2 ((nI_eq (a := (w 2 t)) (b := 9) (by omega) (by omega)).mpr z9)
    refine lv_aload_n S.1 S.2.1 dX10_priceOf_19 rfl (lv_at hl 1 rfl) ?_
    refine ug_r S hK Z (j := 2) (b + 3) (uW_lt 0 hb (by decide)) (uW_0 hb) rfl rfl (by decide) iX10_priceOf_X10 qX10_priceOf_18 dX10_priceOf_20 ?_
    refine lv_iload_n S.1 S.2.1 dX10_priceOf_23 rfl (lv_at hl 2 rfl) ?_
    refine ud_Si (As := [.ref (G.2.2 (b + 3)), .int (nI t)]) (rest := []) S hK hA Z (c_X5_at l G (b + 3) 12 t (uW_lt 3 hb (by decide)) (uW_3 hb) (by omega) (uPW M b w)) (va_cwS 2 S.2.2.2.2 gX10_priceOf_X5_at rfl rfl rfl (by decide +kernel) ⟨Nat.le_of_ble_eq_true rfl, Nat.le_of_ble_eq_true rfl⟩) rfl hl.1 rfl (Nat.le_of_ble_eq_true rfl) dX10_priceOf_24 ⟨Nat.zero_le _, Nat.zero_le _⟩ (fun H locs Z => ?_)
    refine utop (y := (nI (w 3 t))) (uPW_g M b w t (j := 3) (by decide)) ?_
    refine lv_iload_n S.1 S.2.1 dX10_priceOf_27 rfl (lv_at hl 0 rfl) ?_
    refine lv_iconst (v := 1) S.1 S.2.1 dX10_priceOf_28 (by decide) ?_
    refine lv_isub S.1 S.2.1 dX10_priceOf_29 ?_
    refine lv_imul S.1 S.2.1 dX10_priceOf_30 ?_
    refine uret_i S hK Z hre hlk dX10_priceOf_31 ?_
    refine ⟨fun h => ?_, rfl⟩
    unfold wPrice
    rw [if_neg (by omega), show nI (w 2 t) - 1 = nI (w 2 t - 1) from pk_sub (b := 1) (by omega), pk_mul]
  · skip
    have c_2 : (w 2 t) = 9 := (nI_eq (a := (w 2 t)) (b := 9) (by omega) (by omega)).mp c_2
    refine lv_iconst (v := 0) S.1 S.2.1 dX10_priceOf_15 (by decide) ?_
    refine lv_goto (tgt := 31) S.1 S.2.1 dX10_priceOf_16 (by decide) ?_
    refine uret_i S hK Z hre hlk dX10_priceOf_31 ?_
    refine ⟨fun h => ?_, rfl⟩
    unfold wPrice
    rw [if_pos (Or.inr c_2)]
    rfl
set_option maxHeartbeats 4000000 in
set_option maxRecDepth 100000 in
theorem c_X10_priceOfg (l : Launch) (G : uG) (b : Nat) (hb : uIsW b) (M : uM) (w : Nat → Nat → Nat) (t : Int32) : CTi l G yX10_priceOf wsX10_priceOf 1 21 [.ref (G.2.2 b), .int t] (uPW M b w) (fun _ M2 => M2 = uPW M b w) := by
  refine ustart_i (cc := cX10_priceOf) (maxL := 3) (ret := (some .int)) (own := RX10) rfl (by decide) rfl (Nat.le_of_ble_eq_true rfl) ?_
  intro xp xe xs xm xa xb xt xc xA ls S hK hA Z hre hlk hl
  have hl : lv_has ls 3 [(0, .ref (G.2.2 b)), (1, .int t)] := hl
  refine lv_aload_n S.1 S.2.1 dX10_priceOf_0 rfl (lv_at hl 0 rfl) ?_
  refine ug_r S hK Z (j := 1) (b + 2) (uW_lt 0 hb (by decide)) (uW_0 hb) rfl rfl (by decide) iX10_priceOf_X10 qX10_priceOf_15 dX10_priceOf_1 ?_
  refine lv_iload_n S.1 S.2.1 dX10_priceOf_4 rfl (lv_at hl 1 rfl) ?_
  refine uc_Si (As := [.ref (G.2.2 (b + 2)), .int t]) (rest := []) S hK hA Z (c_X5_atg l G (b + 2) 12 (uW_lt 2 hb (by decide)) (uW_2 hb) t (uPW M b w)) (va_cwS 2 S.2.2.2.2 gX10_priceOf_X5_at rfl rfl rfl (by decide +kernel) ⟨Nat.le_of_ble_eq_true rfl, Nat.le_of_ble_eq_true rfl⟩) rfl hl.1 rfl (Nat.le_of_ble_eq_true rfl) dX10_priceOf_5 ⟨Nat.zero_le _, Nat.zero_le _⟩ (fun r_1 M_1 H locs hp Z => ?_)
  have hM_1 := hp
  rw [hM_1] at Z
  refine lv_istore_n (lv' := [(2, .int (r_1)), (0, .ref (G.2.2 b)), (1, .int t)]) S.1 S.2.1 dX10_priceOf_8 rfl hl (by decide) rfl (fun ls hl => ?_)
  refine lv_iload_n S.1 S.2.1 dX10_priceOf_9 rfl (lv_at hl 0 rfl) ?_
  refine lv_bipush (v := 9) S.1 S.2.1 dX10_priceOf_10 (by decide) ?_
  refine lv_icmp_ne (tgt := 19) S.1 S.2.1 dX10_priceOf_12 (by decide) (fun c_2 => ?_) (fun c_2 => ?_)
  · skip
    refine lv_aload_n S.1 S.2.1 dX10_priceOf_19 rfl (lv_at hl 1 rfl) ?_
    refine ug_r S hK Z (j := 2) (b + 3) (uW_lt 0 hb (by decide)) (uW_0 hb) rfl rfl (by decide) iX10_priceOf_X10 qX10_priceOf_18 dX10_priceOf_20 ?_
    refine lv_iload_n S.1 S.2.1 dX10_priceOf_23 rfl (lv_at hl 2 rfl) ?_
    refine uc_Si (As := [.ref (G.2.2 (b + 3)), .int t]) (rest := []) S hK hA Z (c_X5_atg l G (b + 3) 12 (uW_lt 3 hb (by decide)) (uW_3 hb) t (uPW M b w)) (va_cwS 2 S.2.2.2.2 gX10_priceOf_X5_at rfl rfl rfl (by decide +kernel) ⟨Nat.le_of_ble_eq_true rfl, Nat.le_of_ble_eq_true rfl⟩) rfl hl.1 rfl (Nat.le_of_ble_eq_true rfl) dX10_priceOf_24 ⟨Nat.zero_le _, Nat.zero_le _⟩ (fun r_3 M_3 H locs hp Z => ?_)
    have hM_3 := hp
    rw [hM_3] at Z
    refine lv_iload_n S.1 S.2.1 dX10_priceOf_27 rfl (lv_at hl 0 rfl) ?_
    refine lv_iconst (v := 1) S.1 S.2.1 dX10_priceOf_28 (by decide) ?_
    refine lv_isub S.1 S.2.1 dX10_priceOf_29 ?_
    refine lv_imul S.1 S.2.1 dX10_priceOf_30 ?_
    refine uret_i S hK Z hre hlk dX10_priceOf_31 ?_
    exact rfl
  · skip
    refine lv_iconst (v := 0) S.1 S.2.1 dX10_priceOf_15 (by decide) ?_
    refine lv_goto (tgt := 31) S.1 S.2.1 dX10_priceOf_16 (by decide) ?_
    refine uret_i S hK Z hre hlk dX10_priceOf_31 ?_
    exact rfl
set_option maxHeartbeats 4000000 in
set_option maxRecDepth 100000 in
theorem c_X10_thingsOf (l : Launch) (G : uG) (b : Nat) (hb : uIsW b) (M : uM) (w : Nat → Nat → Nat) (k : Nat) (hk : k < 8) (h1 : ∀ t, t < 12 → w 1 t < 8) : CTi l G yX10_thingsOf wsX10_thingsOf 1 21 [.ref (G.2.2 b), .int (nI k)] (uPW M b w) (fun r M2 => r = nI (wMany w k 12) ∧ M2 = uPW M b w) := by
  refine ustart_i (cc := cX10_thingsOf) (maxL := 4) (ret := (some .int)) (own := RX10) rfl (by decide) rfl (Nat.le_of_ble_eq_true rfl) ?_
  intro xp xe xs xm xa xb xt xc xA ls S hK hA Z hre hlk hl
  have hl : lv_has ls 4 [(0, .ref (G.2.2 b)), (1, .int (nI k))] := hl
  refine lv_iconst (v := 0) S.1 S.2.1 dX10_thingsOf_0 (by decide) ?_
  refine lv_istore_n (lv' := [(2, .int 0), (0, .ref (G.2.2 b)), (1, .int (nI k))]) S.1 S.2.1 dX10_thingsOf_1 rfl hl (by decide) rfl (fun ls hl => ?_)
  refine lv_iconst (v := 0) S.1 S.2.1 dX10_thingsOf_2 (by decide) ?_
  refine lv_istore_n (lv' := [(3, .int 0), (2, .int 0), (0, .ref (G.2.2 b)), (1, .int (nI k))]) S.1 S.2.1 dX10_thingsOf_3 rfl hl (by decide) rfl (fun ls hl => ?_)
  have LP4 : ∀ (fU : Nat) (n : Nat) (t : Nat), (12 < t + fU) → (t ≤ 12) → (n = wMany w k t) → ∀ (H : Heap) (locs : List Loc) (ls : Array Slot), uZ G xA (uPW M b w) xs.heap H locs → lv_has ls 4 [(3, .int (nI t)), (2, .int (nI n)), (0, .ref (G.2.2 b)), (1, .int (nI k))] → W xp l xe (uRm 1 21) xs xm xa xb xt xc H locs 0 0 (MQ xb (va_Qi (fun r M2 => r = nI (wMany w k 12) ∧ M2 = uPW M b w) (fun M' t => uB G M' t) xA) xa xs 0 0 xA) (F0 xm 4 ls []) := by
    intro fU
    induction fU with
    | zero =>
      intro n t hfl i1 i2 H locs ls Z hl
      exfalso
      omega
    | succ fU ih4 =>
      intro n t hfl i1 i2 H locs ls Z hl
      have i3 := wMany_le w k t
      refine lv_iload_n S.1 S.2.1 dX10_thingsOf_4 rfl (lv_at hl 0 rfl) ?_
      refine lv_bipush (v := 12) S.1 S.2.1 dX10_thingsOf_5 (by decide) ?_
      refine lv_icmp_ge (tgt := 31) S.1 S.2.1 dX10_thingsOf_7 (by decide) (fun c_1 => ?_) (fun c_1 => ?_)
      · skip
        have c_1 : 12 ≤ t := (nI_leI (a := 12) (b := t) (by omega) (by omega)).mp c_1
        refine lv_iload_n S.1 S.2.1 dX10_thingsOf_31 rfl (lv_at hl 1 rfl) ?_
        refine uret_i S hK Z hre hlk dX10_thingsOf_32 ?_
        rw [i2, show t = 12 from by omega]
        exact ⟨rfl, rfl⟩
      · skip
        have c_1 : ¬ 12 ≤ t := fun z9 => c_1 ((nI_leI (a := 12) (b := t) (by omega) (by omega)).mpr z9)
        refine lv_aload_n S.1 S.2.1 dX10_thingsOf_10 rfl (lv_at hl 2 rfl) ?_
        refine ug_r S hK Z (j := 0) (b + 1) (uW_lt 0 hb (by decide)) (uW_0 hb) rfl rfl (by decide) iX10_thingsOf_X10 qX10_thingsOf_9 dX10_thingsOf_11 ?_
        have i4 := h1 t (by omega)
        refine lv_iload_n S.1 S.2.1 dX10_thingsOf_14 rfl (lv_at hl 0 rfl) ?_
        refine ud_Si (As := [.ref (G.2.2 (b + 1)), .int (nI t)]) (rest := []) S hK hA Z (c_X5_at l G (b + 1) 12 t (uW_lt 1 hb (by decide)) (uW_1 hb) (by omega) (uPW M b w)) (va_cwS 2 S.2.2.2.2 gX10_thingsOf_X5_at rfl rfl rfl (by decide +kernel) ⟨Nat.le_of_ble_eq_true rfl, Nat.le_of_ble_eq_true rfl⟩) rfl hl.1 rfl (Nat.le_of_ble_eq_true rfl) dX10_thingsOf_15 ⟨Nat.zero_le _, Nat.zero_le _⟩ (fun H locs Z => ?_)
        refine utop (y := (nI (w 1 t))) (uPW_g M b w t (j := 1) (by decide)) ?_
        refine lv_iload_n S.1 S.2.1 dX10_thingsOf_18 rfl (lv_at hl 3 rfl) ?_
        refine lv_icmp_ne (tgt := 25) S.1 S.2.1 dX10_thingsOf_19 (by decide) (fun c_3 => ?_) (fun c_3 => ?_)
        · skip
          have c_3 : ¬ (w 1 t) = k := fun z9 => c_3 ((nI_eq (a := (w 1 t)) (b := k) (by omega) (by omega)).mpr z9)
          refine lv_iinc (v := (nI (t + 1))) (lv' := [(3, .int (nI (t + 1))), (2, .int (nI n)), (0, .ref (G.2.2 b)), (1, .int (nI k))]) S.1 S.2.1 dX10_thingsOf_25 hl (k := 0) rfl (u_inc1 t) (by decide) rfl (fun ls hl => ?_)
          refine lv_goto (tgt := 4) S.1 S.2.1 dX10_thingsOf_28 (by decide) ?_
          exact ih4 n (t + 1) (by omega) (by omega) (by rw [wMany]; split <;> omega) _ _ _ Z (lv_sub hl [0, 1, 2, 3] rfl)
        · skip
          have c_3 : (w 1 t) = k := (nI_eq (a := (w 1 t)) (b := k) (by omega) (by omega)).mp c_3
          refine lv_iinc (v := (nI (n + 1))) (lv' := [(2, .int (nI (n + 1))), (3, .int (nI t)), (0, .ref (G.2.2 b)), (1, .int (nI k))]) S.1 S.2.1 dX10_thingsOf_22 hl (k := 1) rfl (u_inc1 n) (by decide) rfl (fun ls hl => ?_)
          refine lv_iinc (v := (nI (t + 1))) (lv' := [(3, .int (nI (t + 1))), (2, .int (nI (n + 1))), (0, .ref (G.2.2 b)), (1, .int (nI k))]) S.1 S.2.1 dX10_thingsOf_25 hl (k := 1) rfl (u_inc1 t) (by decide) rfl (fun ls hl => ?_)
          refine lv_goto (tgt := 4) S.1 S.2.1 dX10_thingsOf_28 (by decide) ?_
          exact ih4 (n + 1) (t + 1) (by omega) (by omega) (by rw [wMany]; split <;> omega) _ _ _ Z (lv_sub hl [0, 1, 2, 3] rfl)
  exact LP4 13 0 0 (by omega) (by omega) (by rfl) _ _ _ Z (lv_sub hl [0, 1, 2, 3] rfl)
set_option maxHeartbeats 4000000 in
set_option maxRecDepth 100000 in
theorem c_X10_thingsFitForSale (l : Launch) (G : uG) (b : Nat) (hb : uIsW b) (M : uM) (w : Nat → Nat → Nat) (h2 : ∀ t, t < 12 → w 2 t ≤ 9) : CTi l G yX10_thingsFitForSale wsX10_thingsFitForSale 2 42 [.ref (G.2.2 b)] (uPW M b w) (fun r M2 => r = nI (wFit w 12) ∧ M2 = uPW M b w) := by
  refine ustart_i (cc := cX10_thingsFitForSale) (maxL := 3) (ret := (some .int)) (own := RX10) rfl (by decide) rfl (Nat.le_of_ble_eq_true rfl) ?_
  intro xp xe xs xm xa xb xt xc xA ls S hK hA Z hre hlk hl
  have hl : lv_has ls 3 [(0, .ref (G.2.2 b))] := hl
  refine lv_iconst (v := 0) S.1 S.2.1 dX10_thingsFitForSale_0 (by decide) ?_
  refine lv_istore_n (lv' := [(1, .int 0), (0, .ref (G.2.2 b))]) S.1 S.2.1 dX10_thingsFitForSale_1 rfl hl (by decide) rfl (fun ls hl => ?_)
  refine lv_iconst (v := 0) S.1 S.2.1 dX10_thingsFitForSale_2 (by decide) ?_
  refine lv_istore_n (lv' := [(2, .int 0), (1, .int 0), (0, .ref (G.2.2 b))]) S.1 S.2.1 dX10_thingsFitForSale_3 rfl hl (by decide) rfl (fun ls hl => ?_)
  have LP4 : ∀ (fU : Nat) (n : Nat) (t : Nat), (12 < t + fU) → (t ≤ 12) → (n = wFit w t) → ∀ (H : Heap) (locs : List Loc) (ls : Array Slot), uZ G xA (uPW M b w) xs.heap H locs → lv_has ls 3 [(2, .int (nI t)), (1, .int (nI n)), (0, .ref (G.2.2 b))] → W xp l xe (uRm 2 42) xs xm xa xb xt xc H locs 0 0 (MQ xb (va_Qi (fun r M2 => r = nI (wFit w 12) ∧ M2 = uPW M b w) (fun M' t => uB G M' t) xA) xa xs 0 0 xA) (F0 xm 4 ls []) := by
    intro fU
    induction fU with
    | zero =>
      intro n t hfl i1 i2 H locs ls Z hl
      exfalso
      omega
    | succ fU ih4 =>
      intro n t hfl i1 i2 H locs ls Z hl
      have i3 := wFit_le w t
      refine lv_iload_n S.1 S.2.1 dX10_thingsFitForSale_4 rfl (lv_at hl 0 rfl) ?_
      refine lv_bipush (v := 12) S.1 S.2.1 dX10_thingsFitForSale_5 (by decide) ?_
      refine lv_icmp_ge (tgt := 27) S.1 S.2.1 dX10_thingsFitForSale_7 (by decide) (fun c_1 => ?_) (fun c_1 => ?_)
      · skip
        have c_1 : 12 ≤ t := (nI_leI (a := 12) (b := t) (by omega) (by omega)).mp c_1
        refine lv_iload_n S.1 S.2.1 dX10_thingsFitForSale_27 rfl (lv_at hl 1 rfl) ?_
        refine uret_i S hK Z hre hlk dX10_thingsFitForSale_28 ?_
        rw [i2, show t = 12 from by omega]
        exact ⟨rfl, rfl⟩
      · skip
        have c_1 : ¬ 12 ≤ t := fun z9 => c_1 ((nI_leI (a := 12) (b := t) (by omega) (by omega)).mpr z9)
        have i4 := h2 t (by omega)
        refine lv_aload_n S.1 S.2.1 dX10_thingsFitForSale_10 rfl (lv_at hl 2 rfl) ?_
        refine lv_iload_n S.1 S.2.1 dX10_thingsFitForSale_11 rfl (lv_at hl 0 rfl) ?_
        refine uc_Vi (As := [.int (nI t)]) (rest := []) S hK hA Z (c_X10_isFitForSale l G b hb M w t (by omega) (by omega)) (cwV 1 S.2.2.2.2 gX10_thingsFitForSale_X10_isFitForSale rfl rfl rfl (by decide +kernel) ⟨Nat.le_of_ble_eq_true rfl, Nat.le_of_ble_eq_true rfl⟩) (uW_lt 0 hb (by decide)) (uW_0 hb) rfl rfl hl.1 rfl (Nat.le_of_ble_eq_true rfl) dX10_thingsFitForSale_12 ⟨Nat.zero_le _, Nat.zero_le _⟩ (fun r_2 M_2 H locs hp Z => ?_)
        obtain ⟨⟨rfl, w_2⟩ | ⟨rfl, w_2⟩, hM_2⟩ := hp
        · skip
          rw [hM_2] at Z
          refine lv_if_eq (tgt := 21) S.1 S.2.1 dX10_thingsFitForSale_15 (by decide) (fun c => absurd c (by decide)) (fun _ => ?_)
          refine lv_iinc (v := (nI (n + 1))) (lv' := [(1, .int (nI (n + 1))), (2, .int (nI t)), (0, .ref (G.2.2 b))]) S.1 S.2.1 dX10_thingsFitForSale_18 hl (k := 1) rfl (u_inc1 n) (by decide) rfl (fun ls hl => ?_)
          refine lv_iinc (v := (nI (t + 1))) (lv' := [(2, .int (nI (t + 1))), (1, .int (nI (n + 1))), (0, .ref (G.2.2 b))]) S.1 S.2.1 dX10_thingsFitForSale_21 hl (k := 1) rfl (u_inc1 t) (by decide) rfl (fun ls hl => ?_)
          refine lv_goto (tgt := 4) S.1 S.2.1 dX10_thingsFitForSale_24 (by decide) ?_
          exact ih4 (n + 1) (t + 1) (by omega) (by omega) (by rw [wFit]; split <;> omega) _ _ _ Z (lv_sub hl [0, 1, 2] rfl)
        · skip
          rw [hM_2] at Z
          refine lv_if_eq (tgt := 21) S.1 S.2.1 dX10_thingsFitForSale_15 (by decide) (fun _ => ?_) (fun c => absurd c (by decide))
          refine lv_iinc (v := (nI (t + 1))) (lv' := [(2, .int (nI (t + 1))), (1, .int (nI n)), (0, .ref (G.2.2 b))]) S.1 S.2.1 dX10_thingsFitForSale_21 hl (k := 0) rfl (u_inc1 t) (by decide) rfl (fun ls hl => ?_)
          refine lv_goto (tgt := 4) S.1 S.2.1 dX10_thingsFitForSale_24 (by decide) ?_
          exact ih4 n (t + 1) (by omega) (by omega) (by rw [wFit]; split <;> omega) _ _ _ Z (lv_sub hl [0, 1, 2] rfl)
  exact LP4 13 0 0 (by omega) (by omega) (by rfl) _ _ _ Z (lv_sub hl [0, 1, 2] rfl)
set_option maxHeartbeats 4000000 in
set_option maxRecDepth 100000 in
theorem c_X10_pairsOfBrothers (l : Launch) (G : uG) (b : Nat) (hb : uIsW b) (M : uM) (w : Nat → Nat → Nat) (h6 : ∀ k, k < 8 → w 6 k < 256) : CTi l G yX10_pairsOfBrothers wsX10_pairsOfBrothers 1 21 [.ref (G.2.2 b)] (uPW M b w) (fun r M2 => r = nI (wPop w 8 / 2) ∧ M2 = uPW M b w) := by
  refine ustart_i (cc := cX10_pairsOfBrothers) (maxL := 3) (ret := (some .int)) (own := RX10) rfl (by decide) rfl (Nat.le_of_ble_eq_true rfl) ?_
  intro xp xe xs xm xa xb xt xc xA ls S hK hA Z hre hlk hl
  have hl : lv_has ls 3 [(0, .ref (G.2.2 b))] := hl
  refine lv_iconst (v := 0) S.1 S.2.1 dX10_pairsOfBrothers_0 (by decide) ?_
  refine lv_istore_n (lv' := [(1, .int 0), (0, .ref (G.2.2 b))]) S.1 S.2.1 dX10_pairsOfBrothers_1 rfl hl (by decide) rfl (fun ls hl => ?_)
  refine lv_iconst (v := 0) S.1 S.2.1 dX10_pairsOfBrothers_2 (by decide) ?_
  refine lv_istore_n (lv' := [(2, .int 0), (1, .int 0), (0, .ref (G.2.2 b))]) S.1 S.2.1 dX10_pairsOfBrothers_3 rfl hl (by decide) rfl (fun ls hl => ?_)
  have LP4 : ∀ (fU : Nat) (n : Nat) (t : Nat), (8 < t + fU) → (t ≤ 8) → (n = wPop w t) → ∀ (H : Heap) (locs : List Loc) (ls : Array Slot), uZ G xA (uPW M b w) xs.heap H locs → lv_has ls 3 [(2, .int (nI t)), (1, .int (nI n)), (0, .ref (G.2.2 b))] → W xp l xe (uRm 1 21) xs xm xa xb xt xc H locs 0 0 (MQ xb (va_Qi (fun r M2 => r = nI (wPop w 8 / 2) ∧ M2 = uPW M b w) (fun M' t => uB G M' t) xA) xa xs 0 0 xA) (F0 xm 4 ls []) := by
    intro fU
    induction fU with
    | zero =>
      intro n t hfl i1 i2 H locs ls Z hl
      exfalso
      omega
    | succ fU ih4 =>
      intro n t hfl i1 i2 H locs ls Z hl
      have i3 := wPop_le w t
      refine lv_iload_n S.1 S.2.1 dX10_pairsOfBrothers_4 rfl (lv_at hl 0 rfl) ?_
      refine lv_bipush (v := 8) S.1 S.2.1 dX10_pairsOfBrothers_5 (by decide) ?_
      refine lv_icmp_ge (tgt := 30) S.1 S.2.1 dX10_pairsOfBrothers_7 (by decide) (fun c_1 => ?_) (fun c_1 => ?_)
      · skip
        have c_1 : 8 ≤ t := (nI_leI (a := 8) (b := t) (by omega) (by omega)).mp c_1
        obtain rfl : t = 8 := by omega
        refine lv_iload_n S.1 S.2.1 dX10_pairsOfBrothers_30 rfl (lv_at hl 1 rfl) ?_
        refine lv_iconst (v := 2) S.1 S.2.1 dX10_pairsOfBrothers_31 (by decide) ?_
        refine lv_idiv S.1 S.2.1 dX10_pairsOfBrothers_32 (by decide) ?_
        refine utop (pk_div (a := n) (d := 2) (by omega) (by omega) (by omega)) ?_
        refine uret_i S hK Z hre hlk dX10_pairsOfBrothers_33 ?_
        rw [i2]
        exact ⟨rfl, rfl⟩
      · skip
        have c_1 : ¬ 8 ≤ t := fun z9 => c_1 ((nI_leI (a := 8) (b := t) (by omega) (by omega)).mpr z9)
        have i4 := h6 t (by omega)
        have i5 := uPop_le (w 6 t)
        refine lv_iload_n S.1 S.2.1 dX10_pairsOfBrothers_10 rfl (lv_at hl 1 rfl) ?_
        refine lv_aload_n S.1 S.2.1 dX10_pairsOfBrothers_11 rfl (lv_at hl 2 rfl) ?_
        refine ug_r S hK Z (j := 5) (b + 6) (uW_lt 0 hb (by decide)) (uW_0 hb) rfl rfl (by decide) iX10_pairsOfBrothers_X10 qX10_pairsOfBrothers_27 dX10_pairsOfBrothers_12 ?_
        refine lv_iload_n S.1 S.2.1 dX10_pairsOfBrothers_15 rfl (lv_at hl 0 rfl) ?_
        refine ud_Si (As := [.ref (G.2.2 (b + 6)), .int (nI t)]) (rest := [.int (nI n)]) S hK hA Z (c_X5_at l G (b + 6) 8 t (uW_lt 6 hb (by decide)) (uW_6 hb) (by omega) (uPW M b w)) (va_cwS 2 S.2.2.2.2 gX10_pairsOfBrothers_X5_at rfl rfl rfl (by decide +kernel) ⟨Nat.le_of_ble_eq_true rfl, Nat.le_of_ble_eq_true rfl⟩) rfl hl.1 rfl (Nat.le_of_ble_eq_true rfl) dX10_pairsOfBrothers_16 ⟨Nat.zero_le _, Nat.zero_le _⟩ (fun H locs Z => ?_)
        refine utop (y := (nI (w 6 t))) (uPW_g M b w t (j := 6) (by decide)) ?_
        refine ud_Si (As := [.int (nI (w 6 t))]) (rest := [.int (nI n)]) S hK hA Z (c_J6_bitCount l G (w 6 t) (by omega) (uPW M b w)) (va_cwS 1 S.2.2.2.2 gX10_pairsOfBrothers_J6_bitCount_0f7a4 rfl rfl rfl (by decide +kernel) ⟨Nat.le_of_ble_eq_true rfl, Nat.le_of_ble_eq_true rfl⟩) rfl hl.1 rfl (Nat.le_of_ble_eq_true rfl) dX10_pairsOfBrothers_19 ⟨Nat.zero_le _, Nat.zero_le _⟩ (fun H locs Z => ?_)
        refine lv_iadd S.1 S.2.1 dX10_pairsOfBrothers_22 ?_
        refine utop (nI_add n (uPop (w 6 t))) ?_
        refine lv_istore_n (lv' := [(1, .int (nI (n + (uPop (w 6 t))))), (2, .int (nI t)), (0, .ref (G.2.2 b))]) S.1 S.2.1 dX10_pairsOfBrothers_23 rfl hl (by decide) rfl (fun ls hl => ?_)
        refine lv_iinc (v := (nI (t + 1))) (lv' := [(2, .int (nI (t + 1))), (1, .int (nI (n + (uPop (w 6 t))))), (0, .ref (G.2.2 b))]) S.1 S.2.1 dX10_pairsOfBrothers_24 hl (k := 1) rfl (u_inc1 t) (by decide) rfl (fun ls hl => ?_)
        refine lv_goto (tgt := 4) S.1 S.2.1 dX10_pairsOfBrothers_27 (by decide) ?_
        exact ih4 (n + (uPop (w 6 t))) (t + 1) (by omega) (by omega) (by rw [wPop]; omega) _ _ _ Z (lv_sub hl [0, 1, 2] rfl)
  exact LP4 9 0 0 (by omega) (by omega) (by rfl) _ _ _ Z (lv_sub hl [0, 1, 2] rfl)
set_option maxHeartbeats 4000000 in
set_option maxRecDepth 100000 in
theorem c_X10_bind1 (l : Launch) (G : uG) (b : Nat) (hb : uIsW b) (M : uM) (w : Nat → Nat → Nat) (k q : Nat) (hk : k < 8) (hq : q < 8) (h6 : w 6 k < 256) : CTv l G yX10_bind wsX10_bind 1 22 [.ref (G.2.2 b), .int (nI k), .int (nI q), .int 1] (uPW M b w) (fun M2 => M2 = uPW M b (wu w 6 k (w 6 k ||| 2 ^ q))) := by
  refine ustart_v (cc := cX10_bind) (maxL := 5) (ret := none) (own := RX10) rfl (by decide) rfl (Nat.le_of_ble_eq_true rfl) ?_
  intro xp xe xs xm xa xb xt xc xA ls S hK hA Z hre hlk hl
  have hl : lv_has ls 5 [(0, .ref (G.2.2 b)), (1, .int (nI k)), (2, .int (nI q)), (3, .int 1)] := hl
  refine lv_aload_n S.1 S.2.1 dX10_bind_0 rfl (lv_at hl 0 rfl) ?_
  refine ug_r S hK Z (j := 5) (b + 6) (uW_lt 0 hb (by decide)) (uW_0 hb) rfl rfl (by decide) iX10_bind_X10 qX10_bind_27 dX10_bind_1 ?_
  refine lv_iload_n S.1 S.2.1 dX10_bind_4 rfl (lv_at hl 1 rfl) ?_
  refine ud_Si (As := [.ref (G.2.2 (b + 6)), .int (nI k)]) (rest := []) S hK hA Z (c_X5_at l G (b + 6) 8 k (uW_lt 6 hb (by decide)) (uW_6 hb) (by omega) (uPW M b w)) (va_cwS 2 S.2.2.2.2 gX10_bind_X5_at rfl rfl rfl (by decide +kernel) ⟨Nat.le_of_ble_eq_true rfl, Nat.le_of_ble_eq_true rfl⟩) rfl hl.1 rfl (Nat.le_of_ble_eq_true rfl) dX10_bind_5 ⟨Nat.zero_le _, Nat.zero_le _⟩ (fun H locs Z => ?_)
  refine utop (y := (nI (w 6 k))) (uPW_g M b w k (j := 6) (by decide)) ?_
  refine lv_istore (lv' := [(4, .int (nI (w 6 k))), (0, .ref (G.2.2 b)), (1, .int (nI k)), (2, .int (nI q)), (3, .int 1)]) S.1 S.2.1 dX10_bind_8 hl (by decide) rfl (fun ls hl => ?_)
  refine lv_aload_n S.1 S.2.1 dX10_bind_10 rfl (lv_at hl 1 rfl) ?_
  refine ug_r S hK Z (j := 5) (b + 6) (uW_lt 0 hb (by decide)) (uW_0 hb) rfl rfl (by decide) iX10_bind_X10 qX10_bind_27 dX10_bind_11 ?_
  refine lv_iload_n S.1 S.2.1 dX10_bind_14 rfl (lv_at hl 2 rfl) ?_
  refine lv_iload_n S.1 S.2.1 dX10_bind_15 rfl (lv_at hl 4 rfl) ?_
  refine lv_if_eq (tgt := 28) S.1 S.2.1 dX10_bind_16 (by decide) (fun c => absurd c (by decide)) (fun _ => ?_)
  refine lv_iload S.1 S.2.1 dX10_bind_19 (lv_at hl 0 rfl) ?_
  refine lv_iconst (v := 1) S.1 S.2.1 dX10_bind_21 (by decide) ?_
  refine lv_iload_n S.1 S.2.1 dX10_bind_22 rfl (lv_at hl 3 rfl) ?_
  refine lv_ishl S.1 S.2.1 dX10_bind_23 ?_
  refine utop (u_shl1 (k := q) (by omega)) ?_
  refine lv_ior S.1 S.2.1 dX10_bind_24 ?_
  refine utop (nx_or (w 6 k) (2 ^ q)) ?_
  refine lv_goto (tgt := 36) S.1 S.2.1 dX10_bind_25 (by decide) ?_
  refine ud_Sv (As := [.ref (G.2.2 (b + 6)), .int (nI k), .int (nI ((w 6 k) ||| (2 ^ q)))]) (rest := []) S hK hA Z (c_X5_put l G (b + 6) 8 k (uW_lt 6 hb (by decide)) (uW_6 hb) (by omega) (nI ((w 6 k) ||| (2 ^ q))) (uPW M b w)) (va_cwS 3 S.2.2.2.2 gX10_bind_X5_put rfl rfl rfl (by decide +kernel) ⟨Nat.le_of_ble_eq_true rfl, Nat.le_of_ble_eq_true rfl⟩) rfl hl.1 rfl (Nat.le_of_ble_eq_true rfl) dX10_bind_36 ⟨Nat.zero_le _, Nat.zero_le _⟩ (fun H locs Z => ?_)
  have Z := uZ_eq (uPW_s M b w k ((w 6 k) ||| (2 ^ q)) (j := 6) (by decide)) Z
  refine uret_v S hK Z hre hlk dX10_bind_39 ?_
  exact rfl
set_option maxHeartbeats 4000000 in
set_option maxRecDepth 100000 in
theorem c_X10_bind0 (l : Launch) (G : uG) (b : Nat) (hb : uIsW b) (M : uM) (w : Nat → Nat → Nat) (k q : Nat) (hk : k < 8) (hq : q < 8) (h6 : w 6 k < 256) : CTv l G yX10_bind wsX10_bind 1 22 [.ref (G.2.2 b), .int (nI k), .int (nI q), .int 0] (uPW M b w) (fun M2 => M2 = uPW M b (wu w 6 k (uClr (w 6 k) q))) := by
  refine ustart_v (cc := cX10_bind) (maxL := 5) (ret := none) (own := RX10) rfl (by decide) rfl (Nat.le_of_ble_eq_true rfl) ?_
  intro xp xe xs xm xa xb xt xc xA ls S hK hA Z hre hlk hl
  have hl : lv_has ls 5 [(0, .ref (G.2.2 b)), (1, .int (nI k)), (2, .int (nI q)), (3, .int 0)] := hl
  refine lv_aload_n S.1 S.2.1 dX10_bind_0 rfl (lv_at hl 0 rfl) ?_
  refine ug_r S hK Z (j := 5) (b + 6) (uW_lt 0 hb (by decide)) (uW_0 hb) rfl rfl (by decide) iX10_bind_X10 qX10_bind_27 dX10_bind_1 ?_
  refine lv_iload_n S.1 S.2.1 dX10_bind_4 rfl (lv_at hl 1 rfl) ?_
  refine ud_Si (As := [.ref (G.2.2 (b + 6)), .int (nI k)]) (rest := []) S hK hA Z (c_X5_at l G (b + 6) 8 k (uW_lt 6 hb (by decide)) (uW_6 hb) (by omega) (uPW M b w)) (va_cwS 2 S.2.2.2.2 gX10_bind_X5_at rfl rfl rfl (by decide +kernel) ⟨Nat.le_of_ble_eq_true rfl, Nat.le_of_ble_eq_true rfl⟩) rfl hl.1 rfl (Nat.le_of_ble_eq_true rfl) dX10_bind_5 ⟨Nat.zero_le _, Nat.zero_le _⟩ (fun H locs Z => ?_)
  refine utop (y := (nI (w 6 k))) (uPW_g M b w k (j := 6) (by decide)) ?_
  refine lv_istore (lv' := [(4, .int (nI (w 6 k))), (0, .ref (G.2.2 b)), (1, .int (nI k)), (2, .int (nI q)), (3, .int 0)]) S.1 S.2.1 dX10_bind_8 hl (by decide) rfl (fun ls hl => ?_)
  refine lv_aload_n S.1 S.2.1 dX10_bind_10 rfl (lv_at hl 1 rfl) ?_
  refine ug_r S hK Z (j := 5) (b + 6) (uW_lt 0 hb (by decide)) (uW_0 hb) rfl rfl (by decide) iX10_bind_X10 qX10_bind_27 dX10_bind_11 ?_
  refine lv_iload_n S.1 S.2.1 dX10_bind_14 rfl (lv_at hl 2 rfl) ?_
  refine lv_iload_n S.1 S.2.1 dX10_bind_15 rfl (lv_at hl 4 rfl) ?_
  refine lv_if_eq (tgt := 28) S.1 S.2.1 dX10_bind_16 (by decide) (fun _ => ?_) (fun c => absurd c (by decide))
  refine lv_iload S.1 S.2.1 dX10_bind_28 (lv_at hl 0 rfl) ?_
  refine lv_iconst (v := 1) S.1 S.2.1 dX10_bind_30 (by decide) ?_
  refine lv_iload_n S.1 S.2.1 dX10_bind_31 rfl (lv_at hl 3 rfl) ?_
  refine lv_ishl S.1 S.2.1 dX10_bind_32 ?_
  refine utop (u_shl1 (k := q) (by omega)) ?_
  refine lv_iconst (v := (-1)) S.1 S.2.1 dX10_bind_33 (by decide) ?_
  refine lv_ixor S.1 S.2.1 dX10_bind_34 ?_
  refine lv_iand S.1 S.2.1 dX10_bind_35 ?_
  refine utop (u_clr (a := (w 6 k)) (k := q) (by omega) (by omega)) ?_
  refine ud_Sv (As := [.ref (G.2.2 (b + 6)), .int (nI k), .int (nI (uClr (w 6 k) q))]) (rest := []) S hK hA Z (c_X5_put l G (b + 6) 8 k (uW_lt 6 hb (by decide)) (uW_6 hb) (by omega) (nI (uClr (w 6 k) q)) (uPW M b w)) (va_cwS 3 S.2.2.2.2 gX10_bind_X5_put rfl rfl rfl (by decide +kernel) ⟨Nat.le_of_ble_eq_true rfl, Nat.le_of_ble_eq_true rfl⟩) rfl hl.1 rfl (Nat.le_of_ble_eq_true rfl) dX10_bind_36 ⟨Nat.zero_le _, Nat.zero_le _⟩ (fun H locs Z => ?_)
  have Z := uZ_eq (uPW_s M b w k (uClr (w 6 k) q) (j := 6) (by decide)) Z
  refine uret_v S hK Z hre hlk dX10_bind_39 ?_
  exact rfl
set_option maxHeartbeats 4000000 in
set_option maxRecDepth 100000 in
theorem c_X10_hand (l : Launch) (G : uG) (b : Nat) (hb : uIsW b) (M : uM) (w : Nat → Nat → Nat) (t q : Nat) (ht : t < 12) (hq : q < 8) : CTv l G yX10_hand wsX10_hand 1 22 [.ref (G.2.2 b), .int (nI t), .int (nI q)] (uPW M b w) (fun M2 => M2 = uPW M b (wHand w t q)) := by
  refine ustart_v (cc := cX10_hand) (maxL := 3) (ret := none) (own := RX10) rfl (by decide) rfl (Nat.le_of_ble_eq_true rfl) ?_
  intro xp xe xs xm xa xb xt xc xA ls S hK hA Z hre hlk hl
  have hl : lv_has ls 3 [(0, .ref (G.2.2 b)), (1, .int (nI t)), (2, .int (nI q))] := hl
  refine lv_aload_n S.1 S.2.1 dX10_hand_0 rfl (lv_at hl 0 rfl) ?_
  refine ug_r S hK Z (j := 0) (b + 1) (uW_lt 0 hb (by decide)) (uW_0 hb) rfl rfl (by decide) iX10_hand_X10 qX10_hand_9 dX10_hand_1 ?_
  refine lv_iload_n S.1 S.2.1 dX10_hand_4 rfl (lv_at hl 1 rfl) ?_
  refine lv_iload_n S.1 S.2.1 dX10_hand_5 rfl (lv_at hl 2 rfl) ?_
  refine ud_Sv (As := [.ref (G.2.2 (b + 1)), .int (nI t), .int (nI q)]) (rest := []) S hK hA Z (c_X5_put l G (b + 1) 12 t (uW_lt 1 hb (by decide)) (uW_1 hb) (by omega) (nI q) (uPW M b w)) (va_cwS 3 S.2.2.2.2 gX10_hand_X5_put rfl rfl rfl (by decide +kernel) ⟨Nat.le_of_ble_eq_true rfl, Nat.le_of_ble_eq_true rfl⟩) rfl hl.1 rfl (Nat.le_of_ble_eq_true rfl) dX10_hand_6 ⟨Nat.zero_le _, Nat.zero_le _⟩ (fun H locs Z => ?_)
  have Z := uZ_eq (uPW_s M b w t q (j := 1) (by decide)) Z
  refine lv_aload_n S.1 S.2.1 dX10_hand_9 rfl (lv_at hl 0 rfl) ?_
  refine ug_r S hK Z (j := 1) (b + 2) (uW_lt 0 hb (by decide)) (uW_0 hb) rfl rfl (by decide) iX10_hand_X10 qX10_hand_15 dX10_hand_10 ?_
  refine lv_iload_n S.1 S.2.1 dX10_hand_13 rfl (lv_at hl 1 rfl) ?_
  refine lv_iconst (v := 0) S.1 S.2.1 dX10_hand_14 (by decide) ?_
  refine ud_Sv (As := [.ref (G.2.2 (b + 2)), .int (nI t), .int 0]) (rest := []) S hK hA Z (c_X5_put l G (b + 2) 12 t (uW_lt 2 hb (by decide)) (uW_2 hb) (by omega) 0 (uPW M b (wu w 1 t q))) (va_cwS 3 S.2.2.2.2 gX10_hand_X5_put rfl rfl rfl (by decide +kernel) ⟨Nat.le_of_ble_eq_true rfl, Nat.le_of_ble_eq_true rfl⟩) rfl hl.1 rfl (Nat.le_of_ble_eq_true rfl) dX10_hand_15 ⟨Nat.zero_le _, Nat.zero_le _⟩ (fun H locs Z => ?_)
  have Z := uZ_eq (uPW_s M b (wu w 1 t q) t 0 (j := 2) (by decide)) Z
  refine uret_v S hK Z hre hlk dX10_hand_18 ?_
  exact rfl
set_option maxHeartbeats 4000000 in
set_option maxRecDepth 100000 in
theorem c_X10_reason (l : Launch) (G : uG) (b : Nat) (hb : uIsW b) (M : uM) (w : Nat → Nat → Nat) (k t q : Nat) (hk : k < 8) (ht : t < 12) (hq : q < 8) (h1 : w 1 t < 8) : CTi l G yX10_reasonAgainstHanding wsX10_reasonAgainstHanding 1 21 [.ref (G.2.2 b), .int (nI k), .int (nI t), .int (nI q)] (uPW M b w) (fun r M2 => r = nI (acWhy w k t q) ∧ M2 = uPW M b w) := by
  refine ustart_i (cc := cX10_reasonAgainstHanding) (maxL := 4) (ret := (some .int)) (own := RX10) rfl (by decide) rfl (Nat.le_of_ble_eq_true rfl) ?_
  intro xp xe xs xm xa xb xt xc xA ls S hK hA Z hre hlk hl
  have hl : lv_has ls 4 [(0, .ref (G.2.2 b)), (1, .int (nI k)), (2, .int (nI t)), (3, .int (nI q))] := hl
  refine lv_aload_n S.1 S.2.1 dX10_reasonAgainstHanding_0 rfl (lv_at hl 0 rfl) ?_
  refine ug_r S hK Z (j := 0) (b + 1) (uW_lt 0 hb (by decide)) (uW_0 hb) rfl rfl (by decide) iX10_reasonAgainstHanding_X10 qX10_reasonAgainstHanding_9 dX10_reasonAgainstHanding_1 ?_
  refine lv_iload_n S.1 S.2.1 dX10_reasonAgainstHanding_4 rfl (lv_at hl 2 rfl) ?_
  refine ud_Si (As := [.ref (G.2.2 (b + 1)), .int (nI t)]) (rest := []) S hK hA Z (c_X5_at l G (b + 1) 12 t (uW_lt 1 hb (by decide)) (uW_1 hb) (by omega) (uPW M b w)) (va_cwS 2 S.2.2.2.2 gX10_reasonAgainstHanding_X5_at rfl rfl rfl (by decide +kernel) ⟨Nat.le_of_ble_eq_true rfl, Nat.le_of_ble_eq_true rfl⟩) rfl hl.1 rfl (Nat.le_of_ble_eq_true rfl) dX10_reasonAgainstHanding_5 ⟨Nat.zero_le _, Nat.zero_le _⟩ (fun H locs Z => ?_)
  refine utop (y := (nI (w 1 t))) (uPW_g M b w t (j := 1) (by decide)) ?_
  refine lv_iload_n S.1 S.2.1 dX10_reasonAgainstHanding_8 rfl (lv_at hl 1 rfl) ?_
  refine lv_icmp_eq (tgt := 14) S.1 S.2.1 dX10_reasonAgainstHanding_9 (by decide) (fun c_2 => ?_) (fun c_2 => ?_)
  · skip
    have c_2 : (w 1 t) = k := (nI_eq (a := (w 1 t)) (b := k) (by omega) (by omega)).mp c_2
    refine lv_iload_n S.1 S.2.1 dX10_reasonAgainstHanding_14 rfl (lv_at hl 1 rfl) ?_
    refine lv_iload_n S.1 S.2.1 dX10_reasonAgainstHanding_15 rfl (lv_at hl 3 rfl) ?_
    refine lv_icmp_ne (tgt := 23) S.1 S.2.1 dX10_reasonAgainstHanding_16 (by decide) (fun c_3 => ?_) (fun c_3 => ?_)
    · skip
      have c_3 : ¬ k = q := fun z9 => c_3 ((nI_eq (a := k) (b := q) (by omega) (by omega)).mpr z9)
      refine lv_iconst (v := 0) S.1 S.2.1 dX10_reasonAgainstHanding_23 (by decide) ?_
      refine uret_i S hK Z hre hlk dX10_reasonAgainstHanding_24 ?_
      refine ⟨?_, rfl⟩
      unfold acWhy
      rw [if_pos c_2, if_neg c_3]
      rfl
    · skip
      have c_3 : k = q := (nI_eq (a := k) (b := q) (by omega) (by omega)).mp c_3
      refine lv_iconst (v := 3) S.1 S.2.1 dX10_reasonAgainstHanding_19 (by decide) ?_
      refine lv_goto (tgt := 24) S.1 S.2.1 dX10_reasonAgainstHanding_20 (by decide) ?_
      refine uret_i S hK Z hre hlk dX10_reasonAgainstHanding_24 ?_
      refine ⟨?_, rfl⟩
      unfold acWhy
      rw [if_pos c_2, if_pos c_3]
      rfl
  · skip
    have c_2 : ¬ (w 1 t) = k := fun z9 => c_2 ((nI_eq (a := (w 1 t)) (b := k) (by omega) (by omega)).mpr z9)
    refine lv_iconst (v := 1) S.1 S.2.1 dX10_reasonAgainstHanding_12 (by decide) ?_
    refine uret_i S hK Z hre hlk dX10_reasonAgainstHanding_13 ?_
    refine ⟨?_, rfl⟩
    unfold acWhy
    rw [if_neg c_2]
    rfl
theorem acWhy_le (w : Nat → Nat → Nat) (k t q : Nat) : acWhy w k t q ≤ 3 := by
  unfold acWhy
  split
  · split <;> omega
  · omega
set_option maxHeartbeats 4000000 in
set_option maxRecDepth 100000 in
theorem c_X10_give (l : Launch) (G : uG) (b : Nat) (hb : uIsW b) (M : uM) (w : Nat → Nat → Nat) (k t q : Nat) (hk : k < 8) (ht : t < 12) (hq : q < 8) (hw : wOk w) : CTi l G yX10_give wsX10_give 2 44 [.ref (G.2.2 b), .int (nI k), .int (nI t), .int (nI q)] (uPW M b w) (fun r M2 => r = nI (acGive w k t q).1 ∧ M2 = uPW M b (acGive w k t q).2) := by
  obtain ⟨h1, h2, h3, -, -⟩ := hw.1 t ht
  have hy := acWhy_le w k t q
  refine ustart_i (cc := cX10_give) (maxL := 5) (ret := (some .int)) (own := RX10) rfl (by decide) rfl (Nat.le_of_ble_eq_true rfl) ?_
  intro xp xe xs xm xa xb xt xc xA ls S hK hA Z hre hlk hl
  have hl : lv_has ls 5 [(0, .ref (G.2.2 b)), (1, .int (nI k)), (2, .int (nI t)), (3, .int (nI q))] := hl
  refine lv_aload_n S.1 S.2.1 dX10_give_0 rfl (lv_at hl 0 rfl) ?_
  refine lv_iload_n S.1 S.2.1 dX10_give_1 rfl (lv_at hl 1 rfl) ?_
  refine lv_iload_n S.1 S.2.1 dX10_give_2 rfl (lv_at hl 2 rfl) ?_
  refine lv_iload_n S.1 S.2.1 dX10_give_3 rfl (lv_at hl 3 rfl) ?_
  refine ud_Vi (As := [.int (nI k), .int (nI t), .int (nI q)]) (rest := []) S hK hA Z (c_X10_reason l G b hb M w k t q (by omega) (by omega) (by omega) (by omega)) (cwV 3 S.2.2.2.2 gX10_give_X10_reasonAgainstHanding rfl rfl rfl (by decide +kernel) ⟨Nat.le_of_ble_eq_true rfl, Nat.le_of_ble_eq_true rfl⟩) (uW_lt 0 hb (by decide)) (uW_0 hb) rfl rfl hl.1 rfl (Nat.le_of_ble_eq_true rfl) dX10_give_4 ⟨Nat.zero_le _, Nat.zero_le _⟩ (fun H locs Z => ?_)
  refine lv_istore (lv' := [(4, .int (nI (acWhy w k t q))), (0, .ref (G.2.2 b)), (1, .int (nI k)), (2, .int (nI t)), (3, .int (nI q))]) S.1 S.2.1 dX10_give_7 hl (by decide) rfl (fun ls hl => ?_)
  refine lv_iload S.1 S.2.1 dX10_give_9 (lv_at hl 0 rfl) ?_
  refine lv_if_ne (tgt := 20) S.1 S.2.1 dX10_give_11 (by decide) (fun c_2 => ?_) (fun c_2 => ?_)
  · skip
    have c_2 : ¬ (acWhy w k t q) = 0 := fun z9 => c_2 ((nI_eq (a := (acWhy w k t q)) (b := 0) (by omega) (by omega)).mpr z9)
    refine lv_iload S.1 S.2.1 dX10_give_20 (lv_at hl 0 rfl) ?_
    refine uret_i S hK Z hre hlk dX10_give_22 ?_
    unfold acGive
    rw [if_neg c_2]
    exact ⟨rfl, rfl⟩
  · skip
    have c_2 : (acWhy w k t q) = 0 := (nI_eq (a := (acWhy w k t q)) (b := 0) (by omega) (by omega)).mp c_2
    refine lv_aload_n S.1 S.2.1 dX10_give_14 rfl (lv_at hl 1 rfl) ?_
    refine lv_iload_n S.1 S.2.1 dX10_give_15 rfl (lv_at hl 3 rfl) ?_
    refine lv_iload_n S.1 S.2.1 dX10_give_16 rfl (lv_at hl 4 rfl) ?_
    refine ud_Vv (As := [.int (nI t), .int (nI q)]) (rest := []) S hK hA Z (c_X10_hand l G b hb M w t q (by omega) (by omega)) (cwV 2 S.2.2.2.2 gX10_give_X10_hand rfl rfl rfl (by decide +kernel) ⟨Nat.le_of_ble_eq_true rfl, Nat.le_of_ble_eq_true rfl⟩) (uW_lt 0 hb (by decide)) (uW_0 hb) rfl rfl hl.1 rfl (Nat.le_of_ble_eq_true rfl) dX10_give_17 ⟨Nat.zero_le _, Nat.zero_le _⟩ (fun H locs Z => ?_)
    refine lv_iload S.1 S.2.1 dX10_give_20 (lv_at hl 0 rfl) ?_
    refine uret_i S hK Z hre hlk dX10_give_22 ?_
    unfold acGive
    rw [if_pos c_2]
    exact ⟨by rw [c_2], rfl⟩
theorem wPrice_le (w : Nat → Nat → Nat) (t : Nat) (h2 : w 2 t ≤ 9) (h3 : w 3 t ≤ 99) : wPrice w t ≤ 891 := by
  unfold wPrice
  split
  · omega
  · have := Nat.mul_le_mul h3 (show w 2 t - 1 ≤ 9 by omega)
    omega
set_option maxHeartbeats 4000000 in
set_option maxRecDepth 100000 in
theorem c_X10_sell (l : Launch) (G : uG) (b : Nat) (hb : uIsW b) (M : uM) (w : Nat → Nat → Nat) (k t q : Nat) (hk : k < 8) (ht : t < 12) (hq : q < 8) (hw : wOk w) : CTi l G yX10_sell wsX10_sell 2 44 [.ref (G.2.2 b), .int (nI k), .int (nI t), .int (nI q)] (uPW M b w) (fun r M2 => r = nI (acSell w k t q).1 ∧ M2 = uPW M b (acSell w k t q).2) := by
  obtain ⟨h1, h2, h3, -, -⟩ := hw.1 t ht
  have hy := acWhy_le w k t q
  have c5k := (hw.2.1 k hk).1
  have c5q := (hw.2.1 q hq).1
  have hp := wPrice_le w t h2 h3
  refine ustart_i (cc := cX10_sell) (maxL := 6) (ret := (some .int)) (own := RX10) rfl (by decide) rfl (Nat.le_of_ble_eq_true rfl) ?_
  intro xp xe xs xm xa xb xt xc xA ls S hK hA Z hre hlk hl
  have hl : lv_has ls 6 [(0, .ref (G.2.2 b)), (1, .int (nI k)), (2, .int (nI t)), (3, .int (nI q))] := hl
  refine lv_aload_n S.1 S.2.1 dX10_sell_0 rfl (lv_at hl 0 rfl) ?_
  refine lv_iload_n S.1 S.2.1 dX10_sell_1 rfl (lv_at hl 1 rfl) ?_
  refine lv_iload_n S.1 S.2.1 dX10_sell_2 rfl (lv_at hl 2 rfl) ?_
  refine lv_iload_n S.1 S.2.1 dX10_sell_3 rfl (lv_at hl 3 rfl) ?_
  refine ud_Vi (As := [.int (nI k), .int (nI t), .int (nI q)]) (rest := []) S hK hA Z (c_X10_reason l G b hb M w k t q (by omega) (by omega) (by omega) (by omega)) (cwV 3 S.2.2.2.2 gX10_sell_X10_reasonAgainstHanding rfl rfl rfl (by decide +kernel) ⟨Nat.le_of_ble_eq_true rfl, Nat.le_of_ble_eq_true rfl⟩) (uW_lt 0 hb (by decide)) (uW_0 hb) rfl rfl hl.1 rfl (Nat.le_of_ble_eq_true rfl) dX10_sell_4 ⟨Nat.zero_le _, Nat.zero_le _⟩ (fun H locs Z => ?_)
  refine lv_istore (lv' := [(4, .int (nI (acWhy w k t q))), (0, .ref (G.2.2 b)), (1, .int (nI k)), (2, .int (nI t)), (3, .int (nI q))]) S.1 S.2.1 dX10_sell_7 hl (by decide) rfl (fun ls hl => ?_)
  refine lv_iload S.1 S.2.1 dX10_sell_9 (lv_at hl 0 rfl) ?_
  refine lv_if_eq (tgt := 17) S.1 S.2.1 dX10_sell_11 (by decide) (fun c_2 => ?_) (fun c_2 => ?_)
  · skip
    have c_2 : (acWhy w k t q) = 0 := (nI_eq (a := (acWhy w k t q)) (b := 0) (by omega) (by omega)).mp c_2
    have a0 := c_2
    refine lv_aload_n S.1 S.2.1 dX10_sell_17 rfl (lv_at hl 1 rfl) ?_
    refine lv_iload_n S.1 S.2.1 dX10_sell_18 rfl (lv_at hl 3 rfl) ?_
    refine uc_Vi (As := [.int (nI t)]) (rest := []) S hK hA Z (c_X10_isFitForSale l G b hb M w t (by omega) (by omega)) (cwV 1 S.2.2.2.2 gX10_sell_X10_isFitForSale rfl rfl rfl (by decide +kernel) ⟨Nat.le_of_ble_eq_true rfl, Nat.le_of_ble_eq_true rfl⟩) (uW_lt 0 hb (by decide)) (uW_0 hb) rfl rfl hl.1 rfl (Nat.le_of_ble_eq_true rfl) dX10_sell_19 ⟨Nat.zero_le _, Nat.zero_le _⟩ (fun r_3 M_3 H locs hp Z => ?_)
    obtain ⟨⟨rfl, w_3⟩ | ⟨rfl, w_3⟩, hM_3⟩ := hp
    · skip
      rw [hM_3] at Z
      refine lv_if_ne (tgt := 27) S.1 S.2.1 dX10_sell_22 (by decide) (fun _ => ?_) (fun c => absurd c (by decide))
      refine lv_aload_n S.1 S.2.1 dX10_sell_27 rfl (lv_at hl 1 rfl) ?_
      refine lv_iload_n S.1 S.2.1 dX10_sell_28 rfl (lv_at hl 3 rfl) ?_
      refine uc_Vi (As := [.int (nI t)]) (rest := []) S hK hA Z (c_X10_priceOf l G b hb M w t (by omega) (by omega) (by omega)) (cwV 1 S.2.2.2.2 gX10_sell_X10_priceOf rfl rfl rfl (by decide +kernel) ⟨Nat.le_of_ble_eq_true rfl, Nat.le_of_ble_eq_true rfl⟩) (uW_lt 0 hb (by decide)) (uW_0 hb) rfl rfl hl.1 rfl (Nat.le_of_ble_eq_true rfl) dX10_sell_29 ⟨Nat.zero_le _, Nat.zero_le _⟩ (fun r_5 M_5 H locs hp Z => ?_)
      obtain ⟨p_5, hM_5⟩ := hp
      rw [hM_5] at Z
      refine utop (p_5 (by omega)) ?_
      refine lv_istore (lv' := [(5, .int (nI (wPrice w t))), (4, .int (nI (acWhy w k t q))), (0, .ref (G.2.2 b)), (1, .int (nI k)), (2, .int (nI t)), (3, .int (nI q))]) S.1 S.2.1 dX10_sell_32 hl (by decide) rfl (fun ls hl => ?_)
      refine lv_aload_n S.1 S.2.1 dX10_sell_34 rfl (lv_at hl 2 rfl) ?_
      refine ug_r S hK Z (j := 4) (b + 5) (uW_lt 0 hb (by decide)) (uW_0 hb) rfl rfl (by decide) iX10_sell_X10 qX10_sell_24 dX10_sell_35 ?_
      refine lv_iload_n S.1 S.2.1 dX10_sell_38 rfl (lv_at hl 5 rfl) ?_
      refine ud_Si (As := [.ref (G.2.2 (b + 5)), .int (nI q)]) (rest := []) S hK hA Z (c_X5_at l G (b + 5) 8 q (uW_lt 5 hb (by decide)) (uW_5 hb) (by omega) (uPW M b w)) (va_cwS 2 S.2.2.2.2 gX10_sell_X5_at rfl rfl rfl (by decide +kernel) ⟨Nat.le_of_ble_eq_true rfl, Nat.le_of_ble_eq_true rfl⟩) rfl hl.1 rfl (Nat.le_of_ble_eq_true rfl) dX10_sell_39 ⟨Nat.zero_le _, Nat.zero_le _⟩ (fun H locs Z => ?_)
      refine utop (y := (nI (w 5 q))) (uPW_g M b w q (j := 5) (by decide)) ?_
      refine lv_iload S.1 S.2.1 dX10_sell_42 (lv_at hl 0 rfl) ?_
      refine lv_icmp_ge (tgt := 49) S.1 S.2.1 dX10_sell_44 (by decide) (fun c_7 => ?_) (fun c_7 => ?_)
      · skip
        have c_7 : (wPrice w t) ≤ (w 5 q) := (nI_leI (a := (wPrice w t)) (b := (w 5 q)) (by omega) (by omega)).mp c_7
        have hkq : k ≠ q := by
          unfold acWhy at a0
          intro z
          rw [if_pos z] at a0
          split at a0 <;> omega
        refine lv_aload_n S.1 S.2.1 dX10_sell_49 rfl (lv_at hl 2 rfl) ?_
        refine ug_r S hK Z (j := 4) (b + 5) (uW_lt 0 hb (by decide)) (uW_0 hb) rfl rfl (by decide) iX10_sell_X10 qX10_sell_24 dX10_sell_50 ?_
        refine lv_iload_n S.1 S.2.1 dX10_sell_53 rfl (lv_at hl 5 rfl) ?_
        refine lv_aload_n S.1 S.2.1 dX10_sell_54 rfl (lv_at hl 2 rfl) ?_
        refine ug_r S hK Z (j := 4) (b + 5) (uW_lt 0 hb (by decide)) (uW_0 hb) rfl rfl (by decide) iX10_sell_X10 qX10_sell_24 dX10_sell_55 ?_
        refine lv_iload_n S.1 S.2.1 dX10_sell_58 rfl (lv_at hl 5 rfl) ?_
        refine ud_Si (As := [.ref (G.2.2 (b + 5)), .int (nI q)]) (rest := [.int (nI q), .ref (G.2.2 (b + 5))]) S hK hA Z (c_X5_at l G (b + 5) 8 q (uW_lt 5 hb (by decide)) (uW_5 hb) (by omega) (uPW M b w)) (va_cwS 2 S.2.2.2.2 gX10_sell_X5_at rfl rfl rfl (by decide +kernel) ⟨Nat.le_of_ble_eq_true rfl, Nat.le_of_ble_eq_true rfl⟩) rfl hl.1 rfl (Nat.le_of_ble_eq_true rfl) dX10_sell_59 ⟨Nat.zero_le _, Nat.zero_le _⟩ (fun H locs Z => ?_)
        refine utop (y := (nI (w 5 q))) (uPW_g M b w q (j := 5) (by decide)) ?_
        refine lv_iload S.1 S.2.1 dX10_sell_62 (lv_at hl 0 rfl) ?_
        refine lv_isub S.1 S.2.1 dX10_sell_64 ?_
        refine utop (pk_sub (a := (w 5 q)) (b := (wPrice w t)) (by omega)) ?_
        refine ud_Sv (As := [.ref (G.2.2 (b + 5)), .int (nI q), .int (nI ((w 5 q) - (wPrice w t)))]) (rest := []) S hK hA Z (c_X5_put l G (b + 5) 8 q (uW_lt 5 hb (by decide)) (uW_5 hb) (by omega) (nI ((w 5 q) - (wPrice w t))) (uPW M b w)) (va_cwS 3 S.2.2.2.2 gX10_sell_X5_put rfl rfl rfl (by decide +kernel) ⟨Nat.le_of_ble_eq_true rfl, Nat.le_of_ble_eq_true rfl⟩) rfl hl.1 rfl (Nat.le_of_ble_eq_true rfl) dX10_sell_65 ⟨Nat.zero_le _, Nat.zero_le _⟩ (fun H locs Z => ?_)
        have Z := uZ_eq (uPW_s M b w q ((w 5 q) - (wPrice w t)) (j := 5) (by decide)) Z
        refine lv_aload_n S.1 S.2.1 dX10_sell_68 rfl (lv_at hl 2 rfl) ?_
        refine ug_r S hK Z (j := 4) (b + 5) (uW_lt 0 hb (by decide)) (uW_0 hb) rfl rfl (by decide) iX10_sell_X10 qX10_sell_24 dX10_sell_69 ?_
        refine lv_iload_n S.1 S.2.1 dX10_sell_72 rfl (lv_at hl 3 rfl) ?_
        refine lv_sipush (v := 9999) S.1 S.2.1 dX10_sell_73 (by decide) ?_
        refine lv_aload_n S.1 S.2.1 dX10_sell_76 rfl (lv_at hl 2 rfl) ?_
        refine ug_r S hK Z (j := 4) (b + 5) (uW_lt 0 hb (by decide)) (uW_0 hb) rfl rfl (by decide) iX10_sell_X10 qX10_sell_24 dX10_sell_77 ?_
        refine lv_iload_n S.1 S.2.1 dX10_sell_80 rfl (lv_at hl 3 rfl) ?_
        refine ud_Si (As := [.ref (G.2.2 (b + 5)), .int (nI k)]) (rest := [.int 9999, .int (nI k), .ref (G.2.2 (b + 5))]) S hK hA Z (c_X5_at l G (b + 5) 8 k (uW_lt 5 hb (by decide)) (uW_5 hb) (by omega) (uPW M b (wu w 5 q ((w 5 q) - (wPrice w t))))) (va_cwS 2 S.2.2.2.2 gX10_sell_X5_at rfl rfl rfl (by decide +kernel) ⟨Nat.le_of_ble_eq_true rfl, Nat.le_of_ble_eq_true rfl⟩) rfl hl.1 rfl (Nat.le_of_ble_eq_true rfl) dX10_sell_81 ⟨Nat.zero_le _, Nat.zero_le _⟩ (fun H locs Z => ?_)
        refine utop (y := (nI ((wu w 5 q ((w 5 q) - (wPrice w t))) 5 k))) (uPW_g M b (wu w 5 q ((w 5 q) - (wPrice w t))) k (j := 5) (by decide)) ?_
        refine utop (congrArg nI (wu_ne (w := w) (j := 5) (i := q) (a := 5) (c := k) (by omega))) ?_
        refine lv_iload S.1 S.2.1 dX10_sell_84 (lv_at hl 0 rfl) ?_
        refine lv_iadd S.1 S.2.1 dX10_sell_86 ?_
        refine utop (nI_add (w 5 k) (wPrice w t)) ?_
        refine va_mmin S.1 S.2.1 (S.2.2.1.trans hl.1.symm) S.2.2.2.1 (S.2.2.2.2 _ qX10_sell_97) (S.2.2.2.2 _ qX10_sell_w3) (S.2.2.2.2 _ qX10_sell_w4) (S.2.2.2.2 _ qX10_sell_w5) (Nat.le_of_ble_eq_true rfl) (Nat.le_of_ble_eq_true rfl) (Nat.zero_le _) (Nat.zero_le _) dX10_sell_87 ?_
        refine utop (u_mmin (a := 9999) (b := ((w 5 k) + (wPrice w t))) (by omega) (by omega)) ?_
        refine ud_Sv (As := [.ref (G.2.2 (b + 5)), .int (nI k), .int (nI (min 9999 ((w 5 k) + (wPrice w t))))]) (rest := []) S hK hA Z (c_X5_put l G (b + 5) 8 k (uW_lt 5 hb (by decide)) (uW_5 hb) (by omega) (nI (min 9999 ((w 5 k) + (wPrice w t)))) (uPW M b (wu w 5 q ((w 5 q) - (wPrice w t))))) (va_cwS 3 S.2.2.2.2 gX10_sell_X5_put rfl rfl rfl (by decide +kernel) ⟨Nat.le_of_ble_eq_true rfl, Nat.le_of_ble_eq_true rfl⟩) rfl hl.1 rfl (Nat.le_of_ble_eq_true rfl) dX10_sell_90 ⟨Nat.zero_le _, Nat.zero_le _⟩ (fun H locs Z => ?_)
        have Z := uZ_eq (uPW_s M b (wu w 5 q ((w 5 q) - (wPrice w t))) k (min 9999 ((w 5 k) + (wPrice w t))) (j := 5) (by decide)) Z
        refine lv_aload_n S.1 S.2.1 dX10_sell_93 rfl (lv_at hl 2 rfl) ?_
        refine lv_iload_n S.1 S.2.1 dX10_sell_94 rfl (lv_at hl 4 rfl) ?_
        refine lv_iload_n S.1 S.2.1 dX10_sell_95 rfl (lv_at hl 5 rfl) ?_
        refine ud_Vv (As := [.int (nI t), .int (nI q)]) (rest := []) S hK hA Z (c_X10_hand l G b hb M (wu (wu w 5 q ((w 5 q) - (wPrice w t))) 5 k (min 9999 ((w 5 k) + (wPrice w t)))) t q (by omega) (by omega)) (cwV 2 S.2.2.2.2 gX10_sell_X10_hand rfl rfl rfl (by decide +kernel) ⟨Nat.le_of_ble_eq_true rfl, Nat.le_of_ble_eq_true rfl⟩) (uW_lt 0 hb (by decide)) (uW_0 hb) rfl rfl hl.1 rfl (Nat.le_of_ble_eq_true rfl) dX10_sell_96 ⟨Nat.zero_le _, Nat.zero_le _⟩ (fun H locs Z => ?_)
        refine lv_iconst (v := 0) S.1 S.2.1 dX10_sell_99 (by decide) ?_
        refine uret_i S hK Z hre hlk dX10_sell_100 ?_
        unfold acSell
        rw [if_pos a0, if_neg (by omega), if_neg (by omega)]
        exact ⟨rfl, rfl⟩
      · skip
        have c_7 : ¬ (wPrice w t) ≤ (w 5 q) := fun z9 => c_7 ((nI_leI (a := (wPrice w t)) (b := (w 5 q)) (by omega) (by omega)).mpr z9)
        refine lv_iconst (v := 5) S.1 S.2.1 dX10_sell_47 (by decide) ?_
        refine uret_i S hK Z hre hlk dX10_sell_48 ?_
        unfold acSell
        rw [if_pos a0, if_neg (by omega), if_pos (by omega)]
        exact ⟨rfl, rfl⟩
    · skip
      rw [hM_3] at Z
      refine lv_if_ne (tgt := 27) S.1 S.2.1 dX10_sell_22 (by decide) (fun c => absurd c (by decide)) (fun _ => ?_)
      refine lv_iconst (v := 4) S.1 S.2.1 dX10_sell_25 (by decide) ?_
      refine uret_i S hK Z hre hlk dX10_sell_26 ?_
      unfold acSell
      rw [if_pos a0, if_pos (by omega)]
      exact ⟨rfl, rfl⟩
  · skip
    have c_2 : ¬ (acWhy w k t q) = 0 := fun z9 => c_2 ((nI_eq (a := (acWhy w k t q)) (b := 0) (by omega) (by omega)).mpr z9)
    refine lv_iload S.1 S.2.1 dX10_sell_14 (lv_at hl 0 rfl) ?_
    refine uret_i S hK Z hre hlk dX10_sell_16 ?_
    unfold acSell
    rw [if_neg (by assumption)]
    exact ⟨rfl, rfl⟩
set_option maxHeartbeats 4000000 in
set_option maxRecDepth 100000 in
theorem c_X10_take (l : Launch) (G : uG) (b : Nat) (hb : uIsW b) (M : uM) (w : Nat → Nat → Nat) (k t : Nat) (hk : k < 8) (ht : t < 12) (hw : wOk w) : CTi l G yX10_take wsX10_take 2 43 [.ref (G.2.2 b), .int (nI k), .int (nI t)] (uPW M b w) (fun r M2 => r = nI (acTake w k t).1 ∧ M2 = uPW M b (acTake w k t).2) := by
  obtain ⟨h1, h2, h3, -, -⟩ := hw.1 t ht
  have h6 := (hw.2.1 (w 1 t) h1).2.1
  have h7 := hw.2.2.1
  refine ustart_i (cc := cX10_take) (maxL := 4) (ret := (some .int)) (own := RX10) rfl (by decide) rfl (Nat.le_of_ble_eq_true rfl) ?_
  intro xp xe xs xm xa xb xt xc xA ls S hK hA Z hre hlk hl
  have hl : lv_has ls 4 [(0, .ref (G.2.2 b)), (1, .int (nI k)), (2, .int (nI t))] := hl
  refine lv_aload_n S.1 S.2.1 dX10_take_0 rfl (lv_at hl 0 rfl) ?_
  refine ug_r S hK Z (j := 0) (b + 1) (uW_lt 0 hb (by decide)) (uW_0 hb) rfl rfl (by decide) iX10_take_X10 qX10_take_9 dX10_take_1 ?_
  refine lv_iload_n S.1 S.2.1 dX10_take_4 rfl (lv_at hl 2 rfl) ?_
  refine ud_Si (As := [.ref (G.2.2 (b + 1)), .int (nI t)]) (rest := []) S hK hA Z (c_X5_at l G (b + 1) 12 t (uW_lt 1 hb (by decide)) (uW_1 hb) (by omega) (uPW M b w)) (va_cwS 2 S.2.2.2.2 gX10_take_X5_at rfl rfl rfl (by decide +kernel) ⟨Nat.le_of_ble_eq_true rfl, Nat.le_of_ble_eq_true rfl⟩) rfl hl.1 rfl (Nat.le_of_ble_eq_true rfl) dX10_take_5 ⟨Nat.zero_le _, Nat.zero_le _⟩ (fun H locs Z => ?_)
  refine utop (y := (nI (w 1 t))) (uPW_g M b w t (j := 1) (by decide)) ?_
  refine lv_istore_n (lv' := [(3, .int (nI (w 1 t))), (0, .ref (G.2.2 b)), (1, .int (nI k)), (2, .int (nI t))]) S.1 S.2.1 dX10_take_8 rfl hl (by decide) rfl (fun ls hl => ?_)
  refine lv_iload_n S.1 S.2.1 dX10_take_9 rfl (lv_at hl 0 rfl) ?_
  refine lv_iload_n S.1 S.2.1 dX10_take_10 rfl (lv_at hl 2 rfl) ?_
  refine lv_icmp_ne (tgt := 16) S.1 S.2.1 dX10_take_11 (by decide) (fun c_2 => ?_) (fun c_2 => ?_)
  · skip
    have c_2 : ¬ (w 1 t) = k := fun z9 => c_2 ((nI_eq (a := (w 1 t)) (b := k) (by omega) (by omega)).mpr z9)
    have a0 := c_2
    refine lv_aload_n S.1 S.2.1 dX10_take_16 rfl (lv_at hl 1 rfl) ?_
    refine lv_iload_n S.1 S.2.1 dX10_take_17 rfl (lv_at hl 0 rfl) ?_
    refine uc_Vi (As := [.int (nI (w 1 t))]) (rest := []) S hK hA Z (c_X10_isAjar l G b hb M w (w 1 t) (by omega) (by omega)) (cwV 1 S.2.2.2.2 gX10_take_X10_isAjar rfl rfl rfl (by decide +kernel) ⟨Nat.le_of_ble_eq_true rfl, Nat.le_of_ble_eq_true rfl⟩) (uW_lt 0 hb (by decide)) (uW_0 hb) rfl rfl hl.1 rfl (Nat.le_of_ble_eq_true rfl) dX10_take_18 ⟨Nat.zero_le _, Nat.zero_le _⟩ (fun r_3 M_3 H locs hp Z => ?_)
    obtain ⟨⟨rfl, w_3⟩ | ⟨rfl, w_3⟩, hM_3⟩ := hp
    · skip
      rw [hM_3] at Z
      refine lv_if_ne (tgt := 26) S.1 S.2.1 dX10_take_21 (by decide) (fun _ => ?_) (fun c => absurd c (by decide))
      refine lv_aload_n S.1 S.2.1 dX10_take_26 rfl (lv_at hl 1 rfl) ?_
      refine lv_iload_n S.1 S.2.1 dX10_take_27 rfl (lv_at hl 0 rfl) ?_
      refine lv_iload_n S.1 S.2.1 dX10_take_28 rfl (lv_at hl 2 rfl) ?_
      refine uc_Vi (As := [.int (nI (w 1 t)), .int (nI k)]) (rest := []) S hK hA Z (c_X10_areBrothers l G b hb M w (w 1 t) k (by omega) (by omega) (by omega)) (cwV 2 S.2.2.2.2 gX10_take_X10_areBrothers rfl rfl rfl (by decide +kernel) ⟨Nat.le_of_ble_eq_true rfl, Nat.le_of_ble_eq_true rfl⟩) (uW_lt 0 hb (by decide)) (uW_0 hb) rfl rfl hl.1 rfl (Nat.le_of_ble_eq_true rfl) dX10_take_29 ⟨Nat.zero_le _, Nat.zero_le _⟩ (fun r_5 M_5 H locs hp Z => ?_)
      obtain ⟨⟨rfl, w_5⟩ | ⟨rfl, w_5⟩, hM_5⟩ := hp
      · skip
        rw [hM_5] at Z
        refine lv_if_ne (tgt := 58) S.1 S.2.1 dX10_take_32 (by decide) (fun _ => ?_) (fun c => absurd c (by decide))
        refine lv_aload_n S.1 S.2.1 dX10_take_58 rfl (lv_at hl 1 rfl) ?_
        refine ug_r S hK Z (j := 0) (b + 1) (uW_lt 0 hb (by decide)) (uW_0 hb) rfl rfl (by decide) iX10_take_X10 qX10_take_9 dX10_take_59 ?_
        refine lv_iload_n S.1 S.2.1 dX10_take_62 rfl (lv_at hl 3 rfl) ?_
        refine lv_iload_n S.1 S.2.1 dX10_take_63 rfl (lv_at hl 2 rfl) ?_
        refine ud_Sv (As := [.ref (G.2.2 (b + 1)), .int (nI t), .int (nI k)]) (rest := []) S hK hA Z (c_X5_put l G (b + 1) 12 t (uW_lt 1 hb (by decide)) (uW_1 hb) (by omega) (nI k) (uPW M b w)) (va_cwS 3 S.2.2.2.2 gX10_take_X5_put rfl rfl rfl (by decide +kernel) ⟨Nat.le_of_ble_eq_true rfl, Nat.le_of_ble_eq_true rfl⟩) rfl hl.1 rfl (Nat.le_of_ble_eq_true rfl) dX10_take_64 ⟨Nat.zero_le _, Nat.zero_le _⟩ (fun H locs Z => ?_)
        have Z := uZ_eq (uPW_s M b w t k (j := 1) (by decide)) Z
        refine lv_iconst (v := 0) S.1 S.2.1 dX10_take_67 (by decide) ?_
        refine uret_i S hK Z hre hlk dX10_take_68 ?_
        unfold acTake
        rw [if_neg a0, if_pos (by assumption), if_pos (by assumption)]
        exact ⟨rfl, rfl⟩
      · skip
        rw [hM_5] at Z
        refine lv_if_ne (tgt := 58) S.1 S.2.1 dX10_take_32 (by decide) (fun c => absurd c (by decide)) (fun _ => ?_)
        refine lv_aload_n S.1 S.2.1 dX10_take_35 rfl (lv_at hl 1 rfl) ?_
        refine ug_r S hK Z (j := 1) (b + 2) (uW_lt 0 hb (by decide)) (uW_0 hb) rfl rfl (by decide) iX10_take_X10 qX10_take_15 dX10_take_36 ?_
        refine lv_iload_n S.1 S.2.1 dX10_take_39 rfl (lv_at hl 3 rfl) ?_
        refine lv_bipush (v := 9) S.1 S.2.1 dX10_take_40 (by decide) ?_
        refine lv_aload_n S.1 S.2.1 dX10_take_42 rfl (lv_at hl 1 rfl) ?_
        refine ug_r S hK Z (j := 1) (b + 2) (uW_lt 0 hb (by decide)) (uW_0 hb) rfl rfl (by decide) iX10_take_X10 qX10_take_15 dX10_take_43 ?_
        refine lv_iload_n S.1 S.2.1 dX10_take_46 rfl (lv_at hl 3 rfl) ?_
        refine ud_Si (As := [.ref (G.2.2 (b + 2)), .int (nI t)]) (rest := [.int 9, .int (nI t), .ref (G.2.2 (b + 2))]) S hK hA Z (c_X5_at l G (b + 2) 12 t (uW_lt 2 hb (by decide)) (uW_2 hb) (by omega) (uPW M b w)) (va_cwS 2 S.2.2.2.2 gX10_take_X5_at rfl rfl rfl (by decide +kernel) ⟨Nat.le_of_ble_eq_true rfl, Nat.le_of_ble_eq_true rfl⟩) rfl hl.1 rfl (Nat.le_of_ble_eq_true rfl) dX10_take_47 ⟨Nat.zero_le _, Nat.zero_le _⟩ (fun H locs Z => ?_)
        refine utop (y := (nI (w 2 t))) (uPW_g M b w t (j := 2) (by decide)) ?_
        refine lv_iconst (v := 1) S.1 S.2.1 dX10_take_50 (by decide) ?_
        refine lv_iadd S.1 S.2.1 dX10_take_51 ?_
        refine utop (nI_add (w 2 t) 1) ?_
        refine va_mmin S.1 S.2.1 (S.2.2.1.trans hl.1.symm) S.2.2.2.1 (S.2.2.2.2 _ qX10_take_97) (S.2.2.2.2 _ qX10_take_w4) (S.2.2.2.2 _ qX10_take_w5) (S.2.2.2.2 _ qX10_take_w6) (Nat.le_of_ble_eq_true rfl) (Nat.le_of_ble_eq_true rfl) (Nat.zero_le _) (Nat.zero_le _) dX10_take_52 ?_
        refine utop (u_mmin (a := 9) (b := ((w 2 t) + 1)) (by omega) (by omega)) ?_
        refine ud_Sv (As := [.ref (G.2.2 (b + 2)), .int (nI t), .int (nI (min 9 ((w 2 t) + 1)))]) (rest := []) S hK hA Z (c_X5_put l G (b + 2) 12 t (uW_lt 2 hb (by decide)) (uW_2 hb) (by omega) (nI (min 9 ((w 2 t) + 1))) (uPW M b w)) (va_cwS 3 S.2.2.2.2 gX10_take_X5_put rfl rfl rfl (by decide +kernel) ⟨Nat.le_of_ble_eq_true rfl, Nat.le_of_ble_eq_true rfl⟩) rfl hl.1 rfl (Nat.le_of_ble_eq_true rfl) dX10_take_55 ⟨Nat.zero_le _, Nat.zero_le _⟩ (fun H locs Z => ?_)
        have Z := uZ_eq (uPW_s M b w t (min 9 ((w 2 t) + 1)) (j := 2) (by decide)) Z
        refine lv_aload_n S.1 S.2.1 dX10_take_58 rfl (lv_at hl 1 rfl) ?_
        refine ug_r S hK Z (j := 0) (b + 1) (uW_lt 0 hb (by decide)) (uW_0 hb) rfl rfl (by decide) iX10_take_X10 qX10_take_9 dX10_take_59 ?_
        refine lv_iload_n S.1 S.2.1 dX10_take_62 rfl (lv_at hl 3 rfl) ?_
        refine lv_iload_n S.1 S.2.1 dX10_take_63 rfl (lv_at hl 2 rfl) ?_
        refine ud_Sv (As := [.ref (G.2.2 (b + 1)), .int (nI t), .int (nI k)]) (rest := []) S hK hA Z (c_X5_put l G (b + 1) 12 t (uW_lt 1 hb (by decide)) (uW_1 hb) (by omega) (nI k) (uPW M b (wu w 2 t (min 9 ((w 2 t) + 1))))) (va_cwS 3 S.2.2.2.2 gX10_take_X5_put rfl rfl rfl (by decide +kernel) ⟨Nat.le_of_ble_eq_true rfl, Nat.le_of_ble_eq_true rfl⟩) rfl hl.1 rfl (Nat.le_of_ble_eq_true rfl) dX10_take_64 ⟨Nat.zero_le _, Nat.zero_le _⟩ (fun H locs Z => ?_)
        have Z := uZ_eq (uPW_s M b (wu w 2 t (min 9 ((w 2 t) + 1))) t k (j := 1) (by decide)) Z
        refine lv_iconst (v := 0) S.1 S.2.1 dX10_take_67 (by decide) ?_
        refine uret_i S hK Z hre hlk dX10_take_68 ?_
        unfold acTake
        rw [if_neg a0, if_pos (by assumption), if_neg (by assumption)]
        exact ⟨rfl, rfl⟩
    · skip
      rw [hM_3] at Z
      refine lv_if_ne (tgt := 26) S.1 S.2.1 dX10_take_21 (by decide) (fun c => absurd c (by decide)) (fun _ => ?_)
      refine lv_iconst (v := 2) S.1 S.2.1 dX10_take_24 (by decide) ?_
      refine uret_i S hK Z hre hlk dX10_take_25 ?_
      unfold acTake
      rw [if_neg a0, if_neg (by assumption)]
      exact ⟨rfl, rfl⟩
  · skip
    have c_2 : (w 1 t) = k := (nI_eq (a := (w 1 t)) (b := k) (by omega) (by omega)).mp c_2
    refine lv_iconst (v := 1) S.1 S.2.1 dX10_take_14 (by decide) ?_
    refine uret_i S hK Z hre hlk dX10_take_15 ?_
    unfold acTake
    rw [if_pos (by assumption)]
    exact ⟨rfl, rfl⟩
set_option maxHeartbeats 4000000 in
set_option maxRecDepth 100000 in
theorem c_X10_passNight (l : Launch) (G : uG) (b : Nat) (hb : uIsW b) (M : uM) (w : Nat → Nat → Nat) (hw : wOk w) : CTi l G yX10_passNight wsX10_passNight 1 22 [.ref (G.2.2 b)] (uPW M b w) (fun r M2 => r = nI (acNight w).1 ∧ M2 = uPW M b (acNight w).2) := by
  have h8 := hw.2.2.2.1
  have hj : ∀ t, t < 12 → (wu (wu w 0 8 (w 0 8 + 1)) 0 7 255) 2 t ≤ 9 := fun t ht => by
    have := (hw.1 t ht).2.1
    rw [wu_row (by omega), wu_row (by omega)]
    exact this
  refine ustart_i (cc := cX10_passNight) (maxL := 2) (ret := (some .int)) (own := RX10) rfl (by decide) rfl (Nat.le_of_ble_eq_true rfl) ?_
  intro xp xe xs xm xa xb xt xc xA ls S hK hA Z hre hlk hl
  have hl : lv_has ls 2 [(0, .ref (G.2.2 b))] := hl
  refine lv_aload_n S.1 S.2.1 dX10_passNight_0 rfl (lv_at hl 0 rfl) ?_
  refine ug_i S hK Z (j := 8) (uW_lt 0 hb (by decide)) (uW_0 hb) rfl rfl (by decide) iX10_passNight_X10 qX10_passNight_41 dX10_passNight_1 ?_
  refine utop (y := (nI (w 0 8))) (uPW_g M b w 8 (j := 0) (by decide)) ?_
  refine lv_bipush (v := 99) S.1 S.2.1 dX10_passNight_4 (by decide) ?_
  refine lv_icmp_lt (tgt := 12) S.1 S.2.1 dX10_passNight_6 (by decide) (fun c_1 => ?_) (fun c_1 => ?_)
  · skip
    have c_1 : (w 0 8) < 99 := (nI_ltI (a := (w 0 8)) (b := 99) (by omega) (by omega)).mp c_1
    have a0 := c_1
    refine lv_aload_n S.1 S.2.1 dX10_passNight_12 rfl (lv_at hl 0 rfl) ?_
    refine lv_dup S.1 S.2.1 dX10_passNight_13 rfl ?_
    refine ug_i S hK Z (j := 8) (uW_lt 0 hb (by decide)) (uW_0 hb) rfl rfl (by decide) iX10_passNight_X10 qX10_passNight_41 dX10_passNight_14 ?_
    refine utop (y := (nI (w 0 8))) (uPW_g M b w 8 (j := 0) (by decide)) ?_
    refine lv_iconst (v := 1) S.1 S.2.1 dX10_passNight_17 (by decide) ?_
    refine lv_iadd S.1 S.2.1 dX10_passNight_18 ?_
    refine utop (nI_add (w 0 8) 1) ?_
    refine up_i S hK Z (j := 8) (uW_lt 0 hb (by decide)) (uW_0 hb) rfl rfl (by decide) iX10_passNight_X10 tyX10_ok nmX10 qX10_passNight_41 rfl rfl rfl dX10_passNight_19 (fun H locs Z => ?_)
    have Z := uZ_eq (uPW_s M b w 8 ((w 0 8) + 1) (j := 0) (by decide)) Z
    refine lv_aload_n S.1 S.2.1 dX10_passNight_22 rfl (lv_at hl 0 rfl) ?_
    refine lv_sipush (v := 255) S.1 S.2.1 dX10_passNight_23 (by decide) ?_
    refine up_i S hK Z (j := 7) (uW_lt 0 hb (by decide)) (uW_0 hb) rfl rfl (by decide) iX10_passNight_X10 tyX10_ok nmX10 qX10_passNight_37 rfl rfl rfl dX10_passNight_26 (fun H locs Z => ?_)
    have Z := uZ_eq (uPW_s M b (wu w 0 8 ((w 0 8) + 1)) 7 255 (j := 0) (by decide)) Z
    refine lv_iconst (v := 0) S.1 S.2.1 dX10_passNight_29 (by decide) ?_
    refine lv_istore_n (lv' := [(1, .int 0), (0, .ref (G.2.2 b))]) S.1 S.2.1 dX10_passNight_30 rfl hl (by decide) rfl (fun ls hl => ?_)
    have LP31 : ∀ (fU : Nat) (t : Nat) (w1 : Nat → Nat → Nat), (12 < t + fU) → (t ≤ 12) → (w1 = wOwn (wu (wu w 0 8 (w 0 8 + 1)) 0 7 255) t) → ∀ (H : Heap) (locs : List Loc) (ls : Array Slot), uZ G xA (uPW M b w1) xs.heap H locs → lv_has ls 2 [(1, .int (nI t)), (0, .ref (G.2.2 b))] → W xp l xe (uRm 1 22) xs xm xa xb xt xc H locs 0 0 (MQ xb (va_Qi (fun r M2 => r = nI (acNight w).1 ∧ M2 = uPW M b (acNight w).2) (fun M' t => uB G M' t) xA) xa xs 0 0 xA) (F0 xm 31 ls []) := by
      intro fU
      induction fU with
      | zero =>
        intro t w1 hfl i1 i2 H locs ls Z hl
        exfalso
        omega
      | succ fU ih31 =>
        intro t w1 hfl i1 i2 H locs ls Z hl
        have i3 : w1 2 t = (wu (wu w 0 8 (w 0 8 + 1)) 0 7 255) 2 t := by rw [i2, wOwn_g]
        have i4 : (wu (wu w 0 8 (w 0 8 + 1)) 0 7 255) 2 t = 1 → wu w1 2 t 0 = wOwn (wu (wu w 0 8 (w 0 8 + 1)) 0 7 255) (t + 1) := fun h => by
          rw [i2]
          exact wOwn_1 h
        have i5 : ¬ (wu (wu w 0 8 (w 0 8 + 1)) 0 7 255) 2 t = 1 → w1 = wOwn (wu (wu w 0 8 (w 0 8 + 1)) 0 7 255) (t + 1) := fun h => by
          rw [i2]
          exact wOwn_2 h
        refine lv_iload_n S.1 S.2.1 dX10_passNight_31 rfl (lv_at hl 0 rfl) ?_
        refine lv_bipush (v := 12) S.1 S.2.1 dX10_passNight_32 (by decide) ?_
        refine lv_icmp_ge (tgt := 64) S.1 S.2.1 dX10_passNight_34 (by decide) (fun c_2 => ?_) (fun c_2 => ?_)
        · skip
          have c_2 : 12 ≤ t := (nI_leI (a := 12) (b := t) (by omega) (by omega)).mp c_2
          refine lv_iconst (v := 0) S.1 S.2.1 dX10_passNight_64 (by decide) ?_
          refine uret_i S hK Z hre hlk dX10_passNight_65 ?_
          unfold acNight
          rw [if_pos a0, i2, show t = 12 from by omega]
          exact ⟨rfl, rfl⟩
        · skip
          have c_2 : ¬ 12 ≤ t := fun z9 => c_2 ((nI_leI (a := 12) (b := t) (by omega) (by omega)).mpr z9)
          have i6 := hj t (by omega)
          refine lv_aload_n S.1 S.2.1 dX10_passNight_37 rfl (lv_at hl 1 rfl) ?_
          refine ug_r S hK Z (j := 1) (b + 2) (uW_lt 0 hb (by decide)) (uW_0 hb) rfl rfl (by decide) iX10_passNight_X10 qX10_passNight_15 dX10_passNight_38 ?_
          refine lv_iload_n S.1 S.2.1 dX10_passNight_41 rfl (lv_at hl 0 rfl) ?_
          refine ud_Si (As := [.ref (G.2.2 (b + 2)), .int (nI t)]) (rest := []) S hK hA Z (c_X5_at l G (b + 2) 12 t (uW_lt 2 hb (by decide)) (uW_2 hb) (by omega) (uPW M b w1)) (va_cwS 2 S.2.2.2.2 gX10_passNight_X5_at rfl rfl rfl (by decide +kernel) ⟨Nat.le_of_ble_eq_true rfl, Nat.le_of_ble_eq_true rfl⟩) rfl hl.1 rfl (Nat.le_of_ble_eq_true rfl) dX10_passNight_42 ⟨Nat.zero_le _, Nat.zero_le _⟩ (fun H locs Z => ?_)
          refine utop (y := (nI (w1 2 t))) (uPW_g M b w1 t (j := 2) (by decide)) ?_
          refine lv_iconst (v := 1) S.1 S.2.1 dX10_passNight_45 (by decide) ?_
          refine lv_icmp_ne (tgt := 58) S.1 S.2.1 dX10_passNight_46 (by decide) (fun c_4 => ?_) (fun c_4 => ?_)
          · skip
            have c_4 : ¬ (w1 2 t) = 1 := fun z9 => c_4 ((nI_eq (a := (w1 2 t)) (b := 1) (by omega) (by omega)).mpr z9)
            refine lv_iinc (v := (nI (t + 1))) (lv' := [(1, .int (nI (t + 1))), (0, .ref (G.2.2 b))]) S.1 S.2.1 dX10_passNight_58 hl (k := 0) rfl (u_inc1 t) (by decide) rfl (fun ls hl => ?_)
            refine lv_goto (tgt := 31) S.1 S.2.1 dX10_passNight_61 (by decide) ?_
            exact ih31 (t + 1) w1 (by omega) (by omega) (by first | exact i4 (i3.symm.trans (by assumption)) | exact i5 (fun z => absurd (i3.trans z) (by assumption))) _ _ _ Z (lv_sub hl [0, 1] rfl)
          · skip
            have c_4 : (w1 2 t) = 1 := (nI_eq (a := (w1 2 t)) (b := 1) (by omega) (by omega)).mp c_4
            refine lv_aload_n S.1 S.2.1 dX10_passNight_49 rfl (lv_at hl 1 rfl) ?_
            refine ug_r S hK Z (j := 1) (b + 2) (uW_lt 0 hb (by decide)) (uW_0 hb) rfl rfl (by decide) iX10_passNight_X10 qX10_passNight_15 dX10_passNight_50 ?_
            refine lv_iload_n S.1 S.2.1 dX10_passNight_53 rfl (lv_at hl 0 rfl) ?_
            refine lv_iconst (v := 0) S.1 S.2.1 dX10_passNight_54 (by decide) ?_
            refine ud_Sv (As := [.ref (G.2.2 (b + 2)), .int (nI t), .int 0]) (rest := []) S hK hA Z (c_X5_put l G (b + 2) 12 t (uW_lt 2 hb (by decide)) (uW_2 hb) (by omega) 0 (uPW M b w1)) (va_cwS 3 S.2.2.2.2 gX10_passNight_X5_put rfl rfl rfl (by decide +kernel) ⟨Nat.le_of_ble_eq_true rfl, Nat.le_of_ble_eq_true rfl⟩) rfl hl.1 rfl (Nat.le_of_ble_eq_true rfl) dX10_passNight_55 ⟨Nat.zero_le _, Nat.zero_le _⟩ (fun H locs Z => ?_)
            have Z := uZ_eq (uPW_s M b w1 t 0 (j := 2) (by decide)) Z
            refine lv_iinc (v := (nI (t + 1))) (lv' := [(1, .int (nI (t + 1))), (0, .ref (G.2.2 b))]) S.1 S.2.1 dX10_passNight_58 hl (k := 0) rfl (u_inc1 t) (by decide) rfl (fun ls hl => ?_)
            refine lv_goto (tgt := 31) S.1 S.2.1 dX10_passNight_61 (by decide) ?_
            exact ih31 (t + 1) (wu w1 2 t 0) (by omega) (by omega) (by first | exact i4 (i3.symm.trans (by assumption)) | exact i5 (fun z => absurd (i3.trans z) (by assumption))) _ _ _ Z (lv_sub hl [0, 1] rfl)
    exact LP31 13 0 (wu (wu w 0 8 ((w 0 8) + 1)) 0 7 255) (by omega) (by omega) (by rw [wOwn_0]) _ _ _ Z (lv_sub hl [0, 1] rfl)
  · skip
    have c_1 : ¬ (w 0 8) < 99 := fun z9 => c_1 ((nI_ltI (a := (w 0 8)) (b := 99) (by omega) (by omega)).mpr z9)
    refine lv_bipush (v := 6) S.1 S.2.1 dX10_passNight_9 (by decide) ?_
    refine uret_i S hK Z hre hlk dX10_passNight_11 ?_
    unfold acNight
    rw [if_neg (by assumption)]
    exact ⟨rfl, rfl⟩
set_option maxHeartbeats 4000000 in
set_option maxRecDepth 100000 in
theorem c_X10_act0 (l : Launch) (G : uG) (b : Nat) (hb : uIsW b) (M : uM) (w : Nat → Nat → Nat) (k t q : Nat) (z : Int32) (hk : k < 8) (ht : t < 12) (hw : wOk w) : CTi l G yX10_act wsX10_act 3 69 [.ref (G.2.2 b), .int 0, .int (nI k), .int (nI t), .int z] (uPW M b w) (fun r M2 => r = nI (ac w 0 k t q).1 ∧ M2 = uPW M b (ac w 0 k t q).2) := by
  refine ustart_i (cc := cX10_act) (maxL := 5) (ret := (some .int)) (own := RX10) rfl (by decide) rfl (Nat.le_of_ble_eq_true rfl) ?_
  intro xp xe xs xm xa xb xt xc xA ls S hK hA Z hre hlk hl
  have hl : lv_has ls 5 [(0, .ref (G.2.2 b)), (1, .int 0), (2, .int (nI k)), (3, .int (nI t)), (4, .int z)] := hl
  refine lv_iload_n S.1 S.2.1 dX10_act_0 rfl (lv_at hl 1 rfl) ?_
  refine lv_tableIn (tgt := 32) S.1 S.2.1 dX10_act_1 (by decide) (by decide) rfl (by decide) ?_
  refine lv_aload_n S.1 S.2.1 dX10_act_32 rfl (lv_at hl 0 rfl) ?_
  refine lv_iload_n S.1 S.2.1 dX10_act_33 rfl (lv_at hl 2 rfl) ?_
  refine lv_iload_n S.1 S.2.1 dX10_act_34 rfl (lv_at hl 3 rfl) ?_
  refine ud_Vi (As := [.int (nI k), .int (nI t)]) (rest := []) S hK hA Z (c_X10_take l G b hb M w k t (by omega) (by omega) hw) (cwV 2 S.2.2.2.2 gX10_act_X10_take rfl rfl rfl (by decide +kernel) ⟨Nat.le_of_ble_eq_true rfl, Nat.le_of_ble_eq_true rfl⟩) (uW_lt 0 hb (by decide)) (uW_0 hb) rfl rfl hl.1 rfl (Nat.le_of_ble_eq_true rfl) dX10_act_35 ⟨Nat.zero_le _, Nat.zero_le _⟩ (fun H locs Z => ?_)
  refine uret_i S hK Z hre hlk dX10_act_38 ?_
  exact ⟨rfl, rfl⟩
set_option maxHeartbeats 4000000 in
set_option maxRecDepth 100000 in
theorem c_X10_act1 (l : Launch) (G : uG) (b : Nat) (hb : uIsW b) (M : uM) (w : Nat → Nat → Nat) (k t q : Nat) (hk : k < 8) (ht : t < 12) (hq : q < 8) (hw : wOk w) : CTi l G yX10_act wsX10_act 3 69 [.ref (G.2.2 b), .int 1, .int (nI k), .int (nI t), .int (nI q)] (uPW M b w) (fun r M2 => r = nI (ac w 1 k t q).1 ∧ M2 = uPW M b (ac w 1 k t q).2) := by
  refine ustart_i (cc := cX10_act) (maxL := 5) (ret := (some .int)) (own := RX10) rfl (by decide) rfl (Nat.le_of_ble_eq_true rfl) ?_
  intro xp xe xs xm xa xb xt xc xA ls S hK hA Z hre hlk hl
  have hl : lv_has ls 5 [(0, .ref (G.2.2 b)), (1, .int 1), (2, .int (nI k)), (3, .int (nI t)), (4, .int (nI q))] := hl
  refine lv_iload_n S.1 S.2.1 dX10_act_0 rfl (lv_at hl 1 rfl) ?_
  refine lv_tableIn (tgt := 39) S.1 S.2.1 dX10_act_1 (by decide) (by decide) rfl (by decide) ?_
  refine lv_aload_n S.1 S.2.1 dX10_act_39 rfl (lv_at hl 0 rfl) ?_
  refine lv_iload_n S.1 S.2.1 dX10_act_40 rfl (lv_at hl 2 rfl) ?_
  refine lv_iload_n S.1 S.2.1 dX10_act_41 rfl (lv_at hl 3 rfl) ?_
  refine lv_iload S.1 S.2.1 dX10_act_42 (lv_at hl 4 rfl) ?_
  refine ud_Vi (As := [.int (nI k), .int (nI t), .int (nI q)]) (rest := []) S hK hA Z (c_X10_sell l G b hb M w k t q (by omega) (by omega) (by omega) hw) (cwV 3 S.2.2.2.2 gX10_act_X10_sell rfl rfl rfl (by decide +kernel) ⟨Nat.le_of_ble_eq_true rfl, Nat.le_of_ble_eq_true rfl⟩) (uW_lt 0 hb (by decide)) (uW_0 hb) rfl rfl hl.1 rfl (Nat.le_of_ble_eq_true rfl) dX10_act_44 ⟨Nat.zero_le _, Nat.zero_le _⟩ (fun H locs Z => ?_)
  refine uret_i S hK Z hre hlk dX10_act_47 ?_
  exact ⟨rfl, rfl⟩
set_option maxHeartbeats 4000000 in
set_option maxRecDepth 100000 in
theorem c_X10_act2 (l : Launch) (G : uG) (b : Nat) (hb : uIsW b) (M : uM) (w : Nat → Nat → Nat) (k t q : Nat) (hk : k < 8) (ht : t < 12) (hq : q < 8) (hw : wOk w) : CTi l G yX10_act wsX10_act 3 69 [.ref (G.2.2 b), .int 2, .int (nI k), .int (nI t), .int (nI q)] (uPW M b w) (fun r M2 => r = nI (ac w 2 k t q).1 ∧ M2 = uPW M b (ac w 2 k t q).2) := by
  refine ustart_i (cc := cX10_act) (maxL := 5) (ret := (some .int)) (own := RX10) rfl (by decide) rfl (Nat.le_of_ble_eq_true rfl) ?_
  intro xp xe xs xm xa xb xt xc xA ls S hK hA Z hre hlk hl
  have hl : lv_has ls 5 [(0, .ref (G.2.2 b)), (1, .int 2), (2, .int (nI k)), (3, .int (nI t)), (4, .int (nI q))] := hl
  refine lv_iload_n S.1 S.2.1 dX10_act_0 rfl (lv_at hl 1 rfl) ?_
  refine lv_tableIn (tgt := 48) S.1 S.2.1 dX10_act_1 (by decide) (by decide) rfl (by decide) ?_
  refine lv_aload_n S.1 S.2.1 dX10_act_48 rfl (lv_at hl 0 rfl) ?_
  refine lv_iload_n S.1 S.2.1 dX10_act_49 rfl (lv_at hl 2 rfl) ?_
  refine lv_iload_n S.1 S.2.1 dX10_act_50 rfl (lv_at hl 3 rfl) ?_
  refine lv_iload S.1 S.2.1 dX10_act_51 (lv_at hl 4 rfl) ?_
  refine ud_Vi (As := [.int (nI k), .int (nI t), .int (nI q)]) (rest := []) S hK hA Z (c_X10_give l G b hb M w k t q (by omega) (by omega) (by omega) hw) (cwV 3 S.2.2.2.2 gX10_act_X10_give rfl rfl rfl (by decide +kernel) ⟨Nat.le_of_ble_eq_true rfl, Nat.le_of_ble_eq_true rfl⟩) (uW_lt 0 hb (by decide)) (uW_0 hb) rfl rfl hl.1 rfl (Nat.le_of_ble_eq_true rfl) dX10_act_53 ⟨Nat.zero_le _, Nat.zero_le _⟩ (fun H locs Z => ?_)
  refine uret_i S hK Z hre hlk dX10_act_56 ?_
  exact ⟨rfl, rfl⟩
set_option maxHeartbeats 4000000 in
set_option maxRecDepth 100000 in
theorem c_X10_act3 (l : Launch) (G : uG) (b : Nat) (hb : uIsW b) (M : uM) (w : Nat → Nat → Nat) (k t q : Nat) (y z : Int32) (hk : k < 8) (hw : wOk w) : CTi l G yX10_act wsX10_act 3 69 [.ref (G.2.2 b), .int 3, .int (nI k), .int y, .int z] (uPW M b w) (fun r M2 => r = nI (ac w 3 k t q).1 ∧ M2 = uPW M b (ac w 3 k t q).2) := by
  refine ustart_i (cc := cX10_act) (maxL := 5) (ret := (some .int)) (own := RX10) rfl (by decide) rfl (Nat.le_of_ble_eq_true rfl) ?_
  intro xp xe xs xm xa xb xt xc xA ls S hK hA Z hre hlk hl
  have hl : lv_has ls 5 [(0, .ref (G.2.2 b)), (1, .int 3), (2, .int (nI k)), (3, .int y), (4, .int z)] := hl
  refine lv_iload_n S.1 S.2.1 dX10_act_0 rfl (lv_at hl 1 rfl) ?_
  refine lv_tableIn (tgt := 57) S.1 S.2.1 dX10_act_1 (by decide) (by decide) rfl (by decide) ?_
  refine lv_aload_n S.1 S.2.1 dX10_act_57 rfl (lv_at hl 0 rfl) ?_
  refine lv_dup S.1 S.2.1 dX10_act_58 rfl ?_
  refine ug_i S hK Z (j := 7) (uW_lt 0 hb (by decide)) (uW_0 hb) rfl rfl (by decide) iX10_act_X10 qX10_act_37 dX10_act_59 ?_
  refine utop (y := (nI (w 0 7))) (uPW_g M b w 7 (j := 0) (by decide)) ?_
  refine lv_iconst (v := 1) S.1 S.2.1 dX10_act_62 (by decide) ?_
  refine lv_iload_n S.1 S.2.1 dX10_act_63 rfl (lv_at hl 2 rfl) ?_
  refine lv_ishl S.1 S.2.1 dX10_act_64 ?_
  refine utop (u_shl1 (k := k) (by omega)) ?_
  refine lv_ixor S.1 S.2.1 dX10_act_65 ?_
  refine utop (nx_xor (w 0 7) (2 ^ k)) ?_
  refine up_i S hK Z (j := 7) (uW_lt 0 hb (by decide)) (uW_0 hb) rfl rfl (by decide) iX10_act_X10 tyX10_ok nmX10 qX10_act_37 rfl rfl rfl dX10_act_66 (fun H locs Z => ?_)
  have Z := uZ_eq (uPW_s M b w 7 ((w 0 7) ^^^ (2 ^ k)) (j := 0) (by decide)) Z
  refine lv_iconst (v := 0) S.1 S.2.1 dX10_act_69 (by decide) ?_
  refine uret_i S hK Z hre hlk dX10_act_70 ?_
  exact ⟨rfl, rfl⟩
set_option maxHeartbeats 4000000 in
set_option maxRecDepth 100000 in
theorem c_X10_act4 (l : Launch) (G : uG) (b : Nat) (hb : uIsW b) (M : uM) (w : Nat → Nat → Nat) (k t q : Nat) (x y z : Int32) (hw : wOk w) : CTi l G yX10_act wsX10_act 3 69 [.ref (G.2.2 b), .int 4, .int x, .int y, .int z] (uPW M b w) (fun r M2 => r = nI (ac w 4 k t q).1 ∧ M2 = uPW M b (ac w 4 k t q).2) := by
  refine ustart_i (cc := cX10_act) (maxL := 5) (ret := (some .int)) (own := RX10) rfl (by decide) rfl (Nat.le_of_ble_eq_true rfl) ?_
  intro xp xe xs xm xa xb xt xc xA ls S hK hA Z hre hlk hl
  have hl : lv_has ls 5 [(0, .ref (G.2.2 b)), (1, .int 4), (2, .int x), (3, .int y), (4, .int z)] := hl
  refine lv_iload_n S.1 S.2.1 dX10_act_0 rfl (lv_at hl 1 rfl) ?_
  refine lv_tableOut (tgt := 71) S.1 S.2.1 dX10_act_1 (by decide) (by decide) ?_
  refine lv_aload_n S.1 S.2.1 dX10_act_71 rfl (lv_at hl 0 rfl) ?_
  refine ud_Vi (As := []) (rest := []) S hK hA Z (c_X10_passNight l G b hb M w hw) (cwV 0 S.2.2.2.2 gX10_act_X10_passNight rfl rfl rfl (by decide +kernel) ⟨Nat.le_of_ble_eq_true rfl, Nat.le_of_ble_eq_true rfl⟩) (uW_lt 0 hb (by decide)) (uW_0 hb) rfl rfl hl.1 rfl (Nat.le_of_ble_eq_true rfl) dX10_act_72 ⟨Nat.zero_le _, Nat.zero_le _⟩ (fun H locs Z => ?_)
  refine uret_i S hK Z hre hlk dX10_act_75 ?_
  exact ⟨rfl, rfl⟩
