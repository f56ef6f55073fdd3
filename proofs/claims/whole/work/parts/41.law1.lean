/-! between two calls of the law: world, pad, how many signs, which images are kept, the images -/
abbrev sT : Type := (Nat → Nat → Nat) × (Nat → Nat) × Nat × Nat × (Nat → Nat → Nat) × (Nat → Nat → Nat)
def cI (M : uM) (z : sT) : Prop := uRd M 1 z.1 ∧ pdAt M z.2.1 z.2.2.1 ∧ wAt M 11 ∧ wAt M 24 ∧ shAt M ∧ shLn M ∧ M.1 0 12 = nI z.2.2.2.1 ∧ uRd M 51 z.2.2.2.2.1 ∧ uRd M 61 z.2.2.2.2.2
def kI (M : uM) (kp : Nat) (v0 v1 : Nat → Nat → Nat) : Prop := ∃ K : Nat → Nat, (∀ i, M.1 94 i = nI (K i)) ∧ ((M.1 95 0 = 0 ∧ kp / 2 ^ 0 % 2 = 0) ∨ (M.1 95 0 = 1 ∧ ¬ kp / 2 ^ 0 % 2 = 0 ∧ kpW K 0 v0)) ∧ ((M.1 95 1 = 0 ∧ kp / 2 ^ 1 % 2 = 0) ∨ (M.1 95 1 = 1 ∧ ¬ kp / 2 ^ 1 % 2 = 0 ∧ kpW K 90 v1))
def rI (M : uM) (z : sT) : Prop := uMd M z.1 ∧ (∀ i, M.1 80 i = nI (z.2.1 i)) ∧ M.1 71 12 = nI z.2.2.1 ∧ kI M z.2.2.2.1 z.2.2.2.2.1 z.2.2.2.2.2
def oI (z : sT) : Prop := wOk z.1 ∧ pdOk z.2.1 z.2.2.1 ∧ z.2.2.2.1 < 4 ∧ wOk z.2.2.2.2.1 ∧ wOk z.2.2.2.2.2
def hiS (M M2 : uM) : Prop := ∀ a, 71 ≤ a → M2.1 a = M.1 a
def loS (M M2 : uM) : Prop := ∀ a, a < 71 → M2.1 a = M.1 a
theorem uRd_sm {M M2 : uM} {b : Nat} {v : Nat → Nat → Nat} (h : ∀ a, b ≤ a → a < b + 10 → M2.1 a = M.1 a) (hr : uRd M b v) : uRd M2 b v := fun j hj i => by
  rw [h (b + j) (by omega) (by omega)]
  exact hr j hj i
theorem wAt_sm {M M2 : uM} {b : Nat} (h : ∀ a, b ≤ a → a < b + 10 → M2.1 a = M.1 a) (hw : wAt M b) : wAt M2 b := by
  obtain ⟨v, h1, h2⟩ := hw
  exact ⟨v, uRd_sm h h1, h2⟩
theorem pdAt_sm {M M2 : uM} {s : Nat → Nat} {n : Nat} (h22 : M2.1 22 = M.1 22) (h21 : M2.1 21 = M.1 21) (hp : pdAt M s n) : pdAt M2 s n := ⟨fun i => by
  rw [h22]
  exact hp.1 i, by
  rw [h21]
  exact hp.2⟩
theorem shAt_sm {M M2 : uM} (h : ∀ a, 46 ≤ a → a < 49 → M2.1 a = M.1 a) (hs : shAt M) : shAt M2 := by
  unfold shAt at *
  rw [h 46 (by decide) (by decide), h 47 (by decide) (by decide)]
  exact hs
theorem shLn_sm {M M2 : uM} (h : ∀ a, 46 ≤ a → a < 49 → M2.1 a = M.1 a) (hs : shLn M) : shLn M2 := by
  unfold shLn at *
  rw [h 48 (by decide) (by decide)]
  exact hs
theorem cI_mk {M M2 : uM} {z : sT} (hc : cI M z) (h : ∀ a, (a ≤ 10 ∨ a = 21 ∨ a = 22 ∨ (51 ≤ a ∧ a ≤ 70)) → M2.1 a = M.1 a) (h11 : wAt M2 11) (h24 : wAt M2 24) (hs : shAt M2) (hl : shLn M2) : cI M2 z := by
  obtain ⟨c1, c2, c3, c4, c5, c6, c7, c8, c9⟩ := hc
  refine ⟨uRd_sm (fun a h1 h2 => h a (by omega)) c1, pdAt_sm (h 22 (by omega)) (h 21 (by omega)) c2, h11, h24, hs, hl, ?_, uRd_sm (fun a h1 h2 => h a (by omega)) c8, uRd_sm (fun a h1 h2 => h a (by omega)) c9⟩
  rw [h 0 (by omega)]
  exact c7
theorem cI_lo {M M2 : uM} {z : sT} (h : loS M M2) (hc : cI M z) : cI M2 z := cI_mk hc (fun a ha => h a (by omega)) (wAt_sm (fun a h1 h2 => h a (by omega)) hc.2.2.1) (wAt_sm (fun a h1 h2 => h a (by omega)) hc.2.2.2.1) (shAt_sm (fun a h1 h2 => h a (by omega)) hc.2.2.2.2.1) (shLn_sm (fun a h1 h2 => h a (by omega)) hc.2.2.2.2.2.1)
theorem cI_sc {M M2 : uM} {z : sT} {lo hi : Nat} (h : uSm lo hi M M2) (h1 : 34 ≤ lo) (h2 : hi ≤ 46) (hc : cI M z) : cI M2 z := cI_mk hc (fun a ha => h a (by omega)) (wAt_sm (fun a h1 h2 => h a (by omega)) hc.2.2.1) (wAt_sm (fun a h1 h2 => h a (by omega)) hc.2.2.2.1) (shAt_sm (fun a h1 h2 => h a (by omega)) hc.2.2.2.2.1) (shLn_sm (fun a h1 h2 => h a (by omega)) hc.2.2.2.2.2.1)
theorem cI_tr {M M2 : uM} {z : sT} (h : uSm 23 34 M M2) (h24 : wAt M2 24) (hc : cI M z) : cI M2 z := cI_mk hc (fun a ha => h a (by omega)) (wAt_sm (fun a h1 h2 => h a (by omega)) hc.2.2.1) h24 (shAt_sm (fun a h1 h2 => h a (by omega)) hc.2.2.2.2.1) (shLn_sm (fun a h1 h2 => h a (by omega)) hc.2.2.2.2.2.1)
theorem cI_sh {M M2 : uM} {z : sT} (h : uSm 46 49 M M2) (hs : shAt M2) (hl : shLn M2) (hc : cI M z) : cI M2 z := cI_mk hc (fun a ha => h a (by omega)) (wAt_sm (fun a h1 h2 => h a (by omega)) hc.2.2.1) (wAt_sm (fun a h1 h2 => h a (by omega)) hc.2.2.2.1) hs hl
theorem PW_out (M : uM) (b : Nat) (w : Nat → Nat → Nat) {a : Nat} (h : a < b ∨ b + 10 ≤ a) : (uPW M b w).1 a = M.1 a := funext fun i => uPW_o M b w i h
theorem cI_w {M : uM} {z : sT} (w : Nat → Nat → Nat) (hc : cI M z) : cI (uPW M 1 w) (w, z.2) := by
  obtain ⟨c1, c2, c3, c4, c5, c6, c7, c8, c9⟩ := hc
  refine ⟨uPW_rd _ _ _, pdAt_sm (PW_out _ _ _ (by omega)) (PW_out _ _ _ (by omega)) c2, wAt_sm (fun a h1 h2 => PW_out _ _ _ (by omega)) c3, wAt_sm (fun a h1 h2 => PW_out _ _ _ (by omega)) c4, shAt_sm (fun a h1 h2 => PW_out _ _ _ (by omega)) c5, shLn_sm (fun a h1 h2 => PW_out _ _ _ (by omega)) c6, ?_, uRd_sm (fun a h1 h2 => PW_out _ _ _ (by omega)) c8, uRd_sm (fun a h1 h2 => PW_out _ _ _ (by omega)) c9⟩
  rw [PW_out _ _ _ (by omega)]
  exact c7
theorem hi_PW (M : uM) {b : Nat} (w : Nat → Nat → Nat) (h : b + 10 ≤ 71) : hiS M (uPW M b w) := fun a ha => PW_out _ _ _ (by omega)
theorem hi_sm {M M2 : uM} {lo hi : Nat} (h : uSm lo hi M M2) (h2 : hi ≤ 71) : hiS M M2 := fun a ha => h a (by omega)
/-! the reference's side -/
theorem uMd_in {M M2 : uM} {w : Nat → Nat → Nat} (h : uMd M w) (hs : ∀ a i, ¬ mO a i → M2.1 a i = M.1 a i) : uMd M2 w := uM_ext (fun a i => by
  by_cases q : mO a i
  · exact uPM_o _ _ q
  · rw [uPM_in M M2 w q]
    have e : (uPM M w).1 a i = M.1 a i := congrArg (fun X : uM => X.1 a i) h
    rw [e]
    exact (hs a i q).symm) rfl
theorem kI_sm {M M2 : uM} {kp : Nat} {v0 v1 : Nat → Nat → Nat} (h94 : M2.1 94 = M.1 94) (h95 : M2.1 95 = M.1 95) (hk : kI M kp v0 v1) : kI M2 kp v0 v1 := by
  unfold kI at *
  rw [h94, h95]
  exact hk
theorem rI_hi {M M2 : uM} {z : sT} (h : hiS M M2) (hr : rI M z) : rI M2 z := by
  obtain ⟨r1, r2, r3, r4⟩ := hr
  refine ⟨uMd_in r1 (fun a i q => ?_), fun i => ?_, ?_, kI_sm (h 94 (by decide)) (h 95 (by decide)) r4⟩
  · unfold mO at q
    rw [h a (by omega)]
  · rw [h 80 (by decide)]
    exact r2 i
  · rw [h 71 (by decide)]
    exact r3
theorem rI_mS {M M2 : uM} {z : sT} (h : mSm M M2) (hr : rI M z) : rI M2 z := by
  obtain ⟨r1, r2, r3, r4⟩ := hr
  refine ⟨uMd_sm r1 h, fun i => ?_, ?_, kI_sm (funext fun i => h 94 i (by unfold mK; omega)) (funext fun i => h 95 i (by unfold mK; omega)) r4⟩
  · rw [h 80 i (by unfold mK; omega)]
    exact r2 i
  · rw [h 71 12 (by unfold mK; omega)]
    exact r3
theorem lo_mS {M M2 : uM} (h : mSm M M2) : loS M M2 := fun a ha => funext fun i => h a i (Or.inl ha)
theorem PM_out (M : uM) (w : Nat → Nat → Nat) {a : Nat} (h : a < 71 ∨ 80 ≤ a) : (uPM M w).1 a = M.1 a := funext fun i => uPM_o M w (by unfold mO; omega)
theorem rI_w {M : uM} {z : sT} (w : Nat → Nat → Nat) (hr : rI M z) : rI (uPM M w) (w, z.2) := by
  obtain ⟨r1, r2, r3, r4⟩ := hr
  refine ⟨uPM_md _ _, fun i => ?_, ?_, kI_sm (PM_out _ _ (by decide)) (PM_out _ _ (by decide)) r4⟩
  · rw [PM_out _ _ (by decide)]
    exact r2 i
  · rw [uPM_o _ _ (by unfold mO; omega)]
    exact r3
theorem lo_PM (M : uM) (w : Nat → Nat → Nat) : loS M (uPM M w) := fun a ha => PM_out _ _ (Or.inl ha)
/-! worlds stay as they can be, under what is said of them -/
theorem wOk_3 {w : Nat → Nat → Nat} {t v : Nat} (hw : wOk w) (ht : t < 12) (hv : v ≤ 99) : wOk (wu w 3 t v) := by
  obtain ⟨a, b, c, d, e, f, g⟩ := hw
  refine ⟨fun t' ht' => ?_, fun k hk => ?_, ?_, ?_, ?_, fun k q hk hq => ?_, fun j i hn => ?_⟩
  · obtain ⟨a1, a2, a3, a4, a5⟩ := a t' ht'
    rw [wu_row (a := 1) (by omega), wu_row (a := 2) (by omega), wu_row (a := 4) (by omega)]
    refine ⟨a1, a2, ?_, a4, a5⟩
    unfold wu
    split <;> omega
  · rw [wu_row (a := 5) (by omega), wu_row (a := 6) (by omega), wu_row (a := 8) (by omega), wu_row (a := 9) (by omega)]
    exact b k hk
  · rw [wu_row (a := 0) (by omega)]; exact c
  · rw [wu_row (a := 0) (by omega)]; exact d
  · rw [wu_row (a := 7) (by omega)]; exact e
  · rw [wu_row (a := 6) (by omega), wu_row (a := 6) (by omega)]; exact f k q hk hq
  · rw [wu_ne (fun z => hn (by unfold wIn; omega))]; exact g j i hn
theorem wOk_4 {w : Nat → Nat → Nat} {t v : Nat} (hw : wOk w) (ht : t < 12) (h1 : 1 ≤ v) (hv : v ≤ 9) : wOk (wu w 4 t v) := by
  obtain ⟨a, b, c, d, e, f, g⟩ := hw
  refine ⟨fun t' ht' => ?_, fun k hk => ?_, ?_, ?_, ?_, fun k q hk hq => ?_, fun j i hn => ?_⟩
  · obtain ⟨a1, a2, a3, a4, a5⟩ := a t' ht'
    rw [wu_row (a := 1) (by omega), wu_row (a := 2) (by omega), wu_row (a := 3) (by omega)]
    refine ⟨a1, a2, a3, ?_, ?_⟩
    · unfold wu
      split <;> omega
    · unfold wu
      split <;> omega
  · rw [wu_row (a := 5) (by omega), wu_row (a := 6) (by omega), wu_row (a := 8) (by omega), wu_row (a := 9) (by omega)]
    exact b k hk
  · rw [wu_row (a := 0) (by omega)]; exact c
  · rw [wu_row (a := 0) (by omega)]; exact d
  · rw [wu_row (a := 7) (by omega)]; exact e
  · rw [wu_row (a := 6) (by omega), wu_row (a := 6) (by omega)]; exact f k q hk hq
  · rw [wu_ne (fun z => hn (by unfold wIn; omega))]; exact g j i hn
theorem wOk_89 {w : Nat → Nat → Nat} {j t v : Nat} (hw : wOk w) (hj : j = 8 ∨ j = 9) (ht : t < 8) (hv : v < 5) : wOk (wu w j t v) := by
  obtain ⟨a, b, c, d, e, f, g⟩ := hw
  refine ⟨fun t' ht' => ?_, fun k hk => ?_, ?_, ?_, ?_, fun k q hk hq => ?_, fun j' i hn => ?_⟩
  · rw [wu_row (a := 1) (by omega), wu_row (a := 2) (by omega), wu_row (a := 3) (by omega), wu_row (a := 4) (by omega)]
    exact a t' ht'
  · obtain ⟨b1, b2, b3, b4⟩ := b k hk
    rw [wu_row (a := 5) (by omega), wu_row (a := 6) (by omega)]
    refine ⟨b1, b2, ?_, ?_⟩
    · unfold wu
      split <;> omega
    · unfold wu
      split <;> omega
  · rw [wu_row (a := 0) (by omega)]; exact c
  · rw [wu_row (a := 0) (by omega)]; exact d
  · rw [wu_row (a := 7) (by omega)]; exact e
  · rw [wu_row (a := 6) (by omega), wu_row (a := 6) (by omega)]; exact f k q hk hq
  · rw [wu_ne (fun z => hn (by unfold wIn; omega))]; exact g j' i hn
theorem wOk_72 {w : Nat → Nat → Nat} {v : Nat} (hw : wOk w) (hv : v ≤ 8) : wOk (wu w 7 2 v) := by
  obtain ⟨a, b, c, d, e, f, g⟩ := hw
  refine ⟨fun t' ht' => ?_, fun k hk => ?_, ?_, ?_, ?_, fun k q hk hq => ?_, fun j' i hn => ?_⟩
  · rw [wu_row (a := 1) (by omega), wu_row (a := 2) (by omega), wu_row (a := 3) (by omega), wu_row (a := 4) (by omega)]
    exact a t' ht'
  · rw [wu_row (a := 5) (by omega), wu_row (a := 6) (by omega), wu_row (a := 8) (by omega), wu_row (a := 9) (by omega)]
    exact b k hk
  · rw [wu_row (a := 0) (by omega)]; exact c
  · rw [wu_row (a := 0) (by omega)]; exact d
  · rw [wu_eq]; exact hv
  · rw [wu_row (a := 6) (by omega), wu_row (a := 6) (by omega)]; exact f k q hk hq
  · rw [wu_ne (fun z => hn (by unfold wIn; omega))]; exact g j' i hn
theorem or_bit {a k q : Nat} : (a ||| 2 ^ k) / 2 ^ q % 2 = if k = q then 1 else a / 2 ^ q % 2 := by
  have h1 := Nat.testBit_eq_decide_div_mod_eq (x := a ||| 2 ^ k) (i := q)
  have h2 := Nat.testBit_eq_decide_div_mod_eq (x := a) (i := q)
  rw [Nat.testBit_or, Nat.testBit_two_pow, h2] at h1
  by_cases h : k = q
  · rw [if_pos h]
    rw [decide_eq_true h, Bool.or_true] at h1
    exact of_decide_eq_true h1.symm
  · rw [if_neg h]
    rw [decide_eq_false h, Bool.or_false] at h1
    by_cases e : a / 2 ^ q % 2 = 1
    · rw [decide_eq_true e] at h1
      rw [e]
      exact of_decide_eq_true h1.symm
    · rw [decide_eq_false e] at h1
      have h3 := of_decide_eq_false h1.symm
      have h4 := Nat.mod_lt (a / 2 ^ q) (show 0 < 2 by decide)
      have h5 := Nat.mod_lt ((a ||| 2 ^ k) / 2 ^ q) (show 0 < 2 by decide)
      omega
theorem clr_b0 : ∀ a, a < 256 → ∀ k, k < 8 → ∀ q, q < 8 → (uClr a k / 2 ^ q % 2 == if k = q then 0 else a / 2 ^ q % 2) = true := by decide +kernel
theorem clr_bit {a k q : Nat} (ha : a < 256) (hk : k < 8) (hq : q < 8) : uClr a k / 2 ^ q % 2 = if k = q then 0 else a / 2 ^ q % 2 := eq_of_beq (clr_b0 a ha k hk q hq)
theorem clr_lt {a k : Nat} (ha : a < 256) : uClr a k < 256 := by
  unfold uClr
  have := Nat.sub_le a (2 ^ k)
  split
  · exact Nat.lt_of_le_of_lt this ha
  · exact ha
theorem bit01 (a : Nat) : a % 2 = 0 ∨ a % 2 = 1 := by omega
theorem bnd_lt {w : Nat → Nat → Nat} (h : ∀ k, k < 8 → w 6 k < 256) {k q : Nat} (hk : k < 8) (hq : q < 8) (z : Int32) : ∀ j, j < 8 → bnd w k q z 6 j < 256 := fun j hj => by
  unfold bnd wu
  split
  · split
    · exact Nat.or_lt_two_pow (n := 8) (h k hk) (Nat.pow_lt_pow_right (by decide) hq)
    · exact clr_lt (h k hk)
  · exact h j hj
theorem bnd_bit {w : Nat → Nat → Nat} (h : ∀ k, k < 8 → w 6 k < 256) {k q : Nat} (hk : k < 8) (hq : q < 8) (z : Int32) {a b : Nat} (hb : b < 8) : bnd w k q z 6 a / 2 ^ b % 2 = if a = k ∧ b = q then (if z = 1 then 1 else 0) else w 6 a / 2 ^ b % 2 := by
  unfold bnd wu
  by_cases ha : a = k
  · subst ha
    rw [if_pos ⟨rfl, rfl⟩]
    by_cases hz : z = 1
    · rw [if_pos hz, or_bit]
      by_cases e : q = b
      · rw [if_pos e, if_pos ⟨rfl, e.symm⟩, if_pos hz]
      · rw [if_neg e, if_neg (fun y => e y.2.symm)]
    · rw [if_neg hz, clr_bit (h a hk) hq hb]
      by_cases e : q = b
      · rw [if_pos e, if_pos ⟨rfl, e.symm⟩, if_neg hz]
      · rw [if_neg e, if_neg (fun y => e y.2.symm)]
  · rw [if_neg (fun y => ha y.2), if_neg (fun y => ha y.1)]
theorem wOk_bnd {w : Nat → Nat → Nat} (hw : wOk w) {k q : Nat} (hk : k < 8) (hq : q < 8) (hkq : ¬ k = q) (z : Int32) : wOk (bnd (bnd w k q z) q k z) := by
  obtain ⟨a, b, c, d, e, f, g⟩ := hw
  have h0 : ∀ k, k < 8 → w 6 k < 256 := fun k hk => (b k hk).2.1
  have h1 := bnd_lt h0 hk hq z
  have h2 := bnd_lt h1 hq hk z
  have hrow : ∀ j i, j ≠ 6 → bnd (bnd w k q z) q k z j i = w j i := fun j i hj => by
    show wu _ 6 _ _ j i = _
    rw [wu_row hj]
    show wu _ 6 _ _ j i = _
    rw [wu_row hj]
  refine ⟨fun t' ht' => ?_, fun x hx => ?_, ?_, ?_, ?_, fun x y hx hy => ?_, fun j' i hn => ?_⟩
  · rw [hrow 1 _ (by omega), hrow 2 _ (by omega), hrow 3 _ (by omega), hrow 4 _ (by omega)]
    exact a t' ht'
  · rw [hrow 5 _ (by omega), hrow 8 _ (by omega), hrow 9 _ (by omega)]
    exact ⟨(b x hx).1, h2 x hx, (b x hx).2.2⟩
  · rw [hrow 0 _ (by omega)]; exact c
  · rw [hrow 0 _ (by omega)]; exact d
  · rw [hrow 7 _ (by omega)]; exact e
  · rw [bnd_bit h1 hq hk z hy, bnd_bit h1 hq hk z hx, bnd_bit h0 hk hq z hy, bnd_bit h0 hk hq z hx, f x y hx hy]
    by_cases e1 : x = q ∧ y = k
    · rw [if_pos e1, if_neg (show ¬ (y = q ∧ x = k) by omega), if_pos (show y = k ∧ x = q from ⟨e1.2, e1.1⟩)]
    · rw [if_neg e1]
      by_cases e2 : x = k ∧ y = q
      · rw [if_pos e2, if_pos (show y = q ∧ x = k from ⟨e2.2, e2.1⟩)]
      · rw [if_neg e2, if_neg (show ¬ (y = q ∧ x = k) from fun y9 => e2 ⟨y9.2, y9.1⟩), if_neg (show ¬ (y = k ∧ x = q) from fun y9 => e1 ⟨y9.2, y9.1⟩)]
  · by_cases h6 : j' = 6
    · subst h6
      have hi : ¬ i < 8 := fun y => hn (by unfold wIn; omega)
      show wu _ 6 _ _ 6 i = 0
      rw [wu_ne (by omega)]
      show wu _ 6 _ _ 6 i = 0
      rw [wu_ne (by omega)]
      exact g 6 i hn
    · rw [hrow j' i h6]
      exact g j' i hn
theorem sp_thing_ok {w : Nat → Nat → Nat} (hw : wOk w) (x o a v g : Int32) : wOk (spThing w x o a v g).2 := by
  unfold spThing
  by_cases h1 : ¬ inr x 0 11 ∨ ¬ inr o 0 7
  · rw [if_pos h1]; exact hw
  · rw [if_neg h1]
    by_cases h2 : ¬ inr a 0 9 ∨ ¬ inr v 0 99 ∨ ¬ inr g 1 9
    · rw [if_pos h2]; exact hw
    · rw [if_neg h2]
      have k1 : inr x 0 11 := Classical.byContradiction fun q => h1 (Or.inl q)
      have k2 : inr o 0 7 := Classical.byContradiction fun q => h1 (Or.inr q)
      have k3 : inr a 0 9 := Classical.byContradiction fun q => h2 (Or.inl q)
      have k4 : inr v 0 99 := Classical.byContradiction fun q => h2 (Or.inr (Or.inl q))
      have k5 : inr g 1 9 := Classical.byContradiction fun q => h2 (Or.inr (Or.inr q))
      obtain ⟨x1, hx1, rfl⟩ := u_in0 (n := 11) k1 (by decide)
      obtain ⟨o1, ho1, rfl⟩ := u_in0 (n := 7) k2 (by decide)
      obtain ⟨a1, ha1, rfl⟩ := u_in0 (n := 9) k3 (by decide)
      obtain ⟨v1, hv1, rfl⟩ := u_in0 (n := 99) k4 (by decide)
      obtain ⟨g1, hg0, hg1, rfl⟩ := u_in1 (n := 9) k5 (by decide)
      rw [nI_clamp (show x1 < 2 ^ 31 by omega), nI_clamp (show o1 < 2 ^ 31 by omega), nI_clamp (show a1 < 2 ^ 31 by omega), nI_clamp (show v1 < 2 ^ 31 by omega), nI_clamp (show g1 < 2 ^ 31 by omega)]
      exact wOk_4 (wOk_3 (wOk_2 (wOk_1 hw (by omega) (by omega)) (by omega) (by omega)) (by omega) (by omega)) (by omega) hg0 hg1
theorem sp_one_ok {w : Nat → Nat → Nat} (hw : wOk w) (x c d : Int32) : wOk (spOne w x c d).2 := by
  unfold spOne
  by_cases h1 : ¬ inr x 0 7
  · rw [if_pos h1]; exact hw
  · rw [if_neg h1]
    by_cases h2 : ¬ inr c 0 9999 ∨ ¬ inr d 0 1
    · rw [if_pos h2]; exact hw
    · rw [if_neg h2]
      have k1 : inr x 0 7 := Classical.byContradiction fun q => h1 q
      have k2 : inr c 0 9999 := Classical.byContradiction fun q => h2 (Or.inl q)
      obtain ⟨x1, hx1, rfl⟩ := u_in0 (n := 7) k1 (by decide)
      obtain ⟨c1, hc1, rfl⟩ := u_in0 (n := 9999) k2 (by decide)
      rw [nI_clamp (show x1 < 2 ^ 31 by omega), nI_clamp (show c1 < 2 ^ 31 by omega)]
      refine wOk_07 (wOk_5 hw (by omega) (by omega)) ?_
      split
      · exact Nat.or_lt_two_pow (n := 8) hw.2.2.1 (Nat.pow_lt_pow_right (by decide) (by omega))
      · exact clr_lt hw.2.2.1
theorem sp_bro_ok {w : Nat → Nat → Nat} (hw : wOk w) (x y z : Int32) : wOk (spBro w x y z).2 := by
  unfold spBro
  by_cases h1 : ¬ inr x 0 7 ∨ ¬ inr y 0 7 ∨ ¬ ¬ x = y
  · rw [if_pos h1]; exact hw
  · rw [if_neg h1]
    have k1 : inr x 0 7 := Classical.byContradiction fun q => h1 (Or.inl q)
    have k2 : inr y 0 7 := Classical.byContradiction fun q => h1 (Or.inr (Or.inl q))
    have k3 : ¬ x = y := fun q => h1 (Or.inr (Or.inr (fun q2 => q2 q)))
    obtain ⟨x1, hx1, rfl⟩ := u_in0 (n := 7) k1 (by decide)
    obtain ⟨y1, hy1, rfl⟩ := u_in0 (n := 7) k2 (by decide)
    rw [nI_clamp (show x1 < 2 ^ 31 by omega), nI_clamp (show y1 < 2 ^ 31 by omega)]
    exact wOk_bnd hw (by omega) (by omega) (fun e => k3 (by rw [e])) z
theorem sp_ahead_ok {w : Nat → Nat → Nat} (hw : wOk w) (x y : Int32) : wOk (spAhead w x y).2 := by
  unfold spAhead
  by_cases h1 : ¬ inr x 0 4 ∨ ¬ inr y 0 4 ∨ ¬ ¬ x = y
  · rw [if_pos h1]; exact hw
  · rw [if_neg h1]
    by_cases h2 : 8 ≤ w 7 2
    · rw [if_pos h2]; exact hw
    · rw [if_neg h2]
      have k1 : inr x 0 4 := Classical.byContradiction fun q => h1 (Or.inl q)
      have k2 : inr y 0 4 := Classical.byContradiction fun q => h1 (Or.inr (Or.inl q))
      obtain ⟨x1, hx1, rfl⟩ := u_in0 (n := 4) k1 (by decide)
      obtain ⟨y1, hy1, rfl⟩ := u_in0 (n := 4) k2 (by decide)
      rw [nI_clamp (show x1 < 2 ^ 31 by omega), nI_clamp (show y1 < 2 ^ 31 by omega)]
      exact wOk_72 (wOk_89 (wOk_89 hw (Or.inl rfl) (by omega) (by omega)) (Or.inr rfl) (by omega) (by omega)) (by omega)
/-! each answer is one -/
theorem pPos_up (s : Nat → Nat) : ∀ d e, pPos s e + d ≤ pPos s (e + d) := by
  intro d
  induction d with
  | zero => intro e; exact Nat.le_refl _
  | succ d ih =>
    intro e
    have h1 := ih e
    rw [show e + (d + 1) = (e + d) + 1 from rfl, pPos]
    have := pLen_pos (pKind s (pPos s (e + d)))
    omega
theorem pPos_inj {s : Nat → Nat} {a b : Nat} (h : pPos s a = pPos s b) : a = b := by
  rcases Nat.lt_trichotomy a b with q | q | q
  · have := pPos_up s (b - a) a
    rw [show a + (b - a) = b from by omega] at this
    omega
  · exact q
  · have := pPos_up s (a - b) b
    rw [show b + (a - b) = a from by omega] at this
    omega
theorem rnOf_1 {s : Nat → Nat} {n : Nat} {w : Nat → Nat → Nat} {q q' : Int32} {x x' : tS} (h : rnOf s n w q x) (h' : rnOf s n w q' x') : q = q' ∧ x = x' := by
  obtain ⟨-, m, h1, h2, h3⟩ := h
  obtain ⟨-, m', h1', h2', h3'⟩ := h'
  have e : m = m' := pPos_inj (h1.trans h1'.symm)
  subst e
  have e2 : x = x' := h2.trans h2'.symm
  subst e2
  refine ⟨?_, rfl⟩
  rcases h3 with ⟨a1, a2⟩ | ⟨a1, a2⟩ <;> rcases h3' with ⟨b1, b2⟩ | ⟨b1, b2⟩
  · rw [a2, b2]
  · exact absurd a1 b1
  · exact absurd b1 a1
  · rw [a2, b2]
theorem SpRn_1 {s : Nat → Nat} {n : Nat} {w : Nat → Nat → Nat} {g : Int32 → tS → Int32} {r r' : Int32} (h : SpRn s n w g r) (h' : SpRn s n w g r') : r = r' := by
  rcases h with ⟨a1, a2⟩ | ⟨q, x, a1, a2⟩ <;> rcases h' with ⟨b1, b2⟩ | ⟨q', x', b1, b2⟩
  · rw [a2, b2]
  · exact absurd b1.1 a1
  · exact absurd a1.1 b1
  · obtain ⟨e1, e2⟩ := rnOf_1 a1 b1
    subst e1
    subst e2
    rw [a2, b2]
theorem SpJudge_1 {s : Nat → Nat} {n : Nat} {w : Nat → Nat → Nat} {h r r' : Int32} (a : SpJudge s n w h r) (b : SpJudge s n w h r') : r = r' := by
  rcases a with ⟨a1, a2⟩ | ⟨a1, a2⟩ <;> rcases b with ⟨b1, b2⟩ | ⟨b1, b2⟩
  · rw [a2, b2]
  · exact absurd b1 a1
  · exact absurd a1 b1
  · exact SpRn_1 a2 b2
theorem SpSold_1 {s : Nat → Nat} {n : Nat} {w : Nat → Nat → Nat} {h r r' : Int32} (a : SpSold s n w h r) (b : SpSold s n w h r') : r = r' := by
  rcases a with ⟨a1, a2⟩ | ⟨a1, a2⟩ <;> rcases b with ⟨b1, b2⟩ | ⟨b1, b2⟩
  · rw [a2, b2]
  · exact absurd b1 a1
  · exact absurd a1 b1
  · exact SpRn_1 a2 b2
theorem SpBehind_1 {s : Nat → Nat} {n : Nat} {w : Nat → Nat → Nat} {t h r r' : Int32} (a : SpBehind s n w t h r) (b : SpBehind s n w t h r') : r = r' := by
  rcases a with ⟨a1, a2⟩ | ⟨a0, a1, a2⟩ | ⟨a0, a1, a2⟩ <;> rcases b with ⟨b1, b2⟩ | ⟨b0, b1, b2⟩ | ⟨b0, b1, b2⟩
  · rw [a2, b2]
  · exact absurd b0 a1
  · exact absurd b0 a1
  · exact absurd a0 b1
  · rw [a2, b2]
  · exact absurd b1 a1
  · exact absurd a0 b1
  · exact absurd a1 b1
  · exact SpRn_1 a2 b2
theorem SpPurse_1 {s : Nat → Nat} {n : Nat} {w : Nat → Nat → Nat} {t h r r' : Int32} (a : SpPurse s n w t h r) (b : SpPurse s n w t h r') : r = r' := by
  rcases a with ⟨a1, a2⟩ | ⟨a0, a1, a2⟩ | ⟨a0, a1, a2⟩ <;> rcases b with ⟨b1, b2⟩ | ⟨b0, b1, b2⟩ | ⟨b0, b1, b2⟩
  · rw [a2, b2]
  · exact absurd b0 a1
  · exact absurd b0 a1
  · exact absurd a0 b1
  · rw [a2, b2]
  · exact absurd b1 a1
  · exact absurd a0 b1
  · exact absurd a1 b1
  · exact SpRn_1 a2 b2
theorem ring_no {row m h : Int32} {v : Nat} (a : ¬ inr m 0 999999999 ∨ ¬ inr h 0 2 ∨ ¬ rowOk row) (b0 : inr m 0 999999999) (b1 : inr h 0 2) (b2 : row = nI v) (b3 : v < 2147483648) (b4 : rOk v) : False := by
  rcases a with a | a | a
  · exact a b0
  · exact a b1
  · exact a ⟨v, b2, b3, b4⟩
theorem SpRing_1 {row x m h r r' : Int32} (a : SpRing row x m h r) (b : SpRing row x m h r') : r = r' := by
  rcases a with ⟨a1, a2⟩ | ⟨a0, a1, a2⟩ | ⟨a0, a1, a2, v, N, K, a3, a4, a5, a6, a7⟩ <;> rcases b with ⟨b1, b2⟩ | ⟨b0, b1, b2⟩ | ⟨b0, b1, b2, v', N', K', b3, b4, b5, b6, b7⟩
  · rw [a2, b2]
  · exact absurd b0 a1
  · exact absurd b0 a1
  · exact absurd a0 b1
  · rw [a2, b2]
  · exact (ring_no a1 b1 b2 b3 b4 b5).elim
  · exact absurd a0 b1
  · exact (ring_no b1 a1 a2 a3 a4 a5).elim
  · have e : v = v' := nI_inj a4 b4 (a3.symm.trans b3)
    subst e
    obtain ⟨e1, e2⟩ := rEnd_1 a6 b6
    subst e1
    subst e2
    rw [a7, b7]
theorem SpSells_1 {row n t r r' : Int32} (a : SpSells row n t r) (b : SpSells row n t r') : r = r' := by
  rcases a with ⟨a1, a2⟩ | ⟨a1, v, d, a2, a3, a4, a5, a6, a7, a8⟩ <;> rcases b with ⟨b1, b2⟩ | ⟨b1, v', d', b2, b3, b4, b5, b6, b7, b8⟩
  · rw [a2, b2]
  · exact (a1.elim (fun z => z b1) (fun z => z ⟨v', d', b2, b3, b4, b5, b6, b7⟩)).elim
  · exact (b1.elim (fun z => z a1) (fun z => z ⟨v, d, a2, a3, a4, a5, a6, a7⟩)).elim
  · have e : v = v' := nI_inj a3 b3 (a2.symm.trans b2)
    have e2 : d = d' := nI_inj (by omega) (by omega) (a4.symm.trans b4)
    subst e
    subst e2
    rw [a8, b8]
theorem SpStop_1 {row n t p : Int32} {r r' : Int64} (a : SpStop row n t p r) (b : SpStop row n t p r') : r = r' := by
  rcases a with ⟨a1, a2⟩ | ⟨a0, a1, v, d, a2, a3, a4, a5, a6, a7, a8⟩ <;> rcases b with ⟨b1, b2⟩ | ⟨b0, b1, v', d', b2, b3, b4, b5, b6, b7, b8⟩
  · rw [a2, b2]
  · exact (a1.elim (fun z => z b0) (fun z => z.elim (fun z => z b1) (fun z => z ⟨v', d', b2, b3, b4, b5, b6, b7⟩))).elim
  · exact (b1.elim (fun z => z a0) (fun z => z.elim (fun z => z a1) (fun z => z ⟨v, d, a2, a3, a4, a5, a6, a7⟩))).elim
  · have e : v = v' := nI_inj a3 b3 (a2.symm.trans b2)
    have e2 : d = d' := nI_inj (by omega) (by omega) (a4.symm.trans b4)
    subst e
    subst e2
    rw [a8, b8]
theorem SpFits_1 {w : Nat → Nat → Nat} {x r r' : Int32} (a : SpFits w x r) (b : SpFits w x r') : r = r' := by
  rcases a with ⟨k, a1, a2, a3, a4⟩ | ⟨a1, a2⟩ <;> rcases b with ⟨k', b1, b2, b3, b4⟩ | ⟨b1, b2⟩
  · have h1 := hCnt_le w k
    have h2 := hCnt_le w k'
    have e : hCnt w k = hCnt w k' := nI_inj (by omega) (by omega) (a3.symm.trans b3)
    have e2 : k = k' := by
      rcases Nat.lt_trichotomy k k' with q | q | q
      · have := hCnt_st a2 q
        omega
      · exact q
      · have := hCnt_st b2 q
        omega
    subst e2
    rw [a4, b4]
  · exact absurd a3 (b1 k a1 a2)
  · exact absurd b3 (a1 k' b1 b2)
  · rw [a2, b2]
