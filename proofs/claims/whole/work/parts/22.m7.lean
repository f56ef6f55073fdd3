/-! sets of things, by bits -/
def smS (v : Nat → Nat) (st : Nat) : Nat → Nat
  | 0 => 0
  | t + 1 => smS v st t + (if st / 2 ^ t % 2 = 1 then v t else 0)
theorem tb_iff (st x : Nat) : st / 2 ^ x % 2 = 1 ↔ st.testBit x = true := by
  rw [Nat.testBit_eq_decide_div_mod_eq]
  simp
theorem smS_congr {v : Nat → Nat} {st st' : Nat} : ∀ t, (∀ x, x < t → (st / 2 ^ x % 2 = 1 ↔ st' / 2 ^ x % 2 = 1)) → smS v st t = smS v st' t := by
  intro t
  induction t with
  | zero => intro _; rfl
  | succ t ih =>
    intro h
    rw [smS, smS, ih (fun x hx => h x (by omega))]
    by_cases q : st / 2 ^ t % 2 = 1
    · rw [if_pos q, if_pos ((h t (by omega)).mp q)]
    · rw [if_neg q, if_neg (fun z => q ((h t (by omega)).mpr z))]
theorem smS_lo {v : Nat → Nat} {st t : Nat} (h : st < 2 ^ t) : smS v st (t + 1) = smS v st t := by
  rw [smS, Nat.div_eq_of_lt h, if_neg (by decide)]
  rfl
theorem hi_bit {st t x : Nat} (hx : x < t) : (2 ^ t + st) / 2 ^ x % 2 = 1 ↔ st / 2 ^ x % 2 = 1 := by
  rw [tb_iff, tb_iff, Nat.testBit_two_pow_add_gt hx]
theorem hi_top {st t : Nat} (h : st < 2 ^ t) : (2 ^ t + st) / 2 ^ t % 2 = 1 := by
  rw [Nat.add_div_left st (Nat.pow_pos (by decide)), Nat.div_eq_of_lt h]
theorem smS_hi {v : Nat → Nat} {st t : Nat} (h : st < 2 ^ t) : smS v (2 ^ t + st) (t + 1) = smS v st t + v t := by
  rw [smS, if_pos (hi_top h), smS_congr (st := 2 ^ t + st) (st' := st) t (fun x hx => hi_bit hx)]
theorem smS_0 (v : Nat → Nat) : ∀ t, smS v 0 t = 0 := by
  intro t
  induction t with
  | zero => rfl
  | succ t ih => rw [smS, ih, Nat.zero_div, if_neg (by decide)]
theorem smS_le {v : Nat → Nat} {st b : Nat} : ∀ t, (∀ x, x < t → v x ≤ b) → smS v st t ≤ b * t := by
  intro t
  induction t with
  | zero => intro _; exact Nat.le_refl _
  | succ t ih =>
    intro h
    have h1 := ih (fun x hx => h x (by omega))
    have h2 := h t (by omega)
    rw [smS, Nat.mul_succ]
    split <;> omega
/-- the things that are not with k -/
def nW (w : Nat → Nat → Nat) (k : Nat) : Nat → Nat
  | 0 => 0
  | t + 1 => nW w k t ||| (if w 1 t = k then 0 else 2 ^ t)
theorem nW_bit (w : Nat → Nat → Nat) (k : Nat) : ∀ t x, (nW w k t).testBit x = (decide (x < t) && decide (w 1 x ≠ k)) := by
  intro t
  induction t with
  | zero => intro x; simp [nW]
  | succ t ih =>
    intro x
    rw [nW, Nat.testBit_or, ih x]
    by_cases hx : x = t
    · subst hx
      by_cases hk : w 1 x = k
      · simp [hk]
      · simp [hk, Nat.testBit_two_pow_self]
    · have h2 : (if w 1 t = k then 0 else 2 ^ t : Nat).testBit x = false := by
        split
        · simp
        · rw [Nat.testBit_two_pow]
          simp [show t ≠ x from fun z => hx z.symm]
      rw [h2, Bool.or_false, show decide (x < t + 1) = decide (x < t) from by
        by_cases q : x < t
        · simp [q, show x < t + 1 from by omega]
        · simp [q, show ¬ x < t + 1 from by omega]]
theorem nW_lt (w : Nat → Nat → Nat) (k : Nat) : ∀ t, nW w k t < 2 ^ t := by
  intro t
  induction t with
  | zero => exact Nat.one_pos
  | succ t ih =>
    rw [nW]
    refine Nat.or_lt_two_pow (Nat.lt_of_lt_of_le ih (Nat.pow_le_pow_right (by decide) (by omega))) ?_
    split
    · exact Nat.pow_pos (by decide)
    · exact Nat.pow_lt_pow_right (by decide) (by omega)
def okS (w : Nat → Nat → Nat) (k st : Nat) : Prop := ∀ x, x < 12 → st / 2 ^ x % 2 = 1 → w 1 x ≠ k
theorem okS_iff {w : Nat → Nat → Nat} {k st : Nat} (h : st < 4096) : st &&& nW w k 12 = st ↔ okS w k st := by
  constructor
  · intro q x hx hb
    rw [tb_iff, ← q, Nat.testBit_and, nW_bit] at hb
    simp [hx] at hb
    exact hb.2
  · intro q
    apply Nat.eq_of_testBit_eq
    intro x
    rw [Nat.testBit_and, nW_bit]
    by_cases hb : st.testBit x = true
    · have hx : x < 12 := by
        rcases Nat.lt_or_ge x 12 with z | z
        · exact z
        · exfalso
          have : st < 2 ^ x := Nat.lt_of_lt_of_le (show st < 2 ^ 12 from h) (Nat.pow_le_pow_right (by decide) z)
          rw [Nat.testBit_lt_two_pow this] at hb
          cases hb
      have := q x hx ((tb_iff st x).mpr hb)
      simp [hb, hx, this]
    · rw [show st.testBit x = false from by simpa using hb, Bool.false_and]
theorem u_sub {a b : Nat} (ha : a < 4096) : (nI a &&& (nI b ^^^ (-1)) = 0) ↔ a &&& b = a := by
  rw [show (-1 : Int32) = nI 4294967295 from by decide, nx_xor, nx_and, show (0 : Int32) = nI 0 from rfl, nI_eq (by have := Nat.and_le_left (n := a) (m := b ^^^ 4294967295); omega) (by decide)]
  have hb : ∀ x, x < 32 → (4294967295 : Nat).testBit x = true := by decide +kernel
  have hx : ∀ x, a.testBit x = true → x < 32 := fun x h => by
    rcases Nat.lt_or_ge x 32 with z | z
    · exact z
    · have : a < 2 ^ x := Nat.lt_of_lt_of_le (show a < 2 ^ 32 by omega) (Nat.pow_le_pow_right (by decide) z)
      rw [Nat.testBit_lt_two_pow this] at h
      cases h
  constructor
  · intro q
    apply Nat.eq_of_testBit_eq
    intro x
    have h1 : (a &&& (b ^^^ 4294967295)).testBit x = false := by rw [q]; simp
    rw [Nat.testBit_and, Nat.testBit_xor] at h1
    rw [Nat.testBit_and]
    by_cases h : a.testBit x = true
    · rw [h, hb x (hx x h)] at h1
      rw [h]
      simpa using h1
    · rw [show a.testBit x = false from by simpa using h, Bool.false_and]
  · intro q
    apply Nat.eq_of_testBit_eq
    intro x
    have h1 : (a &&& b).testBit x = a.testBit x := by rw [q]
    rw [Nat.testBit_and] at h1
    rw [Nat.testBit_and, Nat.testBit_xor]
    by_cases h : a.testBit x = true
    · rw [h] at h1
      rw [h, hb x (hx x h)]
      simp at h1 ⊢
      exact h1
    · rw [show a.testBit x = false from by simpa using h, Bool.false_and]
      simp
/-! the sack: all sets, one after another -/
def skV (w : Nat → Nat → Nat) (k c st : Nat) : Nat := if st &&& nW w k 12 = st ∧ smS (w 4) st 12 ≤ c then smS (w 3) st 12 else 0
def skS (w : Nat → Nat → Nat) (k c : Nat) : Nat → Nat × Nat
  | 0 => (0, 0)
  | e + 1 => if (skS w k c e).1 < skV w k c e then (skV w k c e, e) else skS w k c e
theorem skV_0 (w : Nat → Nat → Nat) (k c : Nat) : skV w k c 0 = 0 := by
  unfold skV
  rw [smS_0, smS_0]
  split <;> rfl
theorem skS_1 (w : Nat → Nat → Nat) (k c : Nat) : skS w k c 1 = (0, 0) := by
  show (if (0 : Nat) < skV w k c 0 then _ else _) = _
  rw [skV_0, if_neg (by decide)]
  rfl
theorem skS_p (w : Nat → Nat → Nat) (k c : Nat) : ∀ e, (skS w k c e).2 ≤ e ∧ skV w k c (skS w k c e).2 = (skS w k c e).1 ∧ (∀ st, st < e → skV w k c st ≤ (skS w k c e).1) ∧ ∀ st, st < (skS w k c e).2 → skV w k c st < (skS w k c e).1 := by
  intro e
  induction e with
  | zero => exact ⟨Nat.le_refl _, skV_0 _ _ _, fun st h => absurd h (Nat.not_lt_zero _), fun st h => absurd h (Nat.not_lt_zero _)⟩
  | succ e ih =>
    obtain ⟨h1, h2, h3, h4⟩ := ih
    by_cases q : (skS w k c e).1 < skV w k c e
    · rw [show skS w k c (e + 1) = (skV w k c e, e) from if_pos q]
      refine ⟨Nat.le_succ _, rfl, fun st hs => ?_, fun st hs => ?_⟩
      · show _ ≤ skV w k c e
        by_cases z : st = e
        · rw [z]; exact Nat.le_refl _
        · have := h3 st (by omega); omega
      · show _ < skV w k c e
        have := h3 st hs
        omega
    · rw [show skS w k c (e + 1) = skS w k c e from if_neg q]
      refine ⟨by omega, h2, fun st hs => ?_, h4⟩
      by_cases z : st = e
      · rw [z]; omega
      · exact h3 st (by omega)
/-- what the class packs, thing by thing -/
def dpP (w : Nat → Nat → Nat) (k t i f g : Nat) : Prop := g < 2 ^ t ∧ okS w k g ∧ smS (w 4) g t ≤ i ∧ smS (w 3) g t = f ∧ ∀ st, st < 2 ^ t → okS w k st → smS (w 4) st t ≤ i → smS (w 3) st t ≤ f ∧ (smS (w 3) st t = f → g ≤ st)
theorem okS_lo {w : Nat → Nat → Nat} {k st t : Nat} (ht : t < 12) (h : okS w k (2 ^ t + st)) (hs : st < 2 ^ t) : okS w k st ∧ w 1 t ≠ k := by
  refine ⟨fun x hx hb => ?_, h t ht (hi_top hs)⟩
  rcases Nat.lt_or_ge x t with q | q
  · exact h x hx ((hi_bit q).mpr hb)
  · exfalso
    have : st < 2 ^ x := Nat.lt_of_lt_of_le hs (Nat.pow_le_pow_right (by decide) q)
    rw [Nat.div_eq_of_lt this] at hb
    exact absurd hb (by decide)
theorem okS_hi {w : Nat → Nat → Nat} {k st t : Nat} (h : okS w k st) (hs : st < 2 ^ t) (hk : w 1 t ≠ k) : okS w k (2 ^ t + st) := by
  intro x hx hb
  rcases Nat.lt_trichotomy x t with q | q | q
  · exact h x hx ((hi_bit q).mp hb)
  · rw [q]; exact hk
  · exfalso
    have : 2 ^ t + st < 2 ^ x := by
      have h1 : 2 ^ (t + 1) ≤ 2 ^ x := Nat.pow_le_pow_right (by decide) q
      rw [Nat.pow_succ] at h1
      omega
    rw [Nat.div_eq_of_lt this] at hb
    exact absurd hb (by decide)
theorem split2 {st t : Nat} (h : st < 2 ^ (t + 1)) : st < 2 ^ t ∨ ∃ s', s' < 2 ^ t ∧ st = 2 ^ t + s' := by
  rw [Nat.pow_succ] at h
  rcases Nat.lt_or_ge st (2 ^ t) with q | q
  · exact Or.inl q
  · exact Or.inr ⟨st - 2 ^ t, by omega, by omega⟩
theorem or_add {a t : Nat} (h : a < 2 ^ t) : a ||| 2 ^ t = 2 ^ t + a := by
  have := Nat.two_pow_add_eq_or_of_lt h 1
  rw [Nat.mul_one] at this
  rw [this, Nat.or_comm]
theorem dpS_p {w : Nat → Nat → Nat} (hw : wOk w) (k c : Nat) : ∀ t, t ≤ 12 → ∀ i, i ≤ c → dpP w k t i ((dpS w k c (fun _ => 0) (fun _ => 0) t).1 i) ((dpS w k c (fun _ => 0) (fun _ => 0) t).2 i) := by
  intro t
  induction t with
  | zero =>
    intro _ i _
    refine ⟨by show (0 : Nat) < 2 ^ 0; decide, fun x _ hb => ?_, Nat.zero_le _, rfl, fun st hs _ _ => ⟨Nat.le_refl _, fun _ => Nat.zero_le _⟩⟩
    have h0 : (dpS w k c (fun _ => 0) (fun _ => 0) 0).2 i = 0 := rfl
    rw [h0, Nat.zero_div] at hb
    exact absurd hb (by decide)
  | succ t ih =>
    intro ht i hi
    obtain ⟨b1, b2, b3, b4, b5⟩ := hw.1 t (by omega)
    obtain ⟨g1, g2, g3, g4, g5⟩ := ih (by omega) i hi
    have hp : 2 ^ t < 2 ^ (t + 1) := Nat.pow_lt_pow_right (by decide) (by omega)
    by_cases hk : w 1 t = k
    · rw [show dpS w k c (fun _ => 0) (fun _ => 0) (t + 1) = dpS w k c (fun _ => 0) (fun _ => 0) t from if_pos hk]
      refine ⟨by omega, g2, by rw [smS_lo g1]; exact g3, by rw [smS_lo g1]; exact g4, fun st hs ho hwt => ?_⟩
      rcases split2 hs with q | ⟨s', q, rfl⟩
      · rw [smS_lo q] at hwt ⊢
        exact g5 st q ho hwt
      · exact absurd hk (okS_lo (by omega) ho q).2
    · have e : dpS w k c (fun _ => 0) (fun _ => 0) (t + 1) = (ofF (dpS w k c (fun _ => 0) (fun _ => 0) t).1 (w 3 t) (w 4 t) c (w 4 t - 1), ofG (dpS w k c (fun _ => 0) (fun _ => 0) t).1 (dpS w k c (fun _ => 0) (fun _ => 0) t).2 t (w 3 t) (w 4 t) c (w 4 t - 1)) := if_neg hk
      rw [e]
      show dpP w k (t + 1) i (ofF _ _ _ _ _ i) (ofG _ _ _ _ _ _ _ i)
      generalize dpS w k c (fun _ => 0) (fun _ => 0) t = D at ih g1 g2 g3 g4 g5 ⊢
      unfold ofF ofG
      by_cases hc : w 4 t - 1 < i ∧ i ≤ c ∧ w 4 t ≤ i ∧ D.1 i < D.1 (i - w 4 t) + w 3 t
      · rw [if_pos hc, if_pos hc]
        obtain ⟨q1, q2, q3, q4, q5⟩ := ih (by omega) (i - w 4 t) (by omega)
        rw [or_add q1]
        refine ⟨by rw [Nat.pow_succ]; omega, okS_hi q2 q1 hk, by rw [smS_hi q1]; omega, by rw [smS_hi q1, q4], fun st hs ho hwt => ?_⟩
        rcases split2 hs with q | ⟨s', q, rfl⟩
        · rw [smS_lo q] at hwt ⊢
          have := (g5 st q ho hwt).1
          exact ⟨by omega, fun z => by omega⟩
        · rw [smS_hi q] at hwt ⊢
          obtain ⟨r1, r2⟩ := q5 s' q (okS_lo (by omega) ho q).1 (by omega)
          exact ⟨by omega, fun z => by have := r2 (by omega); omega⟩
      · rw [if_neg hc, if_neg hc]
        refine ⟨by omega, g2, by rw [smS_lo g1]; exact g3, by rw [smS_lo g1]; exact g4, fun st hs ho hwt => ?_⟩
        rcases split2 hs with q | ⟨s', q, rfl⟩
        · rw [smS_lo q] at hwt ⊢
          exact g5 st q ho hwt
        · rw [smS_hi q] at hwt ⊢
          obtain ⟨q1, q2, q3, q4, q5⟩ := ih (by omega) (i - w 4 t) (by omega)
          obtain ⟨r1, r2⟩ := q5 s' q (okS_lo (by omega) ho q).1 (by omega)
          have h9 : ¬ D.1 i < D.1 (i - w 4 t) + w 3 t := fun z => hc ⟨by omega, hi, by omega, z⟩
          exact ⟨by omega, fun z => by omega⟩
theorem skS_dp {w : Nat → Nat → Nat} (hw : wOk w) (k c : Nat) : skS w k c 4096 = ((dpS w k c (fun _ => 0) (fun _ => 0) 12).1 c, (dpS w k c (fun _ => 0) (fun _ => 0) 12).2 c) := by
  obtain ⟨h1, h2, h3, h4⟩ := skS_p w k c 4096
  obtain ⟨g1, g2, g3, g4, g5⟩ := dpS_p hw k c 12 (Nat.le_refl _) c (Nat.le_refl _)
  generalize dpS w k c (fun _ => 0) (fun _ => 0) 12 = D at *
  generalize skS w k c 4096 = X at *
  have hg : skV w k c (D.2 c) = D.1 c := by
    unfold skV
    rw [if_pos ⟨(okS_iff g1).mpr g2, g3⟩]
    exact g4
  have hb : (X).2 < 4096 ∧ okS w k (X).2 ∧ smS (w 4) (X).2 12 ≤ c ∧ smS (w 3) (X).2 12 = (X).1 := by
    by_cases hz : (X).2 = 0
    · rw [hz] at h2 ⊢
      rw [skV_0] at h2
      refine ⟨by decide, fun x _ hx => ?_, by rw [smS_0]; exact Nat.zero_le _, by rw [smS_0]; exact h2⟩
      rw [Nat.zero_div] at hx
      exact absurd hx (by decide)
    · have hp := h4 0 (by omega)
      rw [skV_0, ← h2] at hp
      have hlt : (X).2 < 4096 := by
        rcases Nat.lt_or_ge (X).2 4096 with q | q
        · exact q
        · exfalso
          have e : (X).2 = 4096 := by omega
          rw [e] at hp
          unfold skV at hp
          rw [if_neg] at hp
          · exact absurd hp (Nat.lt_irrefl _)
          · intro z
            have h5 := nW_lt w k 12
            have h6 := Nat.and_le_right (n := 4096) (m := nW w k 12)
            rw [z.1] at h6
            omega
      unfold skV at h2 hp
      by_cases hc : (X).2 &&& nW w k 12 = (X).2 ∧ smS (w 4) (X).2 12 ≤ c
      · rw [if_pos hc] at h2
        exact ⟨hlt, (okS_iff hlt).mp hc.1, hc.2, h2⟩
      · rw [if_neg hc] at hp
        exact absurd hp (Nat.lt_irrefl _)
  obtain ⟨b1, b2, b3, b4⟩ := hb
  obtain ⟨r1, r2⟩ := g5 _ b1 b2 b3
  have r3 := h3 (D.2 c) g1
  have e1 : (X).1 = D.1 c := by omega
  have r4 := r2 (by omega)
  have e2 : (X).2 = D.2 c := by
    rcases Nat.lt_or_ge (D.2 c) (X).2 with q | q
    · have := h4 _ q
      omega
    · omega
  exact Prod.ext e1 e2
theorem qX12_worthOf_16 : Cond.fieldLink RX12 16 (TX12 2).1 (TX12 2).2.1 (TX12 2).2.2.1 ∈ wsX12_worthOf := List.mem_of_getElem? (i := 1) rfl
theorem iX12_worthOf_X12 : ∀ w ∈ wsX120, w ∈ wsX12_worthOf := fun _ h => List.mem_cons_of_mem _ (List.mem_append_right _ h)
theorem qX12_weightOf_19 : Cond.fieldLink RX12 19 (TX12 3).1 (TX12 3).2.1 (TX12 3).2.2.1 ∈ wsX12_weightOf := List.mem_of_getElem? (i := 1) rfl
theorem iX12_weightOf_X12 : ∀ w ∈ wsX120, w ∈ wsX12_weightOf := fun _ h => List.mem_cons_of_mem _ (List.mem_append_right _ h)
theorem qX12_notWith_7 : Cond.fieldLink RX12 7 (TX12 0).1 (TX12 0).2.1 (TX12 0).2.2.1 ∈ wsX12_notWith := List.mem_of_getElem? (i := 1) rfl
theorem iX12_notWith_X12 : ∀ w ∈ wsX120, w ∈ wsX12_notWith := fun _ h => List.mem_cons_of_mem _ (List.mem_append_right _ h)
theorem qX12_sack_105 : Cond.constantLong RX12 105 99 ∈ wsX12_sack := List.mem_of_getElem? (i := 1) rfl
theorem qX12_careers_257 : Cond.constantLong RX12 257 8 ∈ wsX12_careers := List.mem_of_getElem? (i := 1) rfl
theorem qX12_careers_259 : Cond.constantLong RX12 259 4095 ∈ wsX12_careers := List.mem_of_getElem? (i := 2) rfl
theorem qX12_careers_13 : Cond.fieldLink RX12 13 (TX12 1).1 (TX12 1).2.1 (TX12 1).2.2.1 ∈ wsX12_careers := List.mem_of_getElem? (i := 3) rfl
theorem iX12_careers_X12 : ∀ w ∈ wsX120, w ∈ wsX12_careers := fun _ h => List.mem_cons_of_mem _ (List.mem_append_right _ h)
set_option maxHeartbeats 4000000 in
set_option maxRecDepth 100000 in
theorem c_X12_worthOf (l : Launch) (G : uG) (e : Nat) (he : e < 4096) (M : uM) (w : Nat → Nat → Nat) (hr : uMd M w) (hw : wOk w) : CTi l G yX12_worthOf wsX12_worthOf 1 21 [.ref (G.2.2 71), .int (nI e)] M (fun r M2 => r = nI (smS (w 3) e 12) ∧ M2 = M) := by
  refine ustart_i (cc := cX12_worthOf) (maxL := 4) (ret := (some .int)) (own := RX12) rfl (by decide) rfl (Nat.le_of_ble_eq_true rfl) ?_
  intro xp xe xs xm xa xb xt xc xA ls S hK hA Z hre hlk hl
  have hl : lv_has ls 4 [(0, .ref (G.2.2 71)), (1, .int (nI e))] := hl
  refine lv_iconst (v := 0) S.1 S.2.1 dX12_worthOf_0 (by decide) ?_
  refine lv_istore_n (lv' := [(2, .int 0), (0, .ref (G.2.2 71)), (1, .int (nI e))]) S.1 S.2.1 dX12_worthOf_1 rfl hl (by decide) rfl (fun ls hl => ?_)
  refine lv_iconst (v := 0) S.1 S.2.1 dX12_worthOf_2 (by decide) ?_
  refine lv_istore_n (lv' := [(3, .int 0), (2, .int 0), (0, .ref (G.2.2 71)), (1, .int (nI e))]) S.1 S.2.1 dX12_worthOf_3 rfl hl (by decide) rfl (fun ls hl => ?_)
  have LP4 : ∀ (fU : Nat) (n : Nat) (t : Nat), (12 < t + fU) → (t ≤ 12) → (n = smS (w 3) e t) → ∀ (H : Heap) (locs : List Loc) (ls : Array Slot), uZ G xA M xs.heap H locs → lv_has ls 4 [(3, .int (nI t)), (2, .int (nI n)), (0, .ref (G.2.2 71)), (1, .int (nI e))] → W xp l xe (uRm 1 21) xs xm xa xb xt xc H locs 0 0 (MQ xb (va_Qi (fun r M2 => r = nI (smS (w 3) e 12) ∧ M2 = M) (fun M' t => uB G M' t) xA) xa xs 0 0 xA) (F0 xm 4 ls []) := by
    intro fU
    induction fU with
    | zero =>
      intro n t hfl i1 i2 H locs ls Z hl
      exfalso
      omega
    | succ fU ih4 =>
      intro n t hfl i1 i2 H locs ls Z hl
      refine lv_iload_n S.1 S.2.1 dX12_worthOf_4 rfl (lv_at hl 0 rfl) ?_
      refine lv_bipush (v := 12) S.1 S.2.1 dX12_worthOf_5 (by decide) ?_
      refine lv_icmp_ge (tgt := 37) S.1 S.2.1 dX12_worthOf_7 (by decide) (fun c_1 => ?_) (fun c_1 => ?_)
      · skip
        have c_1 : 12 ≤ t := (nI_leI (a := 12) (b := t) (by omega) (by omega)).mp c_1
        refine lv_iload_n S.1 S.2.1 dX12_worthOf_37 rfl (lv_at hl 1 rfl) ?_
        refine uret_i S hK Z hre hlk dX12_worthOf_38 ?_
        rw [i2, show t = 12 from by omega]
        exact ⟨rfl, rfl⟩
      · skip
        have c_1 : ¬ 12 ≤ t := fun z9 => c_1 ((nI_leI (a := 12) (b := t) (by omega) (by omega)).mpr z9)
        refine lv_iload_n S.1 S.2.1 dX12_worthOf_10 rfl (lv_at hl 1 rfl) ?_
        refine lv_iload_n S.1 S.2.1 dX12_worthOf_11 rfl (lv_at hl 3 rfl) ?_
        refine lv_iload_n S.1 S.2.1 dX12_worthOf_12 rfl (lv_at hl 0 rfl) ?_
        refine uc_Si (As := [.int (nI e), .int (nI t)]) (rest := [.int (nI n)]) S hK hA Z (c_X12_has l G e t (by omega) (by omega) M) (va_cwS 2 S.2.2.2.2 gX12_worthOf_X12_has rfl rfl rfl (by decide +kernel) ⟨Nat.le_of_ble_eq_true rfl, Nat.le_of_ble_eq_true rfl⟩) rfl hl.1 rfl (Nat.le_of_ble_eq_true rfl) dX12_worthOf_13 ⟨Nat.zero_le _, Nat.zero_le _⟩ (fun r_2 M_2 H locs hp Z => ?_)
        obtain ⟨⟨rfl, w_2⟩ | ⟨rfl, w_2⟩, hM_2⟩ := hp
        · skip
          rw [hM_2] at Z
          refine lv_if_eq (tgt := 28) S.1 S.2.1 dX12_worthOf_16 (by decide) (fun c => absurd c (by decide)) (fun _ => ?_)
          refine lv_aload_n S.1 S.2.1 dX12_worthOf_19 rfl (lv_at hl 2 rfl) ?_
          refine ug_r S hK Z (j := 2) 74 (by decide) rfl rfl rfl (by decide) iX12_worthOf_X12 qX12_worthOf_16 dX12_worthOf_20 ?_
          refine lv_iload_n S.1 S.2.1 dX12_worthOf_23 rfl (lv_at hl 0 rfl) ?_
          refine ua_ild S hK Z t (by decide) rfl rfl (by omega) dX12_worthOf_24 ?_
          refine utop (y := (nI (w 3 t))) (uMd_r hr t (j := 3) (by decide)) ?_
          refine lv_goto (tgt := 29) S.1 S.2.1 dX12_worthOf_25 (by decide) ?_
          refine lv_iadd S.1 S.2.1 dX12_worthOf_29 ?_
          refine utop (nI_add n (w 3 t)) ?_
          refine lv_istore_n (lv' := [(2, .int (nI (n + (w 3 t)))), (3, .int (nI t)), (0, .ref (G.2.2 71)), (1, .int (nI e))]) S.1 S.2.1 dX12_worthOf_30 rfl hl (by decide) rfl (fun ls hl => ?_)
          refine lv_iinc (v := (nI (t + 1))) (lv' := [(3, .int (nI (t + 1))), (2, .int (nI (n + (w 3 t)))), (0, .ref (G.2.2 71)), (1, .int (nI e))]) S.1 S.2.1 dX12_worthOf_31 hl (k := 1) rfl (u_inc1 t) (by decide) rfl (fun ls hl => ?_)
          refine lv_goto (tgt := 4) S.1 S.2.1 dX12_worthOf_34 (by decide) ?_
          exact ih4 (n + (w 3 t)) (t + 1) (by omega) (by omega) (by
              rw [smS, ← i2]
              first | rw [if_pos (by assumption)] | rw [if_neg (by assumption)]) _ _ _ Z (lv_sub hl [0, 1, 2, 3] rfl)
        · skip
          rw [hM_2] at Z
          refine lv_if_eq (tgt := 28) S.1 S.2.1 dX12_worthOf_16 (by decide) (fun _ => ?_) (fun c => absurd c (by decide))
          refine lv_iconst (v := 0) S.1 S.2.1 dX12_worthOf_28 (by decide) ?_
          refine lv_iadd S.1 S.2.1 dX12_worthOf_29 ?_
          refine utop (nI_add n 0) ?_
          refine lv_istore_n (lv' := [(2, .int (nI (n + 0))), (3, .int (nI t)), (0, .ref (G.2.2 71)), (1, .int (nI e))]) S.1 S.2.1 dX12_worthOf_30 rfl hl (by decide) rfl (fun ls hl => ?_)
          refine lv_iinc (v := (nI (t + 1))) (lv' := [(3, .int (nI (t + 1))), (2, .int (nI (n + 0))), (0, .ref (G.2.2 71)), (1, .int (nI e))]) S.1 S.2.1 dX12_worthOf_31 hl (k := 1) rfl (u_inc1 t) (by decide) rfl (fun ls hl => ?_)
          refine lv_goto (tgt := 4) S.1 S.2.1 dX12_worthOf_34 (by decide) ?_
          exact ih4 (n + 0) (t + 1) (by omega) (by omega) (by
              rw [smS, ← i2]
              first | rw [if_pos (by assumption)] | rw [if_neg (by assumption)]) _ _ _ Z (lv_sub hl [0, 1, 2, 3] rfl)
  exact LP4 13 0 0 (by omega) (by omega) (by rfl) _ _ _ Z (lv_sub hl [0, 1, 2, 3] rfl)
set_option maxHeartbeats 4000000 in
set_option maxRecDepth 100000 in
theorem c_X12_weightOf (l : Launch) (G : uG) (e : Nat) (he : e < 4096) (M : uM) (w : Nat → Nat → Nat) (hr : uMd M w) (hw : wOk w) : CTi l G yX12_weightOf wsX12_weightOf 1 21 [.ref (G.2.2 71), .int (nI e)] M (fun r M2 => r = nI (smS (w 4) e 12) ∧ M2 = M) := by
  refine ustart_i (cc := cX12_weightOf) (maxL := 4) (ret := (some .int)) (own := RX12) rfl (by decide) rfl (Nat.le_of_ble_eq_true rfl) ?_
  intro xp xe xs xm xa xb xt xc xA ls S hK hA Z hre hlk hl
  have hl : lv_has ls 4 [(0, .ref (G.2.2 71)), (1, .int (nI e))] := hl
  refine lv_iconst (v := 0) S.1 S.2.1 dX12_weightOf_0 (by decide) ?_
  refine lv_istore_n (lv' := [(2, .int 0), (0, .ref (G.2.2 71)), (1, .int (nI e))]) S.1 S.2.1 dX12_weightOf_1 rfl hl (by decide) rfl (fun ls hl => ?_)
  refine lv_iconst (v := 0) S.1 S.2.1 dX12_weightOf_2 (by decide) ?_
  refine lv_istore_n (lv' := [(3, .int 0), (2, .int 0), (0, .ref (G.2.2 71)), (1, .int (nI e))]) S.1 S.2.1 dX12_weightOf_3 rfl hl (by decide) rfl (fun ls hl => ?_)
  have LP4 : ∀ (fU : Nat) (n : Nat) (t : Nat), (12 < t + fU) → (t ≤ 12) → (n = smS (w 4) e t) → ∀ (H : Heap) (locs : List Loc) (ls : Array Slot), uZ G xA M xs.heap H locs → lv_has ls 4 [(3, .int (nI t)), (2, .int (nI n)), (0, .ref (G.2.2 71)), (1, .int (nI e))] → W xp l xe (uRm 1 21) xs xm xa xb xt xc H locs 0 0 (MQ xb (va_Qi (fun r M2 => r = nI (smS (w 4) e 12) ∧ M2 = M) (fun M' t => uB G M' t) xA) xa xs 0 0 xA) (F0 xm 4 ls []) := by
    intro fU
    induction fU with
    | zero =>
      intro n t hfl i1 i2 H locs ls Z hl
      exfalso
      omega
    | succ fU ih4 =>
      intro n t hfl i1 i2 H locs ls Z hl
      refine lv_iload_n S.1 S.2.1 dX12_weightOf_4 rfl (lv_at hl 0 rfl) ?_
      refine lv_bipush (v := 12) S.1 S.2.1 dX12_weightOf_5 (by decide) ?_
      refine lv_icmp_ge (tgt := 37) S.1 S.2.1 dX12_weightOf_7 (by decide) (fun c_1 => ?_) (fun c_1 => ?_)
      · skip
        have c_1 : 12 ≤ t := (nI_leI (a := 12) (b := t) (by omega) (by omega)).mp c_1
        refine lv_iload_n S.1 S.2.1 dX12_weightOf_37 rfl (lv_at hl 1 rfl) ?_
        refine uret_i S hK Z hre hlk dX12_weightOf_38 ?_
        rw [i2, show t = 12 from by omega]
        exact ⟨rfl, rfl⟩
      · skip
        have c_1 : ¬ 12 ≤ t := fun z9 => c_1 ((nI_leI (a := 12) (b := t) (by omega) (by omega)).mpr z9)
        refine lv_iload_n S.1 S.2.1 dX12_weightOf_10 rfl (lv_at hl 1 rfl) ?_
        refine lv_iload_n S.1 S.2.1 dX12_weightOf_11 rfl (lv_at hl 3 rfl) ?_
        refine lv_iload_n S.1 S.2.1 dX12_weightOf_12 rfl (lv_at hl 0 rfl) ?_
        refine uc_Si (As := [.int (nI e), .int (nI t)]) (rest := [.int (nI n)]) S hK hA Z (c_X12_has l G e t (by omega) (by omega) M) (va_cwS 2 S.2.2.2.2 gX12_weightOf_X12_has rfl rfl rfl (by decide +kernel) ⟨Nat.le_of_ble_eq_true rfl, Nat.le_of_ble_eq_true rfl⟩) rfl hl.1 rfl (Nat.le_of_ble_eq_true rfl) dX12_weightOf_13 ⟨Nat.zero_le _, Nat.zero_le _⟩ (fun r_2 M_2 H locs hp Z => ?_)
        obtain ⟨⟨rfl, w_2⟩ | ⟨rfl, w_2⟩, hM_2⟩ := hp
        · skip
          rw [hM_2] at Z
          refine lv_if_eq (tgt := 28) S.1 S.2.1 dX12_weightOf_16 (by decide) (fun c => absurd c (by decide)) (fun _ => ?_)
          refine lv_aload_n S.1 S.2.1 dX12_weightOf_19 rfl (lv_at hl 2 rfl) ?_
          refine ug_r S hK Z (j := 3) 75 (by decide) rfl rfl rfl (by decide) iX12_weightOf_X12 qX12_weightOf_19 dX12_weightOf_20 ?_
          refine lv_iload_n S.1 S.2.1 dX12_weightOf_23 rfl (lv_at hl 0 rfl) ?_
          refine ua_ild S hK Z t (by decide) rfl rfl (by omega) dX12_weightOf_24 ?_
          refine utop (y := (nI (w 4 t))) (uMd_r hr t (j := 4) (by decide)) ?_
          refine lv_goto (tgt := 29) S.1 S.2.1 dX12_weightOf_25 (by decide) ?_
          refine lv_iadd S.1 S.2.1 dX12_weightOf_29 ?_
          refine utop (nI_add n (w 4 t)) ?_
          refine lv_istore_n (lv' := [(2, .int (nI (n + (w 4 t)))), (3, .int (nI t)), (0, .ref (G.2.2 71)), (1, .int (nI e))]) S.1 S.2.1 dX12_weightOf_30 rfl hl (by decide) rfl (fun ls hl => ?_)
          refine lv_iinc (v := (nI (t + 1))) (lv' := [(3, .int (nI (t + 1))), (2, .int (nI (n + (w 4 t)))), (0, .ref (G.2.2 71)), (1, .int (nI e))]) S.1 S.2.1 dX12_weightOf_31 hl (k := 1) rfl (u_inc1 t) (by decide) rfl (fun ls hl => ?_)
          refine lv_goto (tgt := 4) S.1 S.2.1 dX12_weightOf_34 (by decide) ?_
          exact ih4 (n + (w 4 t)) (t + 1) (by omega) (by omega) (by
              rw [smS, ← i2]
              first | rw [if_pos (by assumption)] | rw [if_neg (by assumption)]) _ _ _ Z (lv_sub hl [0, 1, 2, 3] rfl)
        · skip
          rw [hM_2] at Z
          refine lv_if_eq (tgt := 28) S.1 S.2.1 dX12_weightOf_16 (by decide) (fun _ => ?_) (fun c => absurd c (by decide))
          refine lv_iconst (v := 0) S.1 S.2.1 dX12_weightOf_28 (by decide) ?_
          refine lv_iadd S.1 S.2.1 dX12_weightOf_29 ?_
          refine utop (nI_add n 0) ?_
          refine lv_istore_n (lv' := [(2, .int (nI (n + 0))), (3, .int (nI t)), (0, .ref (G.2.2 71)), (1, .int (nI e))]) S.1 S.2.1 dX12_weightOf_30 rfl hl (by decide) rfl (fun ls hl => ?_)
          refine lv_iinc (v := (nI (t + 1))) (lv' := [(3, .int (nI (t + 1))), (2, .int (nI (n + 0))), (0, .ref (G.2.2 71)), (1, .int (nI e))]) S.1 S.2.1 dX12_weightOf_31 hl (k := 1) rfl (u_inc1 t) (by decide) rfl (fun ls hl => ?_)
          refine lv_goto (tgt := 4) S.1 S.2.1 dX12_weightOf_34 (by decide) ?_
          exact ih4 (n + 0) (t + 1) (by omega) (by omega) (by
              rw [smS, ← i2]
              first | rw [if_pos (by assumption)] | rw [if_neg (by assumption)]) _ _ _ Z (lv_sub hl [0, 1, 2, 3] rfl)
  exact LP4 13 0 0 (by omega) (by omega) (by rfl) _ _ _ Z (lv_sub hl [0, 1, 2, 3] rfl)
set_option maxHeartbeats 4000000 in
set_option maxRecDepth 100000 in
theorem c_X12_notWith (l : Launch) (G : uG) (k : Nat) (hk : k < 8) (M : uM) (w : Nat → Nat → Nat) (hr : uMd M w) (hw : wOk w) : CTi l G yX12_notWith wsX12_notWith 0 0 [.ref (G.2.2 71), .int (nI k)] M (fun r M2 => r = nI (nW w k 12) ∧ M2 = M) := by
  refine ustart_i (cc := cX12_notWith) (maxL := 4) (ret := (some .int)) (own := RX12) rfl (by decide) rfl (Nat.le_of_ble_eq_true rfl) ?_
  intro xp xe xs xm xa xb xt xc xA ls S hK hA Z hre hlk hl
  have hl : lv_has ls 4 [(0, .ref (G.2.2 71)), (1, .int (nI k))] := hl
  refine lv_iconst (v := 0) S.1 S.2.1 dX12_notWith_0 (by decide) ?_
  refine lv_istore_n (lv' := [(2, .int 0), (0, .ref (G.2.2 71)), (1, .int (nI k))]) S.1 S.2.1 dX12_notWith_1 rfl hl (by decide) rfl (fun ls hl => ?_)
  refine lv_iconst (v := 0) S.1 S.2.1 dX12_notWith_2 (by decide) ?_
  refine lv_istore_n (lv' := [(3, .int 0), (2, .int 0), (0, .ref (G.2.2 71)), (1, .int (nI k))]) S.1 S.2.1 dX12_notWith_3 rfl hl (by decide) rfl (fun ls hl => ?_)
  have LP4 : ∀ (fU : Nat) (n : Nat) (t : Nat), (12 < t + fU) → (t ≤ 12) → (n = nW w k t) → ∀ (H : Heap) (locs : List Loc) (ls : Array Slot), uZ G xA M xs.heap H locs → lv_has ls 4 [(3, .int (nI t)), (2, .int (nI n)), (0, .ref (G.2.2 71)), (1, .int (nI k))] → W xp l xe (uRm 0 0) xs xm xa xb xt xc H locs 0 0 (MQ xb (va_Qi (fun r M2 => r = nI (nW w k 12) ∧ M2 = M) (fun M' t => uB G M' t) xA) xa xs 0 0 xA) (F0 xm 4 ls []) := by
    intro fU
    induction fU with
    | zero =>
      intro n t hfl i1 i2 H locs ls Z hl
      exfalso
      omega
    | succ fU ih4 =>
      intro n t hfl i1 i2 H locs ls Z hl
      refine lv_iload_n S.1 S.2.1 dX12_notWith_4 rfl (lv_at hl 0 rfl) ?_
      refine lv_bipush (v := 12) S.1 S.2.1 dX12_notWith_5 (by decide) ?_
      refine lv_icmp_ge (tgt := 36) S.1 S.2.1 dX12_notWith_7 (by decide) (fun c_1 => ?_) (fun c_1 => ?_)
      · skip
        have c_1 : 12 ≤ t := (nI_leI (a := 12) (b := t) (by omega) (by omega)).mp c_1
        refine lv_iload_n S.1 S.2.1 dX12_notWith_36 rfl (lv_at hl 1 rfl) ?_
        refine uret_i S hK Z hre hlk dX12_notWith_37 ?_
        rw [i2, show t = 12 from by omega]
        exact ⟨rfl, rfl⟩
      · skip
        have c_1 : ¬ 12 ≤ t := fun z9 => c_1 ((nI_leI (a := 12) (b := t) (by omega) (by omega)).mpr z9)
        have i4 := (hw.1 t (by omega)).1
        refine lv_iload_n S.1 S.2.1 dX12_notWith_10 rfl (lv_at hl 1 rfl) ?_
        refine lv_aload_n S.1 S.2.1 dX12_notWith_11 rfl (lv_at hl 2 rfl) ?_
        refine ug_r S hK Z (j := 0) 72 (by decide) rfl rfl rfl (by decide) iX12_notWith_X12 qX12_notWith_7 dX12_notWith_12 ?_
        refine lv_iload_n S.1 S.2.1 dX12_notWith_15 rfl (lv_at hl 0 rfl) ?_
        refine ua_ild S hK Z t (by decide) rfl rfl (by omega) dX12_notWith_16 ?_
        refine utop (y := (nI (w 1 t))) (uMd_r hr t (j := 1) (by decide)) ?_
        refine lv_iload_n S.1 S.2.1 dX12_notWith_17 rfl (lv_at hl 3 rfl) ?_
        refine lv_icmp_ne (tgt := 25) S.1 S.2.1 dX12_notWith_18 (by decide) (fun c_2 => ?_) (fun c_2 => ?_)
        · skip
          have c_2 : ¬ (w 1 t) = k := fun z9 => c_2 ((nI_eq (a := (w 1 t)) (b := k) (by omega) (by omega)).mpr z9)
          refine lv_iconst (v := 1) S.1 S.2.1 dX12_notWith_25 (by decide) ?_
          refine lv_iload_n S.1 S.2.1 dX12_notWith_26 rfl (lv_at hl 0 rfl) ?_
          refine lv_ishl S.1 S.2.1 dX12_notWith_27 ?_
          refine utop (u_shl1 (k := t) (by omega)) ?_
          refine lv_ior S.1 S.2.1 dX12_notWith_28 ?_
          refine utop (nx_or n (2 ^ t)) ?_
          refine lv_istore_n (lv' := [(2, .int (nI (n ||| (2 ^ t)))), (3, .int (nI t)), (0, .ref (G.2.2 71)), (1, .int (nI k))]) S.1 S.2.1 dX12_notWith_29 rfl hl (by decide) rfl (fun ls hl => ?_)
          refine lv_iinc (v := (nI (t + 1))) (lv' := [(3, .int (nI (t + 1))), (2, .int (nI (n ||| (2 ^ t)))), (0, .ref (G.2.2 71)), (1, .int (nI k))]) S.1 S.2.1 dX12_notWith_30 hl (k := 1) rfl (u_inc1 t) (by decide) rfl (fun ls hl => ?_)
          refine lv_goto (tgt := 4) S.1 S.2.1 dX12_notWith_33 (by decide) ?_
          exact ih4 (n ||| (2 ^ t)) (t + 1) (by omega) (by omega) (by
              rw [nW, ← i2]
              first | rw [if_pos (by assumption)] | rw [if_neg (by assumption)]) _ _ _ Z (lv_sub hl [0, 1, 2, 3] rfl)
        · skip
          have c_2 : (w 1 t) = k := (nI_eq (a := (w 1 t)) (b := k) (by omega) (by omega)).mp c_2
          refine lv_iconst (v := 0) S.1 S.2.1 dX12_notWith_21 (by decide) ?_
          refine lv_goto (tgt := 28) S.1 S.2.1 dX12_notWith_22 (by decide) ?_
          refine lv_ior S.1 S.2.1 dX12_notWith_28 ?_
          refine utop (nx_or n 0) ?_
          refine lv_istore_n (lv' := [(2, .int (nI (n ||| 0))), (3, .int (nI t)), (0, .ref (G.2.2 71)), (1, .int (nI k))]) S.1 S.2.1 dX12_notWith_29 rfl hl (by decide) rfl (fun ls hl => ?_)
          refine lv_iinc (v := (nI (t + 1))) (lv' := [(3, .int (nI (t + 1))), (2, .int (nI (n ||| 0))), (0, .ref (G.2.2 71)), (1, .int (nI k))]) S.1 S.2.1 dX12_notWith_30 hl (k := 1) rfl (u_inc1 t) (by decide) rfl (fun ls hl => ?_)
          refine lv_goto (tgt := 4) S.1 S.2.1 dX12_notWith_33 (by decide) ?_
          exact ih4 (n ||| 0) (t + 1) (by omega) (by omega) (by
              rw [nW, ← i2]
              first | rw [if_pos (by assumption)] | rw [if_neg (by assumption)]) _ _ _ Z (lv_sub hl [0, 1, 2, 3] rfl)
  exact LP4 13 0 0 (by omega) (by omega) (by rfl) _ _ _ Z (lv_sub hl [0, 1, 2, 3] rfl)
set_option maxHeartbeats 4000000 in
set_option maxRecDepth 100000 in
theorem c_X12_sack (l : Launch) (G : uG) (x c h : Int32) (M : uM) (w : Nat → Nat → Nat) (hr : uMd M w) (hw : wOk w) : CTi l G yX12_sack wsX12_sack 2 45 [.ref (G.2.2 71), .int x, .int c, .int h] M (fun r M2 => r = spSack w x c h ∧ M2 = M) := by
  refine ustart_i (cc := cX12_sack) (maxL := 10) (ret := (some .int)) (own := RX12) rfl (by decide) rfl (Nat.le_of_ble_eq_true rfl) ?_
  intro xp xe xs xm xa xb xt xc xA ls S hK hA Z hre hlk hl
  have hl : lv_has ls 10 [(0, .ref (G.2.2 71)), (1, .int x), (2, .int c), (3, .int h)] := hl
  refine lv_iload_n S.1 S.2.1 dX12_sack_0 rfl (lv_at hl 1 rfl) ?_
  refine uc_Si (As := [.int x]) (rest := []) S hK hA Z (c_X12_isOne l G x M) (va_cwS 1 S.2.2.2.2 gX12_sack_X12_isOne rfl rfl rfl (by decide +kernel) ⟨Nat.le_of_ble_eq_true rfl, Nat.le_of_ble_eq_true rfl⟩) rfl hl.1 rfl (Nat.le_of_ble_eq_true rfl) dX12_sack_1 ⟨Nat.zero_le _, Nat.zero_le _⟩ (fun r_1 M_1 H locs hp Z => ?_)
  obtain ⟨⟨rfl, w_1⟩ | ⟨rfl, w_1⟩, hM_1⟩ := hp
  · skip
    rw [hM_1] at Z
    refine lv_if_ne (tgt := 9) S.1 S.2.1 dX12_sack_4 (by decide) (fun _ => ?_) (fun c => absurd c (by decide))
    refine lv_iload_n S.1 S.2.1 dX12_sack_9 rfl (lv_at hl 2 rfl) ?_
    refine lv_i2l (v := c.toInt64) S.1 S.2.1 dX12_sack_10 rfl ?_
    refine lv_lconst (v := 0) S.1 S.2.1 dX12_sack_11 (by decide) ?_
    refine lv_ldc2 (v := 99) S.1 S.2.1 S.2.2.2.1 (S.2.2.2.2 _ qX12_sack_105) dX12_sack_12 ?_
    refine uc_Si (As := [.long c.toInt64, .long 0, .long 99]) (rest := []) S hK hA Z (c_X12_in l G c 0 99 _ _ _ rfl (by decide) (by decide) M) (va_cwS 3 S.2.2.2.2 gX12_sack_X12_in rfl rfl rfl (by decide +kernel) ⟨Nat.le_of_ble_eq_true rfl, Nat.le_of_ble_eq_true rfl⟩) rfl hl.1 rfl (Nat.le_of_ble_eq_true rfl) dX12_sack_15 ⟨Nat.zero_le _, Nat.zero_le _⟩ (fun r_3 M_3 H locs hp Z => ?_)
    obtain ⟨⟨rfl, w_3⟩ | ⟨rfl, w_3⟩, hM_3⟩ := hp
    · skip
      rw [hM_3] at Z
      refine lv_if_eq (tgt := 31) S.1 S.2.1 dX12_sack_18 (by decide) (fun c => absurd c (by decide)) (fun _ => ?_)
      refine lv_iload_n S.1 S.2.1 dX12_sack_21 rfl (lv_at hl 3 rfl) ?_
      refine lv_i2l (v := h.toInt64) S.1 S.2.1 dX12_sack_22 rfl ?_
      refine lv_lconst (v := 0) S.1 S.2.1 dX12_sack_23 (by decide) ?_
      refine lv_lconst (v := 1) S.1 S.2.1 dX12_sack_24 (by decide) ?_
      refine uc_Si (As := [.long h.toInt64, .long 0, .long 1]) (rest := []) S hK hA Z (c_X12_in l G h 0 1 _ _ _ rfl (by decide) (by decide) M) (va_cwS 3 S.2.2.2.2 gX12_sack_X12_in rfl rfl rfl (by decide +kernel) ⟨Nat.le_of_ble_eq_true rfl, Nat.le_of_ble_eq_true rfl⟩) rfl hl.1 rfl (Nat.le_of_ble_eq_true rfl) dX12_sack_25 ⟨Nat.zero_le _, Nat.zero_le _⟩ (fun r_5 M_5 H locs hp Z => ?_)
      obtain ⟨⟨rfl, w_5⟩ | ⟨rfl, w_5⟩, hM_5⟩ := hp
      · skip
        rw [hM_5] at Z
        refine lv_if_ne (tgt := 34) S.1 S.2.1 dX12_sack_28 (by decide) (fun _ => ?_) (fun c => absurd c (by decide))
        obtain ⟨k, hk, rfl⟩ := u_in0 (n := 7) (show inr x 0 7 by assumption) (by decide)
        obtain ⟨c0, hc0, rfl⟩ := u_in0 (n := 99) (show inr c 0 99 by assumption) (by decide)
        have hnl := nW_lt w k 12
        have e12 : (2 : Nat) ^ 12 = 4096 := rfl
        refine lv_aload_n S.1 S.2.1 dX12_sack_34 rfl (lv_at hl 0 rfl) ?_
        refine lv_iload_n S.1 S.2.1 dX12_sack_35 rfl (lv_at hl 1 rfl) ?_
        refine ud_Vi (As := [.int (nI k)]) (rest := []) S hK hA Z (c_X12_notWith l G k (by omega) M w hr hw) (cwV 1 S.2.2.2.2 gX12_sack_X12_notWith rfl rfl rfl (by decide +kernel) ⟨Nat.le_of_ble_eq_true rfl, Nat.le_of_ble_eq_true rfl⟩) (by decide) rfl rfl rfl hl.1 rfl (Nat.le_of_ble_eq_true rfl) dX12_sack_36 ⟨Nat.zero_le _, Nat.zero_le _⟩ (fun H locs Z => ?_)
        refine lv_istore (lv' := [(4, .int (nI (nW w k 12))), (0, .ref (G.2.2 71)), (1, .int (nI k)), (2, .int (nI c0)), (3, .int h)]) S.1 S.2.1 dX12_sack_39 hl (by decide) rfl (fun ls hl => ?_)
        refine lv_iconst (v := 0) S.1 S.2.1 dX12_sack_41 (by decide) ?_
        refine lv_istore (lv' := [(5, .int 0), (4, .int (nI (nW w k 12))), (0, .ref (G.2.2 71)), (1, .int (nI k)), (2, .int (nI c0)), (3, .int h)]) S.1 S.2.1 dX12_sack_42 hl (by decide) rfl (fun ls hl => ?_)
        refine lv_iconst (v := 0) S.1 S.2.1 dX12_sack_44 (by decide) ?_
        refine lv_istore (lv' := [(6, .int 0), (5, .int 0), (4, .int (nI (nW w k 12))), (0, .ref (G.2.2 71)), (1, .int (nI k)), (2, .int (nI c0)), (3, .int h)]) S.1 S.2.1 dX12_sack_45 hl (by decide) rfl (fun ls hl => ?_)
        refine lv_iconst (v := 1) S.1 S.2.1 dX12_sack_47 (by decide) ?_
        refine lv_istore (lv' := [(7, .int 1), (6, .int 0), (5, .int 0), (4, .int (nI (nW w k 12))), (0, .ref (G.2.2 71)), (1, .int (nI k)), (2, .int (nI c0)), (3, .int h)]) S.1 S.2.1 dX12_sack_48 hl (by decide) rfl (fun ls hl => ?_)
        have LP50 : ∀ (fU : Nat) (b : Nat) (m : Nat) (e : Nat), (4096 < e + fU) → (1 ≤ e ∧ e ≤ 4096) → (m ≤ 1188) → ((m, b) = skS w k c0 e) → ∀ (H : Heap) (locs : List Loc) (ls : Array Slot), uZ G xA M xs.heap H locs → lv_has ls 10 [(7, .int (nI e)), (6, .int (nI m)), (5, .int (nI b)), (4, .int (nI (nW w k 12))), (0, .ref (G.2.2 71)), (1, .int (nI k)), (2, .int (nI c0)), (3, .int h)] → W xp l xe (uRm 2 45) xs xm xa xb xt xc H locs 0 0 (MQ xb (va_Qi (fun r M2 => r = spSack w (nI k) (nI c0) h ∧ M2 = M) (fun M' t => uB G M' t) xA) xa xs 0 0 xA) (F0 xm 50 ls []) := by
          intro fU
          induction fU with
          | zero =>
            intro b m e hfl i1 i3 i2 H locs ls Z hl
            exfalso
            omega
          | succ fU ih50 =>
            intro b m e hfl i1 i3 i2 H locs ls Z hl
            refine lv_iload S.1 S.2.1 dX12_sack_50 (lv_at hl 0 rfl) ?_
            refine lv_sipush (v := 4096) S.1 S.2.1 dX12_sack_52 (by decide) ?_
            refine lv_icmp_ge (tgt := 140) S.1 S.2.1 dX12_sack_55 (by decide) (fun c_8 => ?_) (fun c_8 => ?_)
            · skip
              have c_8 : 4096 ≤ e := (nI_leI (a := 4096) (b := e) (by omega) (by omega)).mp c_8
              refine lv_iload_n S.1 S.2.1 dX12_sack_140 rfl (lv_at hl 7 rfl) ?_
              refine lv_if_ne (tgt := 149) S.1 S.2.1 dX12_sack_141 (by decide) (fun c_9 => ?_) (fun c_9 => ?_)
              · skip
                refine lv_iload S.1 S.2.1 dX12_sack_149 (lv_at hl 2 rfl) ?_
                refine uret_i S hK Z hre hlk dX12_sack_151 ?_
                have e9 : skS w k c0 4096 = (m, b) := by
                  rw [i2, show e = 4096 from by omega]
                rw [skS_dp hw] at e9
                rw [spSack, if_neg (not_not_intro (by assumption)), if_neg (u_no2 (by assumption) (by assumption)), nI_clamp (show k < 2 ^ 31 by omega), nI_clamp (show c0 < 2 ^ 31 by omega), if_neg (show ¬ h = 0 by assumption)]
                exact ⟨congrArg nI (congrArg Prod.snd e9).symm, rfl⟩
              · skip
                refine lv_iload S.1 S.2.1 dX12_sack_144 (lv_at hl 1 rfl) ?_
                refine lv_goto (tgt := 151) S.1 S.2.1 dX12_sack_146 (by decide) ?_
                refine uret_i S hK Z hre hlk dX12_sack_151 ?_
                have e9 : skS w k c0 4096 = (m, b) := by
                  rw [i2, show e = 4096 from by omega]
                rw [skS_dp hw] at e9
                rw [spSack, if_neg (not_not_intro (by assumption)), if_neg (u_no2 (by assumption) (by assumption)), nI_clamp (show k < 2 ^ 31 by omega), nI_clamp (show c0 < 2 ^ 31 by omega), if_pos (show h = 0 by assumption)]
                exact ⟨congrArg nI (congrArg Prod.fst e9).symm, rfl⟩
            · skip
              have c_8 : ¬ 4096 ≤ e := fun z9 => c_8 ((nI_leI (a := 4096) (b := e) (by omega) (by omega)).mpr z9)
              have he4 : e < 4096 := by omega
              refine lv_iload S.1 S.2.1 dX12_sack_58 (lv_at hl 0 rfl) ?_
              refine lv_iload S.1 S.2.1 dX12_sack_60 (lv_at hl 3 rfl) ?_
              refine lv_iconst (v := (-1)) S.1 S.2.1 dX12_sack_62 (by decide) ?_
              refine lv_ixor S.1 S.2.1 dX12_sack_63 ?_
              refine lv_iand S.1 S.2.1 dX12_sack_64 ?_
              refine lv_if_ne (tgt := 82) S.1 S.2.1 dX12_sack_65 (by decide) (fun c_10 => ?_) (fun c_10 => ?_)
              · skip
                refine lv_iconst (v := 0) S.1 S.2.1 dX12_sack_82 (by decide) ?_
                refine lv_istore (lv' := [(8, .int 0), (7, .int (nI e)), (6, .int (nI m)), (5, .int (nI b)), (4, .int (nI (nW w k 12))), (0, .ref (G.2.2 71)), (1, .int (nI k)), (2, .int (nI c0)), (3, .int h)]) S.1 S.2.1 dX12_sack_83 hl (by decide) rfl (fun ls hl => ?_)
                refine lv_iload S.1 S.2.1 dX12_sack_85 (lv_at hl 0 rfl) ?_
                refine lv_if_eq (tgt := 99) S.1 S.2.1 dX12_sack_87 (by decide) (fun _ => ?_) (fun c => absurd c (by decide))
                refine lv_iconst (v := 0) S.1 S.2.1 dX12_sack_99 (by decide) ?_
                refine lv_istore (lv' := [(9, .int 0), (8, .int 0), (7, .int (nI e)), (6, .int (nI m)), (5, .int (nI b)), (4, .int (nI (nW w k 12))), (0, .ref (G.2.2 71)), (1, .int (nI k)), (2, .int (nI c0)), (3, .int h)]) S.1 S.2.1 dX12_sack_100 hl (by decide) rfl (fun ls hl => ?_)
                have hv : skV w k c0 e = 0 := if_neg (fun z => by first | exact absurd ((u_sub he4).mpr z.1) (by assumption) | (have z2 := z.2; omega))
                refine lv_iload S.1 S.2.1 dX12_sack_102 (lv_at hl 0 rfl) ?_
                refine lv_iload S.1 S.2.1 dX12_sack_104 (lv_at hl 3 rfl) ?_
                refine lv_icmp_le (tgt := 114) S.1 S.2.1 dX12_sack_106 (by decide) (fun c_12 => ?_) (fun c_12 => ?_)
                · skip
                  have c_12 : 0 ≤ m := (nI_leI (a := 0) (b := m) (by omega) (by omega)).mp c_12
                  refine lv_iload S.1 S.2.1 dX12_sack_114 (lv_at hl 4 rfl) ?_
                  refine lv_istore (lv' := [(5, .int (nI b)), (9, .int 0), (8, .int 0), (7, .int (nI e)), (6, .int (nI m)), (4, .int (nI (nW w k 12))), (0, .ref (G.2.2 71)), (1, .int (nI k)), (2, .int (nI c0)), (3, .int h)]) S.1 S.2.1 dX12_sack_116 hl (by decide) rfl (fun ls hl => ?_)
                  refine lv_iload S.1 S.2.1 dX12_sack_118 (lv_at hl 1 rfl) ?_
                  refine lv_iload S.1 S.2.1 dX12_sack_120 (lv_at hl 4 rfl) ?_
                  refine lv_icmp_le (tgt := 130) S.1 S.2.1 dX12_sack_122 (by decide) (fun c_13 => ?_) (fun c_13 => ?_)
                  · skip
                    have c_13 : 0 ≤ m := (nI_leI (a := 0) (b := m) (by omega) (by omega)).mp c_13
                    refine lv_iload S.1 S.2.1 dX12_sack_130 (lv_at hl 4 rfl) ?_
                    refine lv_istore (lv' := [(6, .int (nI m)), (5, .int (nI b)), (9, .int 0), (8, .int 0), (7, .int (nI e)), (4, .int (nI (nW w k 12))), (0, .ref (G.2.2 71)), (1, .int (nI k)), (2, .int (nI c0)), (3, .int h)]) S.1 S.2.1 dX12_sack_132 hl (by decide) rfl (fun ls hl => ?_)
                    refine lv_iinc (v := (nI (e + 1))) (lv' := [(7, .int (nI (e + 1))), (6, .int (nI m)), (5, .int (nI b)), (9, .int 0), (8, .int 0), (4, .int (nI (nW w k 12))), (0, .ref (G.2.2 71)), (1, .int (nI k)), (2, .int (nI c0)), (3, .int h)]) S.1 S.2.1 dX12_sack_134 hl (k := 4) rfl (u_inc1 e) (by decide) rfl (fun ls hl => ?_)
                    refine lv_goto (tgt := 50) S.1 S.2.1 dX12_sack_137 (by decide) ?_
                    exact ih50 b m (e + 1) (by omega) (by omega) (by omega) (by
                        first
                          | (exfalso; omega)
                          | (rw [skS, ← i2, hv]
                             dsimp only
                             first | rw [if_pos (by omega)] | rw [if_neg (by omega)])) _ _ _ Z (lv_sub hl [0, 1, 2, 5, 6, 7, 8, 9] rfl)
                  · skip
                    have c_13 : ¬ 0 ≤ m := fun z9 => c_13 ((nI_leI (a := 0) (b := m) (by omega) (by omega)).mpr z9)
                    refine lv_iload S.1 S.2.1 dX12_sack_125 (lv_at hl 1 rfl) ?_
                    refine lv_goto (tgt := 132) S.1 S.2.1 dX12_sack_127 (by decide) ?_
                    refine lv_istore (lv' := [(6, .int 0), (5, .int (nI b)), (9, .int 0), (8, .int 0), (7, .int (nI e)), (4, .int (nI (nW w k 12))), (0, .ref (G.2.2 71)), (1, .int (nI k)), (2, .int (nI c0)), (3, .int h)]) S.1 S.2.1 dX12_sack_132 hl (by decide) rfl (fun ls hl => ?_)
                    refine lv_iinc (v := (nI (e + 1))) (lv' := [(7, .int (nI (e + 1))), (6, .int 0), (5, .int (nI b)), (9, .int 0), (8, .int 0), (4, .int (nI (nW w k 12))), (0, .ref (G.2.2 71)), (1, .int (nI k)), (2, .int (nI c0)), (3, .int h)]) S.1 S.2.1 dX12_sack_134 hl (k := 4) rfl (u_inc1 e) (by decide) rfl (fun ls hl => ?_)
                    refine lv_goto (tgt := 50) S.1 S.2.1 dX12_sack_137 (by decide) ?_
                    exact ih50 b 0 (e + 1) (by omega) (by omega) (by omega) (by
                        first
                          | (exfalso; omega)
                          | (rw [skS, ← i2, hv]
                             dsimp only
                             first | rw [if_pos (by omega)] | rw [if_neg (by omega)])) _ _ _ Z (lv_sub hl [0, 1, 2, 5, 6, 7, 8, 9] rfl)
                · skip
                  have c_12 : ¬ 0 ≤ m := fun z9 => c_12 ((nI_leI (a := 0) (b := m) (by omega) (by omega)).mpr z9)
                  refine lv_iload S.1 S.2.1 dX12_sack_109 (lv_at hl 2 rfl) ?_
                  refine lv_goto (tgt := 116) S.1 S.2.1 dX12_sack_111 (by decide) ?_
                  refine lv_istore (lv' := [(5, .int (nI e)), (9, .int 0), (8, .int 0), (7, .int (nI e)), (6, .int (nI m)), (4, .int (nI (nW w k 12))), (0, .ref (G.2.2 71)), (1, .int (nI k)), (2, .int (nI c0)), (3, .int h)]) S.1 S.2.1 dX12_sack_116 hl (by decide) rfl (fun ls hl => ?_)
                  refine lv_iload S.1 S.2.1 dX12_sack_118 (lv_at hl 1 rfl) ?_
                  refine lv_iload S.1 S.2.1 dX12_sack_120 (lv_at hl 4 rfl) ?_
                  refine lv_icmp_le (tgt := 130) S.1 S.2.1 dX12_sack_122 (by decide) (fun c_14 => ?_) (fun c_14 => ?_)
                  · skip
                    have c_14 : 0 ≤ m := (nI_leI (a := 0) (b := m) (by omega) (by omega)).mp c_14
                    refine lv_iload S.1 S.2.1 dX12_sack_130 (lv_at hl 4 rfl) ?_
                    refine lv_istore (lv' := [(6, .int (nI m)), (5, .int (nI e)), (9, .int 0), (8, .int 0), (7, .int (nI e)), (4, .int (nI (nW w k 12))), (0, .ref (G.2.2 71)), (1, .int (nI k)), (2, .int (nI c0)), (3, .int h)]) S.1 S.2.1 dX12_sack_132 hl (by decide) rfl (fun ls hl => ?_)
                    refine lv_iinc (v := (nI (e + 1))) (lv' := [(7, .int (nI (e + 1))), (6, .int (nI m)), (5, .int (nI e)), (9, .int 0), (8, .int 0), (4, .int (nI (nW w k 12))), (0, .ref (G.2.2 71)), (1, .int (nI k)), (2, .int (nI c0)), (3, .int h)]) S.1 S.2.1 dX12_sack_134 hl (k := 4) rfl (u_inc1 e) (by decide) rfl (fun ls hl => ?_)
                    refine lv_goto (tgt := 50) S.1 S.2.1 dX12_sack_137 (by decide) ?_
                    exact ih50 e m (e + 1) (by omega) (by omega) (by omega) (by
                        first
                          | (exfalso; omega)
                          | (rw [skS, ← i2, hv]
                             dsimp only
                             first | rw [if_pos (by omega)] | rw [if_neg (by omega)])) _ _ _ Z (lv_sub hl [0, 1, 2, 5, 6, 7, 8, 9] rfl)
                  · skip
                    have c_14 : ¬ 0 ≤ m := fun z9 => c_14 ((nI_leI (a := 0) (b := m) (by omega) (by omega)).mpr z9)
                    refine lv_iload S.1 S.2.1 dX12_sack_125 (lv_at hl 1 rfl) ?_
                    refine lv_goto (tgt := 132) S.1 S.2.1 dX12_sack_127 (by decide) ?_
                    refine lv_istore (lv' := [(6, .int 0), (5, .int (nI e)), (9, .int 0), (8, .int 0), (7, .int (nI e)), (4, .int (nI (nW w k 12))), (0, .ref (G.2.2 71)), (1, .int (nI k)), (2, .int (nI c0)), (3, .int h)]) S.1 S.2.1 dX12_sack_132 hl (by decide) rfl (fun ls hl => ?_)
                    refine lv_iinc (v := (nI (e + 1))) (lv' := [(7, .int (nI (e + 1))), (6, .int 0), (5, .int (nI e)), (9, .int 0), (8, .int 0), (4, .int (nI (nW w k 12))), (0, .ref (G.2.2 71)), (1, .int (nI k)), (2, .int (nI c0)), (3, .int h)]) S.1 S.2.1 dX12_sack_134 hl (k := 4) rfl (u_inc1 e) (by decide) rfl (fun ls hl => ?_)
                    refine lv_goto (tgt := 50) S.1 S.2.1 dX12_sack_137 (by decide) ?_
                    exact ih50 e 0 (e + 1) (by omega) (by omega) (by omega) (by
                        first
                          | (exfalso; omega)
                          | (rw [skS, ← i2, hv]
                             dsimp only
                             first | rw [if_pos (by omega)] | rw [if_neg (by omega)])) _ _ _ Z (lv_sub hl [0, 1, 2, 5, 6, 7, 8, 9] rfl)
              · skip
                refine lv_aload_n S.1 S.2.1 dX12_sack_68 rfl (lv_at hl 4 rfl) ?_
                refine lv_iload S.1 S.2.1 dX12_sack_69 (lv_at hl 0 rfl) ?_
                refine ud_Vi (As := [.int (nI e)]) (rest := []) S hK hA Z (c_X12_weightOf l G e (by omega) M w hr hw) (cwV 1 S.2.2.2.2 gX12_sack_X12_weightOf rfl rfl rfl (by decide +kernel) ⟨Nat.le_of_ble_eq_true rfl, Nat.le_of_ble_eq_true rfl⟩) (by decide) rfl rfl rfl hl.1 rfl (Nat.le_of_ble_eq_true rfl) dX12_sack_71 ⟨Nat.zero_le _, Nat.zero_le _⟩ (fun H locs Z => ?_)
                have hwt := smS_le (v := w 4) (st := e) (b := 9) 12 (fun x hx => (hw.1 x hx).2.2.2.2)
                refine lv_iload_n S.1 S.2.1 dX12_sack_74 rfl (lv_at hl 6 rfl) ?_
                refine lv_icmp_gt (tgt := 82) S.1 S.2.1 dX12_sack_75 (by decide) (fun c_16 => ?_) (fun c_16 => ?_)
                · skip
                  have c_16 : c0 < (smS (w 4) e 12) := (nI_ltI (a := c0) (b := (smS (w 4) e 12)) (by omega) (by omega)).mp c_16
                  refine lv_iconst (v := 0) S.1 S.2.1 dX12_sack_82 (by decide) ?_
                  refine lv_istore (lv' := [(8, .int 0), (7, .int (nI e)), (6, .int (nI m)), (5, .int (nI b)), (4, .int (nI (nW w k 12))), (0, .ref (G.2.2 71)), (1, .int (nI k)), (2, .int (nI c0)), (3, .int h)]) S.1 S.2.1 dX12_sack_83 hl (by decide) rfl (fun ls hl => ?_)
                  refine lv_iload S.1 S.2.1 dX12_sack_85 (lv_at hl 0 rfl) ?_
                  refine lv_if_eq (tgt := 99) S.1 S.2.1 dX12_sack_87 (by decide) (fun _ => ?_) (fun c => absurd c (by decide))
                  refine lv_iconst (v := 0) S.1 S.2.1 dX12_sack_99 (by decide) ?_
                  refine lv_istore (lv' := [(9, .int 0), (8, .int 0), (7, .int (nI e)), (6, .int (nI m)), (5, .int (nI b)), (4, .int (nI (nW w k 12))), (0, .ref (G.2.2 71)), (1, .int (nI k)), (2, .int (nI c0)), (3, .int h)]) S.1 S.2.1 dX12_sack_100 hl (by decide) rfl (fun ls hl => ?_)
                  have hv : skV w k c0 e = 0 := if_neg (fun z => by first | exact absurd ((u_sub he4).mpr z.1) (by assumption) | (have z2 := z.2; omega))
                  refine lv_iload S.1 S.2.1 dX12_sack_102 (lv_at hl 0 rfl) ?_
                  refine lv_iload S.1 S.2.1 dX12_sack_104 (lv_at hl 3 rfl) ?_
                  refine lv_icmp_le (tgt := 114) S.1 S.2.1 dX12_sack_106 (by decide) (fun c_18 => ?_) (fun c_18 => ?_)
                  · skip
                    have c_18 : 0 ≤ m := (nI_leI (a := 0) (b := m) (by omega) (by omega)).mp c_18
                    refine lv_iload S.1 S.2.1 dX12_sack_114 (lv_at hl 4 rfl) ?_
                    refine lv_istore (lv' := [(5, .int (nI b)), (9, .int 0), (8, .int 0), (7, .int (nI e)), (6, .int (nI m)), (4, .int (nI (nW w k 12))), (0, .ref (G.2.2 71)), (1, .int (nI k)), (2, .int (nI c0)), (3, .int h)]) S.1 S.2.1 dX12_sack_116 hl (by decide) rfl (fun ls hl => ?_)
                    refine lv_iload S.1 S.2.1 dX12_sack_118 (lv_at hl 1 rfl) ?_
                    refine lv_iload S.1 S.2.1 dX12_sack_120 (lv_at hl 4 rfl) ?_
                    refine lv_icmp_le (tgt := 130) S.1 S.2.1 dX12_sack_122 (by decide) (fun c_19 => ?_) (fun c_19 => ?_)
                    · skip
                      have c_19 : 0 ≤ m := (nI_leI (a := 0) (b := m) (by omega) (by omega)).mp c_19
                      refine lv_iload S.1 S.2.1 dX12_sack_130 (lv_at hl 4 rfl) ?_
                      refine lv_istore (lv' := [(6, .int (nI m)), (5, .int (nI b)), (9, .int 0), (8, .int 0), (7, .int (nI e)), (4, .int (nI (nW w k 12))), (0, .ref (G.2.2 71)), (1, .int (nI k)), (2, .int (nI c0)), (3, .int h)]) S.1 S.2.1 dX12_sack_132 hl (by decide) rfl (fun ls hl => ?_)
                      refine lv_iinc (v := (nI (e + 1))) (lv' := [(7, .int (nI (e + 1))), (6, .int (nI m)), (5, .int (nI b)), (9, .int 0), (8, .int 0), (4, .int (nI (nW w k 12))), (0, .ref (G.2.2 71)), (1, .int (nI k)), (2, .int (nI c0)), (3, .int h)]) S.1 S.2.1 dX12_sack_134 hl (k := 4) rfl (u_inc1 e) (by decide) rfl (fun ls hl => ?_)
                      refine lv_goto (tgt := 50) S.1 S.2.1 dX12_sack_137 (by decide) ?_
                      exact ih50 b m (e + 1) (by omega) (by omega) (by omega) (by
                          first
                            | (exfalso; omega)
                            | (rw [skS, ← i2, hv]
                               dsimp only
                               first | rw [if_pos (by omega)] | rw [if_neg (by omega)])) _ _ _ Z (lv_sub hl [0, 1, 2, 5, 6, 7, 8, 9] rfl)
                    · skip
                      have c_19 : ¬ 0 ≤ m := fun z9 => c_19 ((nI_leI (a := 0) (b := m) (by omega) (by omega)).mpr z9)
                      refine lv_iload S.1 S.2.1 dX12_sack_125 (lv_at hl 1 rfl) ?_
                      refine lv_goto (tgt := 132) S.1 S.2.1 dX12_sack_127 (by decide) ?_
                      refine lv_istore (lv' := [(6, .int 0), (5, .int (nI b)), (9, .int 0), (8, .int 0), (7, .int (nI e)), (4, .int (nI (nW w k 12))), (0, .ref (G.2.2 71)), (1, .int (nI k)), (2, .int (nI c0)), (3, .int h)]) S.1 S.2.1 dX12_sack_132 hl (by decide) rfl (fun ls hl => ?_)
                      refine lv_iinc (v := (nI (e + 1))) (lv' := [(7, .int (nI (e + 1))), (6, .int 0), (5, .int (nI b)), (9, .int 0), (8, .int 0), (4, .int (nI (nW w k 12))), (0, .ref (G.2.2 71)), (1, .int (nI k)), (2, .int (nI c0)), (3, .int h)]) S.1 S.2.1 dX12_sack_134 hl (k := 4) rfl (u_inc1 e) (by decide) rfl (fun ls hl => ?_)
                      refine lv_goto (tgt := 50) S.1 S.2.1 dX12_sack_137 (by decide) ?_
                      exact ih50 b 0 (e + 1) (by omega) (by omega) (by omega) (by
                          first
                            | (exfalso; omega)
                            | (rw [skS, ← i2, hv]
                               dsimp only
                               first | rw [if_pos (by omega)] | rw [if_neg (by omega)])) _ _ _ Z (lv_sub hl [0, 1, 2, 5, 6, 7, 8, 9] rfl)
                  · skip
                    have c_18 : ¬ 0 ≤ m := fun z9 => c_18 ((nI_leI (a := 0) (b := m) (by omega) (by omega)).mpr z9)
                    refine lv_iload S.1 S.2.1 dX12_sack_109 (lv_at hl 2 rfl) ?_
                    refine lv_goto (tgt := 116) S.1 S.2.1 dX12_sack_111 (by decide) ?_
                    refine lv_istore (lv' := [(5, .int (nI e)), (9, .int 0), (8, .int 0), (7, .int (nI e)), (6, .int (nI m)), (4, .int (nI (nW w k 12))), (0, .ref (G.2.2 71)), (1, .int (nI k)), (2, .int (nI c0)), (3, .int h)]) S.1 S.2.1 dX12_sack_116 hl (by decide) rfl (fun ls hl => ?_)
                    refine lv_iload S.1 S.2.1 dX12_sack_118 (lv_at hl 1 rfl) ?_
                    refine lv_iload S.1 S.2.1 dX12_sack_120 (lv_at hl 4 rfl) ?_
                    refine lv_icmp_le (tgt := 130) S.1 S.2.1 dX12_sack_122 (by decide) (fun c_20 => ?_) (fun c_20 => ?_)
                    · skip
                      have c_20 : 0 ≤ m := (nI_leI (a := 0) (b := m) (by omega) (by omega)).mp c_20
                      refine lv_iload S.1 S.2.1 dX12_sack_130 (lv_at hl 4 rfl) ?_
                      refine lv_istore (lv' := [(6, .int (nI m)), (5, .int (nI e)), (9, .int 0), (8, .int 0), (7, .int (nI e)), (4, .int (nI (nW w k 12))), (0, .ref (G.2.2 71)), (1, .int (nI k)), (2, .int (nI c0)), (3, .int h)]) S.1 S.2.1 dX12_sack_132 hl (by decide) rfl (fun ls hl => ?_)
                      refine lv_iinc (v := (nI (e + 1))) (lv' := [(7, .int (nI (e + 1))), (6, .int (nI m)), (5, .int (nI e)), (9, .int 0), (8, .int 0), (4, .int (nI (nW w k 12))), (0, .ref (G.2.2 71)), (1, .int (nI k)), (2, .int (nI c0)), (3, .int h)]) S.1 S.2.1 dX12_sack_134 hl (k := 4) rfl (u_inc1 e) (by decide) rfl (fun ls hl => ?_)
                      refine lv_goto (tgt := 50) S.1 S.2.1 dX12_sack_137 (by decide) ?_
                      exact ih50 e m (e + 1) (by omega) (by omega) (by omega) (by
                          first
                            | (exfalso; omega)
                            | (rw [skS, ← i2, hv]
                               dsimp only
                               first | rw [if_pos (by omega)] | rw [if_neg (by omega)])) _ _ _ Z (lv_sub hl [0, 1, 2, 5, 6, 7, 8, 9] rfl)
                    · skip
                      have c_20 : ¬ 0 ≤ m := fun z9 => c_20 ((nI_leI (a := 0) (b := m) (by omega) (by omega)).mpr z9)
                      refine lv_iload S.1 S.2.1 dX12_sack_125 (lv_at hl 1 rfl) ?_
                      refine lv_goto (tgt := 132) S.1 S.2.1 dX12_sack_127 (by decide) ?_
                      refine lv_istore (lv' := [(6, .int 0), (5, .int (nI e)), (9, .int 0), (8, .int 0), (7, .int (nI e)), (4, .int (nI (nW w k 12))), (0, .ref (G.2.2 71)), (1, .int (nI k)), (2, .int (nI c0)), (3, .int h)]) S.1 S.2.1 dX12_sack_132 hl (by decide) rfl (fun ls hl => ?_)
                      refine lv_iinc (v := (nI (e + 1))) (lv' := [(7, .int (nI (e + 1))), (6, .int 0), (5, .int (nI e)), (9, .int 0), (8, .int 0), (4, .int (nI (nW w k 12))), (0, .ref (G.2.2 71)), (1, .int (nI k)), (2, .int (nI c0)), (3, .int h)]) S.1 S.2.1 dX12_sack_134 hl (k := 4) rfl (u_inc1 e) (by decide) rfl (fun ls hl => ?_)
                      refine lv_goto (tgt := 50) S.1 S.2.1 dX12_sack_137 (by decide) ?_
                      exact ih50 e 0 (e + 1) (by omega) (by omega) (by omega) (by
                          first
                            | (exfalso; omega)
                            | (rw [skS, ← i2, hv]
                               dsimp only
                               first | rw [if_pos (by omega)] | rw [if_neg (by omega)])) _ _ _ Z (lv_sub hl [0, 1, 2, 5, 6, 7, 8, 9] rfl)
                · skip
                  have c_16 : ¬ c0 < (smS (w 4) e 12) := fun z9 => c_16 ((nI_ltI (a := c0) (b := (smS (w 4) e 12)) (by omega) (by omega)).mpr z9)
                  refine lv_iconst (v := 1) S.1 S.2.1 dX12_sack_78 (by decide) ?_
                  refine lv_goto (tgt := 83) S.1 S.2.1 dX12_sack_79 (by decide) ?_
                  refine lv_istore (lv' := [(8, .int 1), (7, .int (nI e)), (6, .int (nI m)), (5, .int (nI b)), (4, .int (nI (nW w k 12))), (0, .ref (G.2.2 71)), (1, .int (nI k)), (2, .int (nI c0)), (3, .int h)]) S.1 S.2.1 dX12_sack_83 hl (by decide) rfl (fun ls hl => ?_)
                  refine lv_iload S.1 S.2.1 dX12_sack_85 (lv_at hl 0 rfl) ?_
                  refine lv_if_eq (tgt := 99) S.1 S.2.1 dX12_sack_87 (by decide) (fun c => absurd c (by decide)) (fun _ => ?_)
                  refine lv_aload_n S.1 S.2.1 dX12_sack_90 rfl (lv_at hl 5 rfl) ?_
                  refine lv_iload S.1 S.2.1 dX12_sack_91 (lv_at hl 1 rfl) ?_
                  refine ud_Vi (As := [.int (nI e)]) (rest := []) S hK hA Z (c_X12_worthOf l G e (by omega) M w hr hw) (cwV 1 S.2.2.2.2 gX12_sack_X12_worthOf rfl rfl rfl (by decide +kernel) ⟨Nat.le_of_ble_eq_true rfl, Nat.le_of_ble_eq_true rfl⟩) (by decide) rfl rfl rfl hl.1 rfl (Nat.le_of_ble_eq_true rfl) dX12_sack_93 ⟨Nat.zero_le _, Nat.zero_le _⟩ (fun H locs Z => ?_)
                  have hvl := smS_le (v := w 3) (st := e) (b := 99) 12 (fun x hx => (hw.1 x hx).2.2.1)
                  refine lv_goto (tgt := 100) S.1 S.2.1 dX12_sack_96 (by decide) ?_
                  refine lv_istore (lv' := [(9, .int (nI (smS (w 3) e 12))), (8, .int 1), (7, .int (nI e)), (6, .int (nI m)), (5, .int (nI b)), (4, .int (nI (nW w k 12))), (0, .ref (G.2.2 71)), (1, .int (nI k)), (2, .int (nI c0)), (3, .int h)]) S.1 S.2.1 dX12_sack_100 hl (by decide) rfl (fun ls hl => ?_)
                  have hv : skV w k c0 e = smS (w 3) e 12 := if_pos ⟨(u_sub he4).mp (by assumption), by omega⟩
                  refine lv_iload S.1 S.2.1 dX12_sack_102 (lv_at hl 0 rfl) ?_
                  refine lv_iload S.1 S.2.1 dX12_sack_104 (lv_at hl 3 rfl) ?_
                  refine lv_icmp_le (tgt := 114) S.1 S.2.1 dX12_sack_106 (by decide) (fun c_23 => ?_) (fun c_23 => ?_)
                  · skip
                    have c_23 : (smS (w 3) e 12) ≤ m := (nI_leI (a := (smS (w 3) e 12)) (b := m) (by omega) (by omega)).mp c_23
                    refine lv_iload S.1 S.2.1 dX12_sack_114 (lv_at hl 4 rfl) ?_
                    refine lv_istore (lv' := [(5, .int (nI b)), (9, .int (nI (smS (w 3) e 12))), (8, .int 1), (7, .int (nI e)), (6, .int (nI m)), (4, .int (nI (nW w k 12))), (0, .ref (G.2.2 71)), (1, .int (nI k)), (2, .int (nI c0)), (3, .int h)]) S.1 S.2.1 dX12_sack_116 hl (by decide) rfl (fun ls hl => ?_)
                    refine lv_iload S.1 S.2.1 dX12_sack_118 (lv_at hl 1 rfl) ?_
                    refine lv_iload S.1 S.2.1 dX12_sack_120 (lv_at hl 4 rfl) ?_
                    refine lv_icmp_le (tgt := 130) S.1 S.2.1 dX12_sack_122 (by decide) (fun c_24 => ?_) (fun c_24 => ?_)
                    · skip
                      have c_24 : (smS (w 3) e 12) ≤ m := (nI_leI (a := (smS (w 3) e 12)) (b := m) (by omega) (by omega)).mp c_24
                      refine lv_iload S.1 S.2.1 dX12_sack_130 (lv_at hl 4 rfl) ?_
                      refine lv_istore (lv' := [(6, .int (nI m)), (5, .int (nI b)), (9, .int (nI (smS (w 3) e 12))), (8, .int 1), (7, .int (nI e)), (4, .int (nI (nW w k 12))), (0, .ref (G.2.2 71)), (1, .int (nI k)), (2, .int (nI c0)), (3, .int h)]) S.1 S.2.1 dX12_sack_132 hl (by decide) rfl (fun ls hl => ?_)
                      refine lv_iinc (v := (nI (e + 1))) (lv' := [(7, .int (nI (e + 1))), (6, .int (nI m)), (5, .int (nI b)), (9, .int (nI (smS (w 3) e 12))), (8, .int 1), (4, .int (nI (nW w k 12))), (0, .ref (G.2.2 71)), (1, .int (nI k)), (2, .int (nI c0)), (3, .int h)]) S.1 S.2.1 dX12_sack_134 hl (k := 4) rfl (u_inc1 e) (by decide) rfl (fun ls hl => ?_)
                      refine lv_goto (tgt := 50) S.1 S.2.1 dX12_sack_137 (by decide) ?_
                      exact ih50 b m (e + 1) (by omega) (by omega) (by omega) (by
                          first
                            | (exfalso; omega)
                            | (rw [skS, ← i2, hv]
                               dsimp only
                               first | rw [if_pos (by omega)] | rw [if_neg (by omega)])) _ _ _ Z (lv_sub hl [0, 1, 2, 5, 6, 7, 8, 9] rfl)
                    · skip
                      have c_24 : ¬ (smS (w 3) e 12) ≤ m := fun z9 => c_24 ((nI_leI (a := (smS (w 3) e 12)) (b := m) (by omega) (by omega)).mpr z9)
                      refine lv_iload S.1 S.2.1 dX12_sack_125 (lv_at hl 1 rfl) ?_
                      refine lv_goto (tgt := 132) S.1 S.2.1 dX12_sack_127 (by decide) ?_
                      refine lv_istore (lv' := [(6, .int (nI (smS (w 3) e 12))), (5, .int (nI b)), (9, .int (nI (smS (w 3) e 12))), (8, .int 1), (7, .int (nI e)), (4, .int (nI (nW w k 12))), (0, .ref (G.2.2 71)), (1, .int (nI k)), (2, .int (nI c0)), (3, .int h)]) S.1 S.2.1 dX12_sack_132 hl (by decide) rfl (fun ls hl => ?_)
                      refine lv_iinc (v := (nI (e + 1))) (lv' := [(7, .int (nI (e + 1))), (6, .int (nI (smS (w 3) e 12))), (5, .int (nI b)), (9, .int (nI (smS (w 3) e 12))), (8, .int 1), (4, .int (nI (nW w k 12))), (0, .ref (G.2.2 71)), (1, .int (nI k)), (2, .int (nI c0)), (3, .int h)]) S.1 S.2.1 dX12_sack_134 hl (k := 4) rfl (u_inc1 e) (by decide) rfl (fun ls hl => ?_)
                      refine lv_goto (tgt := 50) S.1 S.2.1 dX12_sack_137 (by decide) ?_
                      exact ih50 b (smS (w 3) e 12) (e + 1) (by omega) (by omega) (by omega) (by
                          first
                            | (exfalso; omega)
                            | (rw [skS, ← i2, hv]
                               dsimp only
                               first | rw [if_pos (by omega)] | rw [if_neg (by omega)])) _ _ _ Z (lv_sub hl [0, 1, 2, 5, 6, 7, 8, 9] rfl)
                  · skip
                    have c_23 : ¬ (smS (w 3) e 12) ≤ m := fun z9 => c_23 ((nI_leI (a := (smS (w 3) e 12)) (b := m) (by omega) (by omega)).mpr z9)
                    refine lv_iload S.1 S.2.1 dX12_sack_109 (lv_at hl 2 rfl) ?_
                    refine lv_goto (tgt := 116) S.1 S.2.1 dX12_sack_111 (by decide) ?_
                    refine lv_istore (lv' := [(5, .int (nI e)), (9, .int (nI (smS (w 3) e 12))), (8, .int 1), (7, .int (nI e)), (6, .int (nI m)), (4, .int (nI (nW w k 12))), (0, .ref (G.2.2 71)), (1, .int (nI k)), (2, .int (nI c0)), (3, .int h)]) S.1 S.2.1 dX12_sack_116 hl (by decide) rfl (fun ls hl => ?_)
                    refine lv_iload S.1 S.2.1 dX12_sack_118 (lv_at hl 1 rfl) ?_
                    refine lv_iload S.1 S.2.1 dX12_sack_120 (lv_at hl 4 rfl) ?_
                    refine lv_icmp_le (tgt := 130) S.1 S.2.1 dX12_sack_122 (by decide) (fun c_25 => ?_) (fun c_25 => ?_)
                    · skip
                      have c_25 : (smS (w 3) e 12) ≤ m := (nI_leI (a := (smS (w 3) e 12)) (b := m) (by omega) (by omega)).mp c_25
                      refine lv_iload S.1 S.2.1 dX12_sack_130 (lv_at hl 4 rfl) ?_
                      refine lv_istore (lv' := [(6, .int (nI m)), (5, .int (nI e)), (9, .int (nI (smS (w 3) e 12))), (8, .int 1), (7, .int (nI e)), (4, .int (nI (nW w k 12))), (0, .ref (G.2.2 71)), (1, .int (nI k)), (2, .int (nI c0)), (3, .int h)]) S.1 S.2.1 dX12_sack_132 hl (by decide) rfl (fun ls hl => ?_)
                      refine lv_iinc (v := (nI (e + 1))) (lv' := [(7, .int (nI (e + 1))), (6, .int (nI m)), (5, .int (nI e)), (9, .int (nI (smS (w 3) e 12))), (8, .int 1), (4, .int (nI (nW w k 12))), (0, .ref (G.2.2 71)), (1, .int (nI k)), (2, .int (nI c0)), (3, .int h)]) S.1 S.2.1 dX12_sack_134 hl (k := 4) rfl (u_inc1 e) (by decide) rfl (fun ls hl => ?_)
                      refine lv_goto (tgt := 50) S.1 S.2.1 dX12_sack_137 (by decide) ?_
                      exact ih50 e m (e + 1) (by omega) (by omega) (by omega) (by
                          first
                            | (exfalso; omega)
                            | (rw [skS, ← i2, hv]
                               dsimp only
                               first | rw [if_pos (by omega)] | rw [if_neg (by omega)])) _ _ _ Z (lv_sub hl [0, 1, 2, 5, 6, 7, 8, 9] rfl)
                    · skip
                      have c_25 : ¬ (smS (w 3) e 12) ≤ m := fun z9 => c_25 ((nI_leI (a := (smS (w 3) e 12)) (b := m) (by omega) (by omega)).mpr z9)
                      refine lv_iload S.1 S.2.1 dX12_sack_125 (lv_at hl 1 rfl) ?_
                      refine lv_goto (tgt := 132) S.1 S.2.1 dX12_sack_127 (by decide) ?_
                      refine lv_istore (lv' := [(6, .int (nI (smS (w 3) e 12))), (5, .int (nI e)), (9, .int (nI (smS (w 3) e 12))), (8, .int 1), (7, .int (nI e)), (4, .int (nI (nW w k 12))), (0, .ref (G.2.2 71)), (1, .int (nI k)), (2, .int (nI c0)), (3, .int h)]) S.1 S.2.1 dX12_sack_132 hl (by decide) rfl (fun ls hl => ?_)
                      refine lv_iinc (v := (nI (e + 1))) (lv' := [(7, .int (nI (e + 1))), (6, .int (nI (smS (w 3) e 12))), (5, .int (nI e)), (9, .int (nI (smS (w 3) e 12))), (8, .int 1), (4, .int (nI (nW w k 12))), (0, .ref (G.2.2 71)), (1, .int (nI k)), (2, .int (nI c0)), (3, .int h)]) S.1 S.2.1 dX12_sack_134 hl (k := 4) rfl (u_inc1 e) (by decide) rfl (fun ls hl => ?_)
                      refine lv_goto (tgt := 50) S.1 S.2.1 dX12_sack_137 (by decide) ?_
                      exact ih50 e (smS (w 3) e 12) (e + 1) (by omega) (by omega) (by omega) (by
                          first
                            | (exfalso; omega)
                            | (rw [skS, ← i2, hv]
                               dsimp only
                               first | rw [if_pos (by omega)] | rw [if_neg (by omega)])) _ _ _ Z (lv_sub hl [0, 1, 2, 5, 6, 7, 8, 9] rfl)
        exact LP50 4097 0 0 1 (by omega) (by omega) (by omega) (by exact (skS_1 _ _ _).symm) _ _ _ Z (lv_sub hl [0, 1, 2, 3, 4, 5, 6, 7] rfl)
      · skip
        rw [hM_5] at Z
        refine lv_if_ne (tgt := 34) S.1 S.2.1 dX12_sack_28 (by decide) (fun c => absurd c (by decide)) (fun _ => ?_)
        refine lv_bipush (v := (-2)) S.1 S.2.1 dX12_sack_31 (by decide) ?_
        refine uret_i S hK Z hre hlk dX12_sack_33 ?_
        rw [spSack, if_neg (not_not_intro (by assumption)), if_pos (by first | exact Or.inl (by assumption) | exact Or.inr (by assumption))]
        exact ⟨rfl, rfl⟩
    · skip
      rw [hM_3] at Z
      refine lv_if_eq (tgt := 31) S.1 S.2.1 dX12_sack_18 (by decide) (fun _ => ?_) (fun c => absurd c (by decide))
      refine lv_bipush (v := (-2)) S.1 S.2.1 dX12_sack_31 (by decide) ?_
      refine uret_i S hK Z hre hlk dX12_sack_33 ?_
      rw [spSack, if_neg (not_not_intro (by assumption)), if_pos (by first | exact Or.inl (by assumption) | exact Or.inr (by assumption))]
      exact ⟨rfl, rfl⟩
  · skip
    rw [hM_1] at Z
    refine lv_if_ne (tgt := 9) S.1 S.2.1 dX12_sack_4 (by decide) (fun c => absurd c (by decide)) (fun _ => ?_)
    refine lv_iconst (v := (-1)) S.1 S.2.1 dX12_sack_7 (by decide) ?_
    refine uret_i S hK Z hre hlk dX12_sack_8 ?_
    rw [spSack, if_pos (by assumption)]
    exact ⟨rfl, rfl⟩
set_option maxHeartbeats 4000000 in
set_option maxRecDepth 100000 in
theorem c_X12_careers (l : Launch) (G : uG) (n st : Int32) (M : uM) (w : Nat → Nat → Nat) (hr : uMd M w) (hw : wOk w) : CTi l G yX12_careers wsX12_careers 1 25 [.ref (G.2.2 71), .int n, .int st] M (fun r M2 => r = spCareers w n st ∧ M2 = M) := by
  refine ustart_i (cc := cX12_careers) (maxL := 7) (ret := (some .int)) (own := RX12) rfl (by decide) rfl (Nat.le_of_ble_eq_true rfl) ?_
  intro xp xe xs xm xa xb xt xc xA ls S hK hA Z hre hlk hl
  have hl : lv_has ls 7 [(0, .ref (G.2.2 71)), (1, .int n), (2, .int st)] := hl
  refine lv_iload_n S.1 S.2.1 dX12_careers_0 rfl (lv_at hl 1 rfl) ?_
  refine lv_i2l (v := n.toInt64) S.1 S.2.1 dX12_careers_1 rfl ?_
  refine lv_lconst (v := 1) S.1 S.2.1 dX12_careers_2 (by decide) ?_
  refine lv_ldc2 (v := 8) S.1 S.2.1 S.2.2.2.1 (S.2.2.2.2 _ qX12_careers_257) dX12_careers_3 ?_
  refine uc_Si (As := [.long n.toInt64, .long 1, .long 8]) (rest := []) S hK hA Z (c_X12_in l G n 1 8 _ _ _ rfl (by decide) (by decide) M) (va_cwS 3 S.2.2.2.2 gX12_careers_X12_in rfl rfl rfl (by decide +kernel) ⟨Nat.le_of_ble_eq_true rfl, Nat.le_of_ble_eq_true rfl⟩) rfl hl.1 rfl (Nat.le_of_ble_eq_true rfl) dX12_careers_6 ⟨Nat.zero_le _, Nat.zero_le _⟩ (fun r_1 M_1 H locs hp Z => ?_)
  obtain ⟨⟨rfl, w_1⟩ | ⟨rfl, w_1⟩, hM_1⟩ := hp
  · skip
    rw [hM_1] at Z
    refine lv_if_eq (tgt := 24) S.1 S.2.1 dX12_careers_9 (by decide) (fun c => absurd c (by decide)) (fun _ => ?_)
    refine lv_iload_n S.1 S.2.1 dX12_careers_12 rfl (lv_at hl 2 rfl) ?_
    refine lv_i2l (v := st.toInt64) S.1 S.2.1 dX12_careers_13 rfl ?_
    refine lv_lconst (v := 0) S.1 S.2.1 dX12_careers_14 (by decide) ?_
    refine lv_ldc2 (v := 4095) S.1 S.2.1 S.2.2.2.1 (S.2.2.2.2 _ qX12_careers_259) dX12_careers_15 ?_
    refine uc_Si (As := [.long st.toInt64, .long 0, .long 4095]) (rest := []) S hK hA Z (c_X12_in l G st 0 4095 _ _ _ rfl (by decide) (by decide) M) (va_cwS 3 S.2.2.2.2 gX12_careers_X12_in rfl rfl rfl (by decide +kernel) ⟨Nat.le_of_ble_eq_true rfl, Nat.le_of_ble_eq_true rfl⟩) rfl hl.1 rfl (Nat.le_of_ble_eq_true rfl) dX12_careers_18 ⟨Nat.zero_le _, Nat.zero_le _⟩ (fun r_3 M_3 H locs hp Z => ?_)
    obtain ⟨⟨rfl, w_3⟩ | ⟨rfl, w_3⟩, hM_3⟩ := hp
    · skip
      rw [hM_3] at Z
      refine lv_if_ne (tgt := 27) S.1 S.2.1 dX12_careers_21 (by decide) (fun _ => ?_) (fun c => absurd c (by decide))
      obtain ⟨k, hk1, hk, rfl⟩ := u_in1 (n := 8) (show inr n 1 8 by assumption) (by decide)
      obtain ⟨e, he, rfl⟩ := u_in0 (n := 4095) (show inr st 0 4095 by assumption) (by decide)
      refine lv_iconst (v := 0) S.1 S.2.1 dX12_careers_27 (by decide) ?_
      refine lv_istore_n (lv' := [(3, .int 0), (0, .ref (G.2.2 71)), (1, .int (nI k)), (2, .int (nI e))]) S.1 S.2.1 dX12_careers_28 rfl hl (by decide) rfl (fun ls hl => ?_)
      refine lv_iconst (v := 0) S.1 S.2.1 dX12_careers_29 (by decide) ?_
      refine lv_istore (lv' := [(4, .int 0), (3, .int 0), (0, .ref (G.2.2 71)), (1, .int (nI k)), (2, .int (nI e))]) S.1 S.2.1 dX12_careers_30 hl (by decide) rfl (fun ls hl => ?_)
      refine lv_iconst (v := 0) S.1 S.2.1 dX12_careers_32 (by decide) ?_
      refine lv_istore (lv' := [(5, .int 0), (4, .int 0), (3, .int 0), (0, .ref (G.2.2 71)), (1, .int (nI k)), (2, .int (nI e))]) S.1 S.2.1 dX12_careers_33 hl (by decide) rfl (fun ls hl => ?_)
      have LP35 : ∀ (fU : Nat) (a : Nat) (m : Nat) (t : Nat), (12 < t + fU) → (t ≤ 12) → (a = crN w e t) → (m = crM w e t) → ∀ (H : Heap) (locs : List Loc) (ls : Array Slot), uZ G xA M xs.heap H locs → lv_has ls 7 [(5, .int (nI t)), (4, .int (nI m)), (3, .int (nI a)), (0, .ref (G.2.2 71)), (1, .int (nI k)), (2, .int (nI e))] → W xp l xe (uRm 1 25) xs xm xa xb xt xc H locs 0 0 (MQ xb (va_Qi (fun r M2 => r = spCareers w (nI k) (nI e) ∧ M2 = M) (fun M' t => uB G M' t) xA) xa xs 0 0 xA) (F0 xm 35 ls []) := by
        intro fU
        induction fU with
        | zero =>
          intro a m t hfl i1 i2 i3 H locs ls Z hl
          exfalso
          omega
        | succ fU ih35 =>
          intro a m t hfl i1 i2 i3 H locs ls Z hl
          have hcl := crN_le w e t
          refine lv_iload S.1 S.2.1 dX12_careers_35 (lv_at hl 0 rfl) ?_
          refine lv_bipush (v := 12) S.1 S.2.1 dX12_careers_37 (by decide) ?_
          refine lv_icmp_ge (tgt := 104) S.1 S.2.1 dX12_careers_39 (by decide) (fun c_5 => ?_) (fun c_5 => ?_)
          · skip
            have c_5 : 12 ≤ t := (nI_leI (a := 12) (b := t) (by omega) (by omega)).mp c_5
            have hcl := crN_le w e 12
            have hdl := Nat.div_le_self (a + k - 1) k
            refine lv_iload_n S.1 S.2.1 dX12_careers_104 rfl (lv_at hl 2 rfl) ?_
            refine lv_iload_n S.1 S.2.1 dX12_careers_105 rfl (lv_at hl 4 rfl) ?_
            refine lv_iadd S.1 S.2.1 dX12_careers_106 ?_
            refine utop (nI_add a k) ?_
            refine lv_iconst (v := 1) S.1 S.2.1 dX12_careers_107 (by decide) ?_
            refine lv_isub S.1 S.2.1 dX12_careers_108 ?_
            refine utop (pk_sub (a := (a + k)) (b := 1) (by omega)) ?_
            refine lv_iload_n S.1 S.2.1 dX12_careers_109 rfl (lv_at hl 4 rfl) ?_
            refine lv_idiv S.1 S.2.1 dX12_careers_110 (nI_ne0 (by omega) (by omega)) ?_
            refine utop (pk_div (a := ((a + k) - 1)) (d := k) (by omega) (by omega) (by omega)) ?_
            refine lv_istore (lv' := [(5, .int (nI (((a + k) - 1) / k))), (4, .int (nI m)), (3, .int (nI a)), (0, .ref (G.2.2 71)), (1, .int (nI k)), (2, .int (nI e))]) S.1 S.2.1 dX12_careers_111 hl (by decide) rfl (fun ls hl => ?_)
            refine lv_iload S.1 S.2.1 dX12_careers_113 (lv_at hl 1 rfl) ?_
            refine lv_iload S.1 S.2.1 dX12_careers_115 (lv_at hl 0 rfl) ?_
            refine lv_icmp_le (tgt := 125) S.1 S.2.1 dX12_careers_117 (by decide) (fun c_6 => ?_) (fun c_6 => ?_)
            · skip
              have c_6 : m ≤ (((a + k) - 1) / k) := (nI_leI (a := m) (b := (((a + k) - 1) / k)) (by omega) (by omega)).mp c_6
              refine lv_iload S.1 S.2.1 dX12_careers_125 (lv_at hl 0 rfl) ?_
              refine uret_i S hK Z hre hlk dX12_careers_127 ?_
              refine ⟨?_, rfl⟩
              rw [spCareers, if_neg (u_no2 (by assumption) (by assumption)), nI_clamp (show k < 2 ^ 31 by omega), nI_clamp (show e < 2 ^ 31 by omega)]
              obtain rfl : 12 = t := by omega
              rw [← i2, ← i3]
              refine congrArg nI ?_
              omega
            · skip
              have c_6 : ¬ m ≤ (((a + k) - 1) / k) := fun z9 => c_6 ((nI_leI (a := m) (b := (((a + k) - 1) / k)) (by omega) (by omega)).mpr z9)
              refine lv_iload S.1 S.2.1 dX12_careers_120 (lv_at hl 1 rfl) ?_
              refine lv_goto (tgt := 127) S.1 S.2.1 dX12_careers_122 (by decide) ?_
              refine uret_i S hK Z hre hlk dX12_careers_127 ?_
              refine ⟨?_, rfl⟩
              rw [spCareers, if_neg (u_no2 (by assumption) (by assumption)), nI_clamp (show k < 2 ^ 31 by omega), nI_clamp (show e < 2 ^ 31 by omega)]
              obtain rfl : 12 = t := by omega
              rw [← i2, ← i3]
              refine congrArg nI ?_
              omega
          · skip
            have c_5 : ¬ 12 ≤ t := fun z9 => c_5 ((nI_leI (a := 12) (b := t) (by omega) (by omega)).mpr z9)
            obtain ⟨b1, b2, b3, b4, b5⟩ := hw.1 t (by omega)
            refine lv_iload_n S.1 S.2.1 dX12_careers_42 rfl (lv_at hl 5 rfl) ?_
            refine lv_iload S.1 S.2.1 dX12_careers_43 (lv_at hl 0 rfl) ?_
            refine uc_Si (As := [.int (nI e), .int (nI t)]) (rest := []) S hK hA Z (c_X12_has l G e t (by omega) (by omega) M) (va_cwS 2 S.2.2.2.2 gX12_careers_X12_has rfl rfl rfl (by decide +kernel) ⟨Nat.le_of_ble_eq_true rfl, Nat.le_of_ble_eq_true rfl⟩) rfl hl.1 rfl (Nat.le_of_ble_eq_true rfl) dX12_careers_45 ⟨Nat.zero_le _, Nat.zero_le _⟩ (fun r_7 M_7 H locs hp Z => ?_)
            obtain ⟨⟨rfl, w_7⟩ | ⟨rfl, w_7⟩, hM_7⟩ := hp
            · skip
              rw [hM_7] at Z
              refine lv_if_eq (tgt := 74) S.1 S.2.1 dX12_careers_48 (by decide) (fun c => absurd c (by decide)) (fun _ => ?_)
              refine lv_aload_n S.1 S.2.1 dX12_careers_51 rfl (lv_at hl 3 rfl) ?_
              refine ug_r S hK Z (j := 1) 73 (by decide) rfl rfl rfl (by decide) iX12_careers_X12 qX12_careers_13 dX12_careers_52 ?_
              refine lv_iload S.1 S.2.1 dX12_careers_55 (lv_at hl 0 rfl) ?_
              refine ua_ild S hK Z t (by decide) rfl rfl (by omega) dX12_careers_57 ?_
              refine utop (y := (nI (w 2 t))) (uMd_r hr t (j := 2) (by decide)) ?_
              refine lv_iconst (v := 2) S.1 S.2.1 dX12_careers_58 (by decide) ?_
              refine lv_icmp_ge (tgt := 74) S.1 S.2.1 dX12_careers_59 (by decide) (fun c_9 => ?_) (fun c_9 => ?_)
              · skip
                have c_9 : 2 ≤ (w 2 t) := (nI_leI (a := 2) (b := (w 2 t)) (by omega) (by omega)).mp c_9
                refine lv_iconst (v := 0) S.1 S.2.1 dX12_careers_74 (by decide) ?_
                refine lv_istore (lv' := [(6, .int 0), (5, .int (nI t)), (4, .int (nI m)), (3, .int (nI a)), (0, .ref (G.2.2 71)), (1, .int (nI k)), (2, .int (nI e))]) S.1 S.2.1 dX12_careers_75 hl (by decide) rfl (fun ls hl => ?_)
                refine lv_iload_n S.1 S.2.1 dX12_careers_77 rfl (lv_at hl 3 rfl) ?_
                refine lv_iload S.1 S.2.1 dX12_careers_78 (lv_at hl 0 rfl) ?_
                refine lv_iadd S.1 S.2.1 dX12_careers_80 ?_
                refine utop (nI_add a 0) ?_
                refine lv_istore_n (lv' := [(3, .int (nI (a + 0))), (6, .int 0), (5, .int (nI t)), (4, .int (nI m)), (0, .ref (G.2.2 71)), (1, .int (nI k)), (2, .int (nI e))]) S.1 S.2.1 dX12_careers_81 rfl hl (by decide) rfl (fun ls hl => ?_)
                refine lv_iload S.1 S.2.1 dX12_careers_82 (lv_at hl 1 rfl) ?_
                refine lv_iload S.1 S.2.1 dX12_careers_84 (lv_at hl 3 rfl) ?_
                refine lv_icmp_le (tgt := 94) S.1 S.2.1 dX12_careers_86 (by decide) (fun c_10 => ?_) (fun c_10 => ?_)
                · skip
                  have c_10 : 0 ≤ m := (nI_leI (a := 0) (b := m) (by omega) (by omega)).mp c_10
                  refine lv_iload S.1 S.2.1 dX12_careers_94 (lv_at hl 3 rfl) ?_
                  refine lv_istore (lv' := [(4, .int (nI m)), (3, .int (nI (a + 0))), (6, .int 0), (5, .int (nI t)), (0, .ref (G.2.2 71)), (1, .int (nI k)), (2, .int (nI e))]) S.1 S.2.1 dX12_careers_96 hl (by decide) rfl (fun ls hl => ?_)
                  refine lv_iinc (v := (nI (t + 1))) (lv' := [(5, .int (nI (t + 1))), (4, .int (nI m)), (3, .int (nI (a + 0))), (6, .int 0), (0, .ref (G.2.2 71)), (1, .int (nI k)), (2, .int (nI e))]) S.1 S.2.1 dX12_careers_98 hl (k := 3) rfl (u_inc1 t) (by decide) rfl (fun ls hl => ?_)
                  refine lv_goto (tgt := 35) S.1 S.2.1 dX12_careers_101 (by decide) ?_
                  exact ih35 (a + 0) m (t + 1) (by omega) (by omega) (by
                      rw [crN]
                      unfold lackT
                      first | rw [if_pos (by assumption)] | rw [if_neg (by assumption)]
                      omega) (by
                      first
                        | (exfalso; omega)
                        | (rw [crM]
                           unfold lackT
                           first | rw [if_pos (by assumption)] | rw [if_neg (by assumption)]
                           omega)) _ _ _ Z (lv_sub hl [0, 1, 2, 4, 5, 6] rfl)
                · skip
                  have c_10 : ¬ 0 ≤ m := fun z9 => c_10 ((nI_leI (a := 0) (b := m) (by omega) (by omega)).mpr z9)
                  refine lv_iload S.1 S.2.1 dX12_careers_89 (lv_at hl 1 rfl) ?_
                  refine lv_goto (tgt := 96) S.1 S.2.1 dX12_careers_91 (by decide) ?_
                  refine lv_istore (lv' := [(4, .int 0), (3, .int (nI (a + 0))), (6, .int 0), (5, .int (nI t)), (0, .ref (G.2.2 71)), (1, .int (nI k)), (2, .int (nI e))]) S.1 S.2.1 dX12_careers_96 hl (by decide) rfl (fun ls hl => ?_)
                  refine lv_iinc (v := (nI (t + 1))) (lv' := [(5, .int (nI (t + 1))), (4, .int 0), (3, .int (nI (a + 0))), (6, .int 0), (0, .ref (G.2.2 71)), (1, .int (nI k)), (2, .int (nI e))]) S.1 S.2.1 dX12_careers_98 hl (k := 3) rfl (u_inc1 t) (by decide) rfl (fun ls hl => ?_)
                  refine lv_goto (tgt := 35) S.1 S.2.1 dX12_careers_101 (by decide) ?_
                  exact ih35 (a + 0) 0 (t + 1) (by omega) (by omega) (by
                      rw [crN]
                      unfold lackT
                      first | rw [if_pos (by assumption)] | rw [if_neg (by assumption)]
                      omega) (by
                      first
                        | (exfalso; omega)
                        | (rw [crM]
                           unfold lackT
                           first | rw [if_pos (by assumption)] | rw [if_neg (by assumption)]
                           omega)) _ _ _ Z (lv_sub hl [0, 1, 2, 4, 5, 6] rfl)
              · skip
                have c_9 : ¬ 2 ≤ (w 2 t) := fun z9 => c_9 ((nI_leI (a := 2) (b := (w 2 t)) (by omega) (by omega)).mpr z9)
                refine lv_iconst (v := 2) S.1 S.2.1 dX12_careers_62 (by decide) ?_
                refine lv_aload_n S.1 S.2.1 dX12_careers_63 rfl (lv_at hl 3 rfl) ?_
                refine ug_r S hK Z (j := 1) 73 (by decide) rfl rfl rfl (by decide) iX12_careers_X12 qX12_careers_13 dX12_careers_64 ?_
                refine lv_iload S.1 S.2.1 dX12_careers_67 (lv_at hl 0 rfl) ?_
                refine ua_ild S hK Z t (by decide) rfl rfl (by omega) dX12_careers_69 ?_
                refine utop (y := (nI (w 2 t))) (uMd_r hr t (j := 2) (by decide)) ?_
                refine lv_isub S.1 S.2.1 dX12_careers_70 ?_
                refine utop (pk_sub (a := 2) (b := (w 2 t)) (by omega)) ?_
                refine lv_goto (tgt := 75) S.1 S.2.1 dX12_careers_71 (by decide) ?_
                refine lv_istore (lv' := [(6, .int (nI (2 - (w 2 t)))), (5, .int (nI t)), (4, .int (nI m)), (3, .int (nI a)), (0, .ref (G.2.2 71)), (1, .int (nI k)), (2, .int (nI e))]) S.1 S.2.1 dX12_careers_75 hl (by decide) rfl (fun ls hl => ?_)
                refine lv_iload_n S.1 S.2.1 dX12_careers_77 rfl (lv_at hl 3 rfl) ?_
                refine lv_iload S.1 S.2.1 dX12_careers_78 (lv_at hl 0 rfl) ?_
                refine lv_iadd S.1 S.2.1 dX12_careers_80 ?_
                refine utop (nI_add a (2 - (w 2 t))) ?_
                refine lv_istore_n (lv' := [(3, .int (nI (a + (2 - (w 2 t))))), (6, .int (nI (2 - (w 2 t)))), (5, .int (nI t)), (4, .int (nI m)), (0, .ref (G.2.2 71)), (1, .int (nI k)), (2, .int (nI e))]) S.1 S.2.1 dX12_careers_81 rfl hl (by decide) rfl (fun ls hl => ?_)
                refine lv_iload S.1 S.2.1 dX12_careers_82 (lv_at hl 1 rfl) ?_
                refine lv_iload S.1 S.2.1 dX12_careers_84 (lv_at hl 3 rfl) ?_
                refine lv_icmp_le (tgt := 94) S.1 S.2.1 dX12_careers_86 (by decide) (fun c_11 => ?_) (fun c_11 => ?_)
                · skip
                  have c_11 : (2 - (w 2 t)) ≤ m := (nI_leI (a := (2 - (w 2 t))) (b := m) (by omega) (by omega)).mp c_11
                  refine lv_iload S.1 S.2.1 dX12_careers_94 (lv_at hl 3 rfl) ?_
                  refine lv_istore (lv' := [(4, .int (nI m)), (3, .int (nI (a + (2 - (w 2 t))))), (6, .int (nI (2 - (w 2 t)))), (5, .int (nI t)), (0, .ref (G.2.2 71)), (1, .int (nI k)), (2, .int (nI e))]) S.1 S.2.1 dX12_careers_96 hl (by decide) rfl (fun ls hl => ?_)
                  refine lv_iinc (v := (nI (t + 1))) (lv' := [(5, .int (nI (t + 1))), (4, .int (nI m)), (3, .int (nI (a + (2 - (w 2 t))))), (6, .int (nI (2 - (w 2 t)))), (0, .ref (G.2.2 71)), (1, .int (nI k)), (2, .int (nI e))]) S.1 S.2.1 dX12_careers_98 hl (k := 3) rfl (u_inc1 t) (by decide) rfl (fun ls hl => ?_)
                  refine lv_goto (tgt := 35) S.1 S.2.1 dX12_careers_101 (by decide) ?_
                  exact ih35 (a + (2 - (w 2 t))) m (t + 1) (by omega) (by omega) (by
                      rw [crN]
                      unfold lackT
                      first | rw [if_pos (by assumption)] | rw [if_neg (by assumption)]
                      omega) (by
                      first
                        | (exfalso; omega)
                        | (rw [crM]
                           unfold lackT
                           first | rw [if_pos (by assumption)] | rw [if_neg (by assumption)]
                           omega)) _ _ _ Z (lv_sub hl [0, 1, 2, 4, 5, 6] rfl)
                · skip
                  have c_11 : ¬ (2 - (w 2 t)) ≤ m := fun z9 => c_11 ((nI_leI (a := (2 - (w 2 t))) (b := m) (by omega) (by omega)).mpr z9)
                  refine lv_iload S.1 S.2.1 dX12_careers_89 (lv_at hl 1 rfl) ?_
                  refine lv_goto (tgt := 96) S.1 S.2.1 dX12_careers_91 (by decide) ?_
                  refine lv_istore (lv' := [(4, .int (nI (2 - (w 2 t)))), (3, .int (nI (a + (2 - (w 2 t))))), (6, .int (nI (2 - (w 2 t)))), (5, .int (nI t)), (0, .ref (G.2.2 71)), (1, .int (nI k)), (2, .int (nI e))]) S.1 S.2.1 dX12_careers_96 hl (by decide) rfl (fun ls hl => ?_)
                  refine lv_iinc (v := (nI (t + 1))) (lv' := [(5, .int (nI (t + 1))), (4, .int (nI (2 - (w 2 t)))), (3, .int (nI (a + (2 - (w 2 t))))), (6, .int (nI (2 - (w 2 t)))), (0, .ref (G.2.2 71)), (1, .int (nI k)), (2, .int (nI e))]) S.1 S.2.1 dX12_careers_98 hl (k := 3) rfl (u_inc1 t) (by decide) rfl (fun ls hl => ?_)
                  refine lv_goto (tgt := 35) S.1 S.2.1 dX12_careers_101 (by decide) ?_
                  exact ih35 (a + (2 - (w 2 t))) (2 - (w 2 t)) (t + 1) (by omega) (by omega) (by
                      rw [crN]
                      unfold lackT
                      first | rw [if_pos (by assumption)] | rw [if_neg (by assumption)]
                      omega) (by
                      first
                        | (exfalso; omega)
                        | (rw [crM]
                           unfold lackT
                           first | rw [if_pos (by assumption)] | rw [if_neg (by assumption)]
                           omega)) _ _ _ Z (lv_sub hl [0, 1, 2, 4, 5, 6] rfl)
            · skip
              rw [hM_7] at Z
              refine lv_if_eq (tgt := 74) S.1 S.2.1 dX12_careers_48 (by decide) (fun _ => ?_) (fun c => absurd c (by decide))
              refine lv_iconst (v := 0) S.1 S.2.1 dX12_careers_74 (by decide) ?_
              refine lv_istore (lv' := [(6, .int 0), (5, .int (nI t)), (4, .int (nI m)), (3, .int (nI a)), (0, .ref (G.2.2 71)), (1, .int (nI k)), (2, .int (nI e))]) S.1 S.2.1 dX12_careers_75 hl (by decide) rfl (fun ls hl => ?_)
              refine lv_iload_n S.1 S.2.1 dX12_careers_77 rfl (lv_at hl 3 rfl) ?_
              refine lv_iload S.1 S.2.1 dX12_careers_78 (lv_at hl 0 rfl) ?_
              refine lv_iadd S.1 S.2.1 dX12_careers_80 ?_
              refine utop (nI_add a 0) ?_
              refine lv_istore_n (lv' := [(3, .int (nI (a + 0))), (6, .int 0), (5, .int (nI t)), (4, .int (nI m)), (0, .ref (G.2.2 71)), (1, .int (nI k)), (2, .int (nI e))]) S.1 S.2.1 dX12_careers_81 rfl hl (by decide) rfl (fun ls hl => ?_)
              refine lv_iload S.1 S.2.1 dX12_careers_82 (lv_at hl 1 rfl) ?_
              refine lv_iload S.1 S.2.1 dX12_careers_84 (lv_at hl 3 rfl) ?_
              refine lv_icmp_le (tgt := 94) S.1 S.2.1 dX12_careers_86 (by decide) (fun c_13 => ?_) (fun c_13 => ?_)
              · skip
                have c_13 : 0 ≤ m := (nI_leI (a := 0) (b := m) (by omega) (by omega)).mp c_13
                refine lv_iload S.1 S.2.1 dX12_careers_94 (lv_at hl 3 rfl) ?_
                refine lv_istore (lv' := [(4, .int (nI m)), (3, .int (nI (a + 0))), (6, .int 0), (5, .int (nI t)), (0, .ref (G.2.2 71)), (1, .int (nI k)), (2, .int (nI e))]) S.1 S.2.1 dX12_careers_96 hl (by decide) rfl (fun ls hl => ?_)
                refine lv_iinc (v := (nI (t + 1))) (lv' := [(5, .int (nI (t + 1))), (4, .int (nI m)), (3, .int (nI (a + 0))), (6, .int 0), (0, .ref (G.2.2 71)), (1, .int (nI k)), (2, .int (nI e))]) S.1 S.2.1 dX12_careers_98 hl (k := 3) rfl (u_inc1 t) (by decide) rfl (fun ls hl => ?_)
                refine lv_goto (tgt := 35) S.1 S.2.1 dX12_careers_101 (by decide) ?_
                exact ih35 (a + 0) m (t + 1) (by omega) (by omega) (by
                    rw [crN]
                    unfold lackT
                    first | rw [if_pos (by assumption)] | rw [if_neg (by assumption)]
                    omega) (by
                    first
                      | (exfalso; omega)
                      | (rw [crM]
                         unfold lackT
                         first | rw [if_pos (by assumption)] | rw [if_neg (by assumption)]
                         omega)) _ _ _ Z (lv_sub hl [0, 1, 2, 4, 5, 6] rfl)
              · skip
                have c_13 : ¬ 0 ≤ m := fun z9 => c_13 ((nI_leI (a := 0) (b := m) (by omega) (by omega)).mpr z9)
                refine lv_iload S.1 S.2.1 dX12_careers_89 (lv_at hl 1 rfl) ?_
                refine lv_goto (tgt := 96) S.1 S.2.1 dX12_careers_91 (by decide) ?_
                refine lv_istore (lv' := [(4, .int 0), (3, .int (nI (a + 0))), (6, .int 0), (5, .int (nI t)), (0, .ref (G.2.2 71)), (1, .int (nI k)), (2, .int (nI e))]) S.1 S.2.1 dX12_careers_96 hl (by decide) rfl (fun ls hl => ?_)
                refine lv_iinc (v := (nI (t + 1))) (lv' := [(5, .int (nI (t + 1))), (4, .int 0), (3, .int (nI (a + 0))), (6, .int 0), (0, .ref (G.2.2 71)), (1, .int (nI k)), (2, .int (nI e))]) S.1 S.2.1 dX12_careers_98 hl (k := 3) rfl (u_inc1 t) (by decide) rfl (fun ls hl => ?_)
                refine lv_goto (tgt := 35) S.1 S.2.1 dX12_careers_101 (by decide) ?_
                exact ih35 (a + 0) 0 (t + 1) (by omega) (by omega) (by
                    rw [crN]
                    unfold lackT
                    first | rw [if_pos (by assumption)] | rw [if_neg (by assumption)]
                    omega) (by
                    first
                      | (exfalso; omega)
                      | (rw [crM]
                         unfold lackT
                         first | rw [if_pos (by assumption)] | rw [if_neg (by assumption)]
                         omega)) _ _ _ Z (lv_sub hl [0, 1, 2, 4, 5, 6] rfl)
      exact LP35 13 0 0 0 (by omega) (by omega) (by rfl) (by rfl) _ _ _ Z (lv_sub hl [0, 1, 2, 3, 4, 5] rfl)
    · skip
      rw [hM_3] at Z
      refine lv_if_ne (tgt := 27) S.1 S.2.1 dX12_careers_21 (by decide) (fun c => absurd c (by decide)) (fun _ => ?_)
      refine lv_bipush (v := (-2)) S.1 S.2.1 dX12_careers_24 (by decide) ?_
      refine uret_i S hK Z hre hlk dX12_careers_26 ?_
      rw [spCareers, if_pos (by first | exact Or.inl (by assumption) | exact Or.inr (by assumption))]
      exact ⟨rfl, rfl⟩
  · skip
    rw [hM_1] at Z
    refine lv_if_eq (tgt := 24) S.1 S.2.1 dX12_careers_9 (by decide) (fun _ => ?_) (fun c => absurd c (by decide))
    refine lv_bipush (v := (-2)) S.1 S.2.1 dX12_careers_24 (by decide) ?_
    refine uret_i S hK Z hre hlk dX12_careers_26 ?_
    rw [spCareers, if_pos (by first | exact Or.inl (by assumption) | exact Or.inr (by assumption))]
    exact ⟨rfl, rfl⟩
