/-! a row of five digits, read from its end -/
def rwA (row : Nat) : Nat → Nat
  | 0 => 0
  | j + 1 => rwA row j ||| 2 ^ (row / 10 ^ j % 10)
def rwF (f : Nat → Nat) (row : Nat) : Nat → Nat → Nat
  | 0 => f
  | j + 1 => fu (rwF f row j) (row / 10 ^ j % 10) (4 - j)
theorem rwA_lt (row : Nat) : ∀ j, rwA row j < 1024 := by
  intro j
  induction j with
  | zero => exact (by decide : (0 : Nat) < 1024)
  | succ j ih =>
    rw [rwA]
    exact Nat.or_lt_two_pow (n := 10) ih (Nat.pow_lt_pow_right (by decide) (Nat.mod_lt _ (by decide)))
theorem rwA_tb {row x : Nat} : ∀ j, (rwA row (j + 1)).testBit x = true → ¬ x = row / 10 ^ j % 10 → (rwA row j).testBit x = true := by
  intro j h hx
  rw [rwA, Nat.testBit_or, Nat.testBit_two_pow] at h
  simpa [show ¬ row / 10 ^ j % 10 = x from fun z => hx z.symm] using h
theorem rwF_eq {f g : Nat → Nat} {row x : Nat} : ∀ j, (rwA row j).testBit x = true → rwF f row j x = rwF g row j x := by
  intro j
  induction j with
  | zero => intro h; rw [rwA, Nat.zero_testBit] at h; cases h
  | succ j ih =>
    intro h
    rw [rwF, rwF]
    by_cases z : x = row / 10 ^ j % 10
    · rw [← z, fu_eq, fu_eq]
    · rw [fu_ne z, fu_ne z]
      exact ih (rwA_tb j h z)
theorem rwA_in {row j : Nat} : ∀ m, j < m → (rwA row m).testBit (row / 10 ^ j % 10) = true := by
  intro m
  induction m with
  | zero => intro h; omega
  | succ m ih =>
    intro h
    rw [rwA, Nat.testBit_or, Nat.testBit_two_pow]
    by_cases z : j = m
    · subst z
      simp
    · rw [ih (by omega), Bool.true_or]
theorem tb31 {x : Nat} (h : (31 : Nat).testBit x = true) : x < 5 := by
  rcases Nat.lt_or_ge x 5 with q | q
  · exact q
  · rw [Nat.testBit_lt_two_pow (Nat.lt_of_lt_of_le (show 31 < 2 ^ 5 by decide) (Nat.pow_le_pow_right (by decide) q))] at h
    cases h
def rk (a b c d : Nat) : Nat := 24 * a + 6 * (b - if a < b then 1 else 0) + 2 * (c - (if a < c then 1 else 0) - (if b < c then 1 else 0)) + (d - (if a < d then 1 else 0) - (if b < d then 1 else 0) - (if c < d then 1 else 0))
theorem rk_okb : ∀ a, a < 5 → ∀ b, b < 5 → ∀ c, c < 5 → ∀ d, d < 5 → ∀ e, e < 5 → (!(2 ^ e ||| 2 ^ d ||| 2 ^ c ||| 2 ^ b ||| 2 ^ a == 31) || (decide (rk a b c d < 120) && (lRow (rk a b c d) == 10000 * a + 1000 * b + 100 * c + 10 * d + e))) = true := by decide +kernel
theorem rk_ok {a b c d e : Nat} (ha : a < 5) (hb : b < 5) (hc : c < 5) (hd : d < 5) (he : e < 5) (h : 2 ^ e ||| 2 ^ d ||| 2 ^ c ||| 2 ^ b ||| 2 ^ a = 31) : rk a b c d < 120 ∧ lRow (rk a b c d) = 10000 * a + 1000 * b + 100 * c + 10 * d + e := by
  have h1 := rk_okb a ha b hb c hc d hd e he
  rw [h] at h1
  simpa using h1
theorem lRow_up : ∀ k, k < 119 → lRow k < lRow (k + 1) := by decide +kernel
theorem lRow_0 : lRow 0 = 1234 := by decide +kernel
theorem lRow_9 : lRow 119 = 43210 := by decide +kernel
theorem lRow_A : ∀ k, k < 120 → rwA (lRow k) 5 = 31 := by decide +kernel
theorem lRow_F : ∀ k, k < 120 → ∀ x, x < 5 → rwF (fun _ => 0) (lRow k) 5 x = lPl k x := by decide +kernel
theorem lRow_lt2 : ∀ j i, i < j → j < 120 → lRow i < lRow j := by
  intro j
  induction j with
  | zero => intro i h; omega
  | succ j ih =>
    intro i h hj
    have h1 := lRow_up j (by omega)
    by_cases z : i = j
    · rw [z]; exact h1
    · have := ih i (by omega) (by omega)
      omega
theorem lRow_rg {k : Nat} (hk : k < 120) : 1234 ≤ lRow k ∧ lRow k ≤ 43210 := by
  rw [← lRow_0, ← lRow_9]
  refine ⟨?_, ?_⟩
  · by_cases z : k = 0
    · rw [z]; exact Nat.le_refl _
    · exact Nat.le_of_lt (lRow_lt2 k 0 (by omega) hk)
  · by_cases z : k = 119
    · rw [z]; exact Nat.le_refl _
    · exact Nat.le_of_lt (lRow_lt2 119 k (by omega) (by omega))
theorem lRow_inj {i j : Nat} (hi : i < 120) (hj : j < 120) (h : lRow i = lRow j) : i = j := by
  rcases Nat.lt_trichotomy i j with q | q | q
  · have := lRow_lt2 j i q hj; omega
  · exact q
  · have := lRow_lt2 i j q hi; omega
theorem row_k {row : Nat} (hr : row < 100000) (h : rwA row 5 = 31) : ∃ k, k < 120 ∧ row = lRow k := by
  have hd : ∀ j, j < 5 → row / 10 ^ j % 10 < 5 := fun j hj => tb31 (by rw [← h]; exact rwA_in 5 hj)
  have h0 := hd 0 (by decide)
  have h1 := hd 1 (by decide)
  have h2 := hd 2 (by decide)
  have h3 := hd 3 (by decide)
  have h4 := hd 4 (by decide)
  have e : rwA row 5 = 2 ^ (row / 10 ^ 0 % 10) ||| 2 ^ (row / 10 ^ 1 % 10) ||| 2 ^ (row / 10 ^ 2 % 10) ||| 2 ^ (row / 10 ^ 3 % 10) ||| 2 ^ (row / 10 ^ 4 % 10) := by
    unfold rwA rwA rwA rwA rwA rwA
    rw [Nat.zero_or]
  rw [e] at h
  obtain ⟨q1, q2⟩ := rk_ok h4 h3 h2 h1 h0 h
  refine ⟨_, q1, ?_⟩
  rw [q2]
  omega
/-- a row that is one of the hundred and twenty, its hands where it says -/
def rwIs (row : Nat) (f : Nat → Nat) (k : Nat) : Prop := k < 120 ∧ row = lRow k ∧ ∀ x, x < 5 → f x = lPl k x
theorem rw_yes {row : Nat} {f : Nat → Nat} (hr : row < 100000) (h : rwA row 5 = 31) : ∃ k, rwIs row (rwF f row 5) k := by
  obtain ⟨k, hk, rfl⟩ := row_k hr h
  refine ⟨k, hk, rfl, fun x hx => ?_⟩
  rw [← lRow_F k hk x hx]
  refine rwF_eq 5 ?_
  rw [h]
  have : ∀ x, x < 5 → (31 : Nat).testBit x = true := by decide
  exact this x hx
def isRow (row : Nat) : Prop := ∃ k, k < 120 ∧ row = lRow k
theorem rw_no {row : Nat} (h : ¬ rwA row 5 = 31) : ¬ isRow row := fun ⟨k, hk, e⟩ => h (by rw [e]; exact lRow_A k hk)
def fitR (w : Nat → Nat → Nat) (row : Nat) : Prop := ∃ k, k < 120 ∧ row = lRow k ∧ hOk w (lPl k)
/-- the next row to come is the k-th -/
def nxR (row k : Nat) : Prop := k ≤ 120 ∧ (∀ i, i < k → lRow i < row) ∧ ∀ i, k ≤ i → i < 120 → row ≤ lRow i
theorem nxR_0 : nxR 1234 0 := ⟨by decide, fun i h => by omega, fun i _ h => (lRow_rg h).1⟩
theorem nxR_s {row k : Nat} (h : nxR row k) : nxR (row + 1) (if k < 120 ∧ row = lRow k then k + 1 else k) := by
  obtain ⟨h1, h2, h3⟩ := h
  by_cases z : k < 120 ∧ row = lRow k
  · rw [if_pos z]
    refine ⟨by omega, fun i hi => ?_, fun i hi hi2 => ?_⟩
    · by_cases y : i = k
      · rw [y]; omega
      · have := h2 i (by omega); omega
    · have := lRow_lt2 i k (by omega) hi2; omega
  · rw [if_neg z]
    refine ⟨h1, fun i hi => by have := h2 i hi; omega, fun i hi hi2 => ?_⟩
    have h4 := h3 i hi hi2
    by_cases y : row = lRow i
    · exfalso
      by_cases y2 : i = k
      · exact z ⟨by omega, by rw [← y2]; exact y⟩
      · have h5 := h3 k (Nat.le_refl _) (by omega)
        have h6 := lRow_lt2 i k (by omega) hi2
        omega
    · omega
theorem nxR_at {row k i : Nat} (h : nxR row k) (hi : i < 120) (e : row = lRow i) : i = k := by
  obtain ⟨h1, h2, h3⟩ := h
  rcases Nat.lt_trichotomy i k with q | q | q
  · have := h2 i q; omega
  · exact q
  · have h4 := h3 k (Nat.le_refl _) (by omega)
    have h5 := lRow_lt2 i k q hi
    omega
theorem nxR_9 {k : Nat} (h : nxR 43211 k) : k = 120 := by
  obtain ⟨h1, h2, h3⟩ := h
  rcases Nat.lt_or_ge k 120 with q | q
  · have h4 := h3 k (Nat.le_refl _) q
    have h5 := (lRow_rg q).2
    omega
  · omega
/-- the fits that are found below the k-th -/
def ffK (w : Nat → Nat → Nat) (ff : Nat → Nat) (k : Nat) : Prop := ∀ i, i < k → hOk w (lPl i) → ff (hCnt w i) = lRow i
theorem hCnt_mono (w : Nat → Nat → Nat) {i : Nat} : ∀ j, i ≤ j → hCnt w i ≤ hCnt w j := by
  intro j
  induction j with
  | zero => intro h; rw [show i = 0 from by omega]; exact Nat.le_refl _
  | succ j ih =>
    intro h
    by_cases z : i = j + 1
    · rw [z]; exact Nat.le_refl _
    · have := ih (by omega)
      rw [hCnt]
      split <;> omega
theorem hCnt_st {w : Nat → Nat → Nat} {i j : Nat} (h : hOk w (lPl i)) (hj : i < j) : hCnt w i < hCnt w j := by
  have h1 := hCnt_mono w j (show i + 1 ≤ j from hj)
  rw [hCnt, if_pos h] at h1
  omega
theorem ffK_yes {w : Nat → Nat → Nat} {ff : Nat → Nat} {row k : Nat} (h : ffK w ff k) (hk : k < 120) (e : row = lRow k) (ho : hOk w (lPl k)) : ffK w (fu ff (hCnt w k) row) (if k < 120 ∧ row = lRow k then k + 1 else k) := by
  rw [if_pos ⟨hk, e⟩]
  intro i hi hi2
  by_cases z : i = k
  · rw [z, fu_eq, e]
  · have := hCnt_st hi2 (show i < k by omega)
    rw [fu_ne (by omega)]
    exact h i (by omega) hi2
theorem ffK_no {w : Nat → Nat → Nat} {ff : Nat → Nat} {row k : Nat} (h : ffK w ff k) (hn : ¬ fitR w row) : ffK w ff (if k < 120 ∧ row = lRow k then k + 1 else k) ∧ hCnt w (if k < 120 ∧ row = lRow k then k + 1 else k) = hCnt w k := by
  by_cases z : k < 120 ∧ row = lRow k
  · rw [if_pos z]
    have hno : ¬ hOk w (lPl k) := fun q => hn ⟨k, z.1, z.2, q⟩
    refine ⟨fun i hi hi2 => ?_, by rw [hCnt, if_neg hno]⟩
    by_cases y : i = k
    · rw [y] at hi2
      exact absurd hi2 hno
    · exact h i (by omega) hi2
  · rw [if_neg z]
    exact ⟨h, rfl⟩
theorem hC_sur {w : Nat → Nat → Nat} {j : Nat} : ∀ n, j < hCnt w n → ∃ k, k < n ∧ hOk w (lPl k) ∧ hCnt w k = j := by
  intro n
  induction n with
  | zero => intro h; exact absurd h (Nat.not_lt_zero _)
  | succ n ih =>
    intro h
    rw [hCnt] at h
    by_cases z : hOk w (lPl n)
    · rw [if_pos z] at h
      by_cases y : j < hCnt w n
      · obtain ⟨k, h1, h2, h3⟩ := ih y
        exact ⟨k, by omega, h2, h3⟩
      · exact ⟨n, by omega, z, by omega⟩
    · rw [if_neg z] at h
      obtain ⟨k, h1, h2, h3⟩ := ih h
      exact ⟨k, by omega, h2, h3⟩
theorem hPr_c {w : Nat → Nat → Nat} (a b : Nat) {i : Nat} : ∀ j, i ≤ j → hCnt w i = hCnt w j → hPr w a b i = hPr w a b j := by
  intro j
  induction j with
  | zero => intro h _; rw [show i = 0 from by omega]
  | succ j ih =>
    intro h e
    by_cases z : i = j + 1
    · rw [z]
    · have h1 := hCnt_mono w j (show i ≤ j by omega)
      rw [hCnt] at e
      by_cases y : hOk w (lPl j)
      · rw [if_pos y] at e
        omega
      · rw [if_neg y] at e
        rw [hPr, if_neg (fun q => y q.1)]
        exact ih (by omega) e
theorem hPr_e {w : Nat → Nat → Nat} (a b : Nat) {i j : Nat} (e : hCnt w i = hCnt w j) : hPr w a b i = hPr w a b j := by
  rcases Nat.le_total i j with q | q
  · exact hPr_c a b j q e
  · exact (hPr_c a b i q e.symm).symm
theorem u_cm1 {x : Int32} {c : Nat} (hc : c ≤ 120) : inr x 0 (nI c - 1) ↔ ∃ j, j < c ∧ x = nI j := by
  cases c with
  | zero =>
    refine ⟨fun h => ?_, fun ⟨j, h, _⟩ => by omega⟩
    have h1 := Int32.le_trans h.1 h.2
    exact absurd h1 (by decide)
  | succ c =>
    rw [show nI (c + 1) - 1 = nI c from pk_sub (a := c + 1) (b := 1) (by omega)]
    constructor
    · intro h
      obtain ⟨j, h1, h2⟩ := u_rng2 h.1 h.2 (by omega)
      exact ⟨j, by omega, h2⟩
    · rintro ⟨j, h1, rfl⟩
      exact u_inn0 (by omega) (by omega)
/-- whom to ask about, two by two -/
def aS (w : Nat → Nat → Nat) : Nat → Option (Nat × Nat)
  | 0 => none
  | t + 1 => if t / 10 < t % 10 ∧ t % 10 < 5 then qU (aS w t) (t / 10) (t % 10) (qL w (t / 10) (t % 10)) else aS w t
theorem aS_35 (w : Nat → Nat → Nat) : aS w 35 = qA w 5 := rfl
theorem aS_1 (w : Nat → Nat → Nat) : aS w 1 = none := rfl
theorem qL_l2 (w : Nat → Nat → Nat) (a b : Nat) : qL w a b ≤ hCnt w 120 := by
  have := hPr_le w a b 120
  unfold qL
  omega
/-- the best two so far, as the reference has them -/
def asI (w : Nat → Nat → Nat) (t : Nat) (bt : Int32) (fw : Nat) : Prop := (aS w t = none ∧ bt = -6 ∧ fw = hCnt w 120 + 1) ∨ ∃ x, aS w t = some x ∧ x.1 < 100 ∧ bt = nI x.1 ∧ fw = x.2
theorem asI_y {w : Nat → Nat → Nat} {t : Nat} {bt : Int32} {fw : Nat} (h : asI w t bt fw) (ht : t < 35) (hi : t / 10 < t % 10 ∧ t % 10 < 5) (hq : qL w (t / 10) (t % 10) < fw) : asI w (t + 1) (nI t) (qL w (t / 10) (t % 10)) := by
  refine Or.inr ⟨(t, qL w (t / 10) (t % 10)), ?_, by show t < 100; omega, rfl, rfl⟩
  rw [aS, if_pos hi]
  have e : 10 * (t / 10) + t % 10 = t := by omega
  rcases h with ⟨h1, -⟩ | ⟨x, h1, -, -, h2⟩
  · rw [h1]
    show some (10 * (t / 10) + t % 10, _) = _
    rw [e]
  · rw [h1]
    show (if qL w (t / 10) (t % 10) < x.2 then some (10 * (t / 10) + t % 10, qL w (t / 10) (t % 10)) else some x) = _
    rw [if_pos (by omega), e]
theorem asI_n {w : Nat → Nat → Nat} {t : Nat} {bt : Int32} {fw : Nat} (h : asI w t bt fw) (hi : t / 10 < t % 10 ∧ t % 10 < 5) (hq : ¬ qL w (t / 10) (t % 10) < fw) : asI w (t + 1) bt fw := by
  have hl := qL_l2 w (t / 10) (t % 10)
  rcases h with ⟨h1, h2, h3⟩ | ⟨x, h1, h2, h3, h4⟩
  · omega
  · refine Or.inr ⟨x, ?_, h2, h3, h4⟩
    rw [aS, if_pos hi, h1]
    show (if qL w (t / 10) (t % 10) < x.2 then some (10 * (t / 10) + t % 10, qL w (t / 10) (t % 10)) else some x) = _
    rw [if_neg (by omega)]
theorem asI_o {w : Nat → Nat → Nat} {t : Nat} {bt : Int32} {fw : Nat} (h : asI w t bt fw) (hi : ¬ (t / 10 < t % 10 ∧ t % 10 < 5)) : asI w (t + 1) bt fw := by
  unfold asI
  rw [aS, if_neg hi]
  exact h
theorem qX12_readRow_61 : Cond.fieldLink RX12 61 (TX12 28).1 (TX12 28).2.1 (TX12 28).2.2.1 ∈ wsX12_readRow := List.mem_of_getElem? (i := 1) rfl
theorem iX12_readRow_X12 : ∀ w ∈ wsX120, w ∈ wsX12_readRow := fun _ h => List.mem_cons_of_mem _ (List.mem_append_right _ h)
theorem qX12_isFit_300 : Cond.fieldLink RX12 300 (TX12 10).1 (TX12 10).2.1 (TX12 10).2.2.1 ∈ wsX12_isFit := List.mem_of_getElem? (i := 1) rfl
theorem iX12_isFit_X12 : ∀ w ∈ wsX120, w ∈ wsX12_isFit := fun _ h => List.mem_cons_of_mem _ (List.mem_append_right _ h)
theorem qX12_isFit_61 : Cond.fieldLink RX12 61 (TX12 28).1 (TX12 28).2.1 (TX12 28).2.2.1 ∈ wsX12_isFit := List.mem_of_getElem? (i := 2) rfl
theorem qX12_isFit_28 : Cond.fieldLink RX12 28 (TX12 8).1 (TX12 8).2.1 (TX12 8).2.2.1 ∈ wsX12_isFit := List.mem_of_getElem? (i := 3) rfl
theorem qX12_isFit_31 : Cond.fieldLink RX12 31 (TX12 9).1 (TX12 9).2.1 (TX12 9).2.2.1 ∈ wsX12_isFit := List.mem_of_getElem? (i := 4) rfl
theorem qX12_findFits_306 : Cond.fieldLink RX12 306 (TX12 30).1 (TX12 30).2.1 (TX12 30).2.2.1 ∈ wsX12_findFits := List.mem_of_getElem? (i := 1) rfl
theorem iX12_findFits_X12 : ∀ w ∈ wsX120, w ∈ wsX12_findFits := fun _ h => List.mem_cons_of_mem _ (List.mem_append_right _ h)
theorem qX12_findFits_309 : Cond.constant RX12 309 43210 ∈ wsX12_findFits := List.mem_of_getElem? (i := 2) rfl
theorem qX12_findFits_64 : Cond.fieldLink RX12 64 (TX12 29).1 (TX12 29).2.1 (TX12 29).2.2.1 ∈ wsX12_findFits := List.mem_of_getElem? (i := 3) rfl
theorem qX12_fits_306 : Cond.fieldLink RX12 306 (TX12 30).1 (TX12 30).2.1 (TX12 30).2.2.1 ∈ wsX12_fits := List.mem_of_getElem? (i := 1) rfl
theorem iX12_fits_X12 : ∀ w ∈ wsX120, w ∈ wsX12_fits := fun _ h => List.mem_cons_of_mem _ (List.mem_append_right _ h)
theorem qX12_fits_64 : Cond.fieldLink RX12 64 (TX12 29).1 (TX12 29).2.1 (TX12 29).2.2.1 ∈ wsX12_fits := List.mem_of_getElem? (i := 2) rfl
theorem qX12_mostLeft_306 : Cond.fieldLink RX12 306 (TX12 30).1 (TX12 30).2.1 (TX12 30).2.2.1 ∈ wsX12_mostLeft := List.mem_of_getElem? (i := 1) rfl
theorem iX12_mostLeft_X12 : ∀ w ∈ wsX120, w ∈ wsX12_mostLeft := fun _ h => List.mem_cons_of_mem _ (List.mem_append_right _ h)
theorem qX12_mostLeft_64 : Cond.fieldLink RX12 64 (TX12 29).1 (TX12 29).2.1 (TX12 29).2.2.1 ∈ wsX12_mostLeft := List.mem_of_getElem? (i := 2) rfl
theorem qX12_mostLeft_61 : Cond.fieldLink RX12 61 (TX12 28).1 (TX12 28).2.1 (TX12 28).2.2.1 ∈ wsX12_mostLeft := List.mem_of_getElem? (i := 3) rfl
theorem qX12_ask_306 : Cond.fieldLink RX12 306 (TX12 30).1 (TX12 30).2.1 (TX12 30).2.2.1 ∈ wsX12_ask := List.mem_of_getElem? (i := 1) rfl
theorem iX12_ask_X12 : ∀ w ∈ wsX120, w ∈ wsX12_ask := fun _ h => List.mem_cons_of_mem _ (List.mem_append_right _ h)
set_option maxHeartbeats 4000000 in
set_option maxRecDepth 100000 in
theorem c_X12_readRow0 (l : Launch) (G : uG) (row : Nat) (hrow : row < 100000) (M : uM) (f : Nat → Nat) : CTi l G yX12_readRow wsX12_readRow 0 0 [.ref (G.2.2 71), .int (nI row)] (uAr M 89 f) (fun r M2 => ∃ f2, M2 = uAr M 89 f2 ∧ ((r = 1 ∧ ∃ k, rwIs row f2 k) ∨ (r = 0 ∧ ¬ isRow row))) := by
  refine ustart_i (cc := cX12_readRow) (maxL := 5) (ret := (some .boolean)) (own := RX12) rfl (by decide) rfl (Nat.le_of_ble_eq_true rfl) ?_
  intro xp xe xs xm xa xb xt xc xA ls S hK hA Z hre hlk hl
  have hl : lv_has ls 5 [(0, .ref (G.2.2 71)), (1, .int (nI row))] := hl
  refine lv_iload_n S.1 S.2.1 dX12_readRow_0 rfl (lv_at hl 1 rfl) ?_
  refine lv_istore_n (lv' := [(2, .int (nI row)), (0, .ref (G.2.2 71)), (1, .int (nI row))]) S.1 S.2.1 dX12_readRow_1 rfl hl (by decide) rfl (fun ls hl => ?_)
  refine lv_iconst (v := 0) S.1 S.2.1 dX12_readRow_2 (by decide) ?_
  refine lv_istore_n (lv' := [(3, .int 0), (2, .int (nI row)), (0, .ref (G.2.2 71)), (1, .int (nI row))]) S.1 S.2.1 dX12_readRow_3 rfl hl (by decide) rfl (fun ls hl => ?_)
  refine lv_iconst (v := 4) S.1 S.2.1 dX12_readRow_4 (by decide) ?_
  refine lv_istore (lv' := [(4, .int 4), (3, .int 0), (2, .int (nI row)), (0, .ref (G.2.2 71)), (1, .int (nI row))]) S.1 S.2.1 dX12_readRow_5 hl (by decide) rfl (fun ls hl => ?_)
  have LP7 : ∀ (fU : Nat) (q : Nat) (x4 : Int32) (rs : Nat) (al : Nat) (h : Nat → Nat), (q < fU) → (q ≤ 5) → ((q = 0 ∧ x4 = -1) ∨ ∃ q1, q = q1 + 1 ∧ x4 = nI q1) → (rs = row / 10 ^ (5 - q)) → (al = rwA row (5 - q)) → (h = rwF f row (5 - q)) → ∀ (H : Heap) (locs : List Loc) (ls : Array Slot), uZ G xA (uAr M 89 h) xs.heap H locs → lv_has ls 5 [(4, .int x4), (3, .int (nI al)), (2, .int (nI rs)), (0, .ref (G.2.2 71)), (1, .int (nI row))] → W xp l xe (uRm 0 0) xs xm xa xb xt xc H locs 0 0 (MQ xb (va_Qi (fun r M2 => ∃ f2, M2 = uAr M 89 f2 ∧ ((r = 1 ∧ ∃ k, rwIs row f2 k) ∨ (r = 0 ∧ ¬ isRow row))) (fun M' t => uB G M' t) xA) xa xs 0 0 xA) (F0 xm 7 ls []) := by
    intro fU
    induction fU with
    | zero =>
      intro q x4 rs al h hfl hq hx hr ha hh H locs ls Z hl
      exfalso
      omega
    | succ fU ih7 =>
      intro q x4 rs al h hfl hq hx hr ha hh H locs ls Z hl
      have hrb : rs < 2147483648 := by rw [hr]; exact div_bd _ _ (by omega)
      have hal := rwA_lt row (5 - q)
      rcases hx with ⟨hq0, hx⟩ | ⟨q1, hq0, hx⟩
      · skip
        subst hq0
        subst hx
        refine lv_iload S.1 S.2.1 dX12_readRow_7 (lv_at hl 0 rfl) ?_
        refine lv_if_lt (tgt := 43) S.1 S.2.1 dX12_readRow_9 (by decide) (fun _ => ?_) (fun c => absurd c (by decide))
        refine lv_iload_n S.1 S.2.1 dX12_readRow_43 rfl (lv_at hl 1 rfl) ?_
        refine lv_bipush (v := 31) S.1 S.2.1 dX12_readRow_44 (by decide) ?_
        refine lv_icmp_ne (tgt := 53) S.1 S.2.1 dX12_readRow_46 (by decide) (fun c_2 => ?_) (fun c_2 => ?_)
        · skip
          have c_2 : ¬ al = 31 := fun z9 => c_2 ((nI_eq (a := al) (b := 31) (by omega) (by omega)).mpr z9)
          refine lv_iconst (v := 0) S.1 S.2.1 dX12_readRow_53 (by decide) ?_
          refine uret_z S hK Z hre hlk (by decide) dX12_readRow_54 ?_
          rw [Nat.sub_zero] at ha hh
          rw [hh]
          exact ⟨_, rfl, Or.inr ⟨rfl, rw_no (by omega)⟩⟩
        · skip
          have c_2 : al = 31 := (nI_eq (a := al) (b := 31) (by omega) (by omega)).mp c_2
          refine lv_iconst (v := 1) S.1 S.2.1 dX12_readRow_49 (by decide) ?_
          refine lv_goto (tgt := 54) S.1 S.2.1 dX12_readRow_50 (by decide) ?_
          refine uret_z S hK Z hre hlk (by decide) dX12_readRow_54 ?_
          rw [Nat.sub_zero] at ha hh
          rw [hh]
          exact ⟨_, rfl, Or.inl ⟨rfl, rw_yes hrow (by omega)⟩⟩
      · skip
        subst hq0
        subst hx
        refine lv_iload S.1 S.2.1 dX12_readRow_7 (lv_at hl 0 rfl) ?_
        refine lv_if_lt (tgt := 43) S.1 S.2.1 dX12_readRow_9 (by decide) (fun c_3 => ?_) (fun c_3 => ?_)
        · skip
          have c_3 : q1 < 0 := (nI_ltI (a := q1) (b := 0) (by omega) (by omega)).mp c_3
          omega
        · skip
          have c_3 : ¬ q1 < 0 := fun z9 => c_3 ((nI_ltI (a := q1) (b := 0) (by omega) (by omega)).mpr z9)
          refine lv_aload_n S.1 S.2.1 dX12_readRow_12 rfl (lv_at hl 3 rfl) ?_
          refine ug_r S hK Z (j := 28) 89 (by decide) rfl rfl rfl (by decide) iX12_readRow_X12 qX12_readRow_61 dX12_readRow_13 ?_
          refine lv_iload_n S.1 S.2.1 dX12_readRow_16 rfl (lv_at hl 2 rfl) ?_
          refine lv_bipush (v := 10) S.1 S.2.1 dX12_readRow_17 (by decide) ?_
          refine lv_irem S.1 S.2.1 dX12_readRow_19 (by decide) ?_
          refine utop (pk_rem (a := rs) (d := 10) (by omega) (by omega) (by omega)) ?_
          refine lv_iload S.1 S.2.1 dX12_readRow_20 (lv_at hl 0 rfl) ?_
          refine ua_ist S hK Z (rs % 10) (by decide) rfl rfl (by omega) dX12_readRow_22 (fun H locs Z => ?_)
          have Z := uZ_eq (uAr_s M 89 h (rs % 10) q1) Z
          refine lv_iload_n S.1 S.2.1 dX12_readRow_23 rfl (lv_at hl 1 rfl) ?_
          refine lv_iconst (v := 1) S.1 S.2.1 dX12_readRow_24 (by decide) ?_
          refine lv_iload_n S.1 S.2.1 dX12_readRow_25 rfl (lv_at hl 2 rfl) ?_
          refine lv_bipush (v := 10) S.1 S.2.1 dX12_readRow_26 (by decide) ?_
          refine lv_irem S.1 S.2.1 dX12_readRow_28 (by decide) ?_
          refine utop (pk_rem (a := rs) (d := 10) (by omega) (by omega) (by omega)) ?_
          refine lv_ishl S.1 S.2.1 dX12_readRow_29 ?_
          refine utop (u_shl1 (k := (rs % 10)) (by omega)) ?_
          refine lv_ior S.1 S.2.1 dX12_readRow_30 ?_
          refine utop (nx_or al (2 ^ (rs % 10))) ?_
          refine lv_istore_n (lv' := [(3, .int (nI (al ||| (2 ^ (rs % 10))))), (4, .int (nI q1)), (2, .int (nI rs)), (0, .ref (G.2.2 71)), (1, .int (nI row))]) S.1 S.2.1 dX12_readRow_31 rfl hl (by decide) rfl (fun ls hl => ?_)
          refine lv_iload_n S.1 S.2.1 dX12_readRow_32 rfl (lv_at hl 2 rfl) ?_
          refine lv_bipush (v := 10) S.1 S.2.1 dX12_readRow_33 (by decide) ?_
          refine lv_idiv S.1 S.2.1 dX12_readRow_35 (by decide) ?_
          refine utop (pk_div (a := rs) (d := 10) (by omega) (by omega) (by omega)) ?_
          refine lv_istore_n (lv' := [(2, .int (nI (rs / 10))), (3, .int (nI (al ||| (2 ^ (rs % 10))))), (4, .int (nI q1)), (0, .ref (G.2.2 71)), (1, .int (nI row))]) S.1 S.2.1 dX12_readRow_36 rfl hl (by decide) rfl (fun ls hl => ?_)
          refine lv_iinc (v := ((nI q1) + (-1))) (lv' := [(4, .int ((nI q1) + (-1))), (2, .int (nI (rs / 10))), (3, .int (nI (al ||| (2 ^ (rs % 10))))), (0, .ref (G.2.2 71)), (1, .int (nI row))]) S.1 S.2.1 dX12_readRow_37 hl (k := 2) rfl rfl (by decide) rfl (fun ls hl => ?_)
          refine lv_goto (tgt := 7) S.1 S.2.1 dX12_readRow_40 (by decide) ?_
          exact ih7 q1 ((nI q1) + (-1)) (rs / 10) (al ||| (2 ^ (rs % 10))) (fu h (rs % 10) q1) (by omega) (by omega) (by exact u_down q1) (by rw [hr, dg_div, show 5 - (q1 + 1) + 1 = 5 - q1 from by omega]) (by rw [show 5 - q1 = (5 - (q1 + 1)) + 1 from by omega, rwA, ← ha, ← hr]) (by rw [show 5 - q1 = (5 - (q1 + 1)) + 1 from by omega, rwF, ← hh, ← hr, show 4 - (5 - (q1 + 1)) = q1 from by omega]) _ _ _ Z (lv_sub hl [0, 2, 1, 3, 4] rfl)
  exact LP7 6 5 4 row 0 f (by omega) (by omega) (by exact Or.inr ⟨4, rfl, rfl⟩) (by rw [Nat.sub_self, Nat.pow_zero, Nat.div_one]) (by rfl) (by rfl) _ _ _ Z (lv_sub hl [0, 1, 2, 3, 4] rfl)
theorem c_X12_readRow (l : Launch) (G : uG) (row : Nat) (hrow : row < 100000) (M : uM) : CTi l G yX12_readRow wsX12_readRow 0 0 [.ref (G.2.2 71), .int (nI row)] M (fun r M2 => ∃ f2, M2 = uAr M 89 f2 ∧ ((r = 1 ∧ ∃ k, rwIs row f2 k) ∨ (r = 0 ∧ ¬ isRow row))) := by
  obtain ⟨f, hf⟩ := uAr_ex M 89
  have h := c_X12_readRow0 l G row hrow M f
  rw [hf] at h
  exact h
set_option maxHeartbeats 4000000 in
set_option maxRecDepth 100000 in
theorem c_X12_isFit (l : Launch) (G : uG) (row : Nat) (hrow : row < 100000) (M : uM) (w : Nat → Nat → Nat) (hw : wOk w) (h10 : M.1 71 10 = nI (w 7 2)) (h78 : ∀ i, M.1 78 i = nI (w 8 i)) (h79 : ∀ i, M.1 79 i = nI (w 9 i)) : CTi l G yX12_isFit wsX12_isFit 1 24 [.ref (G.2.2 71), .int (nI row)] M (fun r M2 => ∃ f2, M2 = uAr M 89 f2 ∧ ((r = 1 ∧ fitR w row) ∨ (r = 0 ∧ ¬ fitR w row))) := by
  have h72 := hw.2.2.2.2.1
  refine ustart_i (cc := cX12_isFit) (maxL := 4) (ret := (some .boolean)) (own := RX12) rfl (by decide) rfl (Nat.le_of_ble_eq_true rfl) ?_
  intro xp xe xs xm xa xb xt xc xA ls S hK hA Z hre hlk hl
  have hl : lv_has ls 4 [(0, .ref (G.2.2 71)), (1, .int (nI row))] := hl
  refine lv_aload_n S.1 S.2.1 dX12_isFit_0 rfl (lv_at hl 0 rfl) ?_
  refine lv_iload_n S.1 S.2.1 dX12_isFit_1 rfl (lv_at hl 1 rfl) ?_
  refine uc_Vi (As := [.int (nI row)]) (rest := []) S hK hA Z (c_X12_readRow l G row hrow M) (cwV 1 S.2.2.2.2 gX12_isFit_X12_readRow rfl rfl rfl (by decide +kernel) ⟨Nat.le_of_ble_eq_true rfl, Nat.le_of_ble_eq_true rfl⟩) (by decide) rfl rfl rfl hl.1 rfl (Nat.le_of_ble_eq_true rfl) dX12_isFit_2 ⟨Nat.zero_le _, Nat.zero_le _⟩ (fun r_1 M_1 H locs hp Z => ?_)
  obtain ⟨f2, hM, ⟨rfl, k0, hk0⟩ | ⟨rfl, hno⟩⟩ := hp
  · skip
    rw [hM] at Z
    refine lv_istore_n (lv' := [(2, .int 1), (0, .ref (G.2.2 71)), (1, .int (nI row))]) S.1 S.2.1 dX12_isFit_5 rfl hl (by decide) rfl (fun ls hl => ?_)
    refine lv_iconst (v := 0) S.1 S.2.1 dX12_isFit_6 (by decide) ?_
    refine lv_istore_n (lv' := [(3, .int 0), (2, .int 1), (0, .ref (G.2.2 71)), (1, .int (nI row))]) S.1 S.2.1 dX12_isFit_7 rfl hl (by decide) rfl (fun ls hl => ?_)
    have LP8 : ∀ (fU : Nat) (z : Int32) (e : Nat), (8 < e + fU) → (e ≤ w 7 2) → ((z = 1 ∧ ∃ k, k < 120 ∧ row = lRow k ∧ (∀ x, x < 5 → f2 x = lPl k x) ∧ ∀ i, i < e → lPl k (w 8 i) < lPl k (w 9 i)) ∨ (z = 0 ∧ ¬ fitR w row)) → ∀ (H : Heap) (locs : List Loc) (ls : Array Slot), uZ G xA (uAr M 89 f2) xs.heap H locs → lv_has ls 4 [(3, .int (nI e)), (2, .int z), (0, .ref (G.2.2 71)), (1, .int (nI row))] → W xp l xe (uRm 1 24) xs xm xa xb xt xc H locs 0 0 (MQ xb (va_Qi (fun r M2 => ∃ f2, M2 = uAr M 89 f2 ∧ ((r = 1 ∧ fitR w row) ∨ (r = 0 ∧ ¬ fitR w row))) (fun M' t => uB G M' t) xA) xa xs 0 0 xA) (F0 xm 8 ls []) := by
      intro fU
      induction fU with
      | zero =>
        intro z e hfl i1 hz H locs ls Z hl
        exfalso
        omega
      | succ fU ih8 =>
        intro z e hfl i1 hz H locs ls Z hl
        refine lv_iload_n S.1 S.2.1 dX12_isFit_8 rfl (lv_at hl 0 rfl) ?_
        refine lv_aload_n S.1 S.2.1 dX12_isFit_9 rfl (lv_at hl 2 rfl) ?_
        refine ug_i S hK Z (j := 10) (by decide) rfl rfl rfl (by decide) iX12_isFit_X12 qX12_isFit_300 dX12_isFit_10 ?_
        refine utop (y := (nI (w 7 2))) ((uAr_o M 89 f2 10 (a := 71) (by decide)).trans h10) ?_
        refine lv_icmp_ge (tgt := 57) S.1 S.2.1 dX12_isFit_13 (by decide) (fun c_2 => ?_) (fun c_2 => ?_)
        · skip
          have c_2 : (w 7 2) ≤ e := (nI_leI (a := (w 7 2)) (b := e) (by omega) (by omega)).mp c_2
          rcases hz with ⟨rfl, k, hk1, hk2, hk3, hk4⟩ | ⟨rfl, hz2⟩
          · skip
            have hd := hw.2.1
            refine lv_iload_n S.1 S.2.1 dX12_isFit_57 rfl (lv_at hl 1 rfl) ?_
            refine uret_z S hK Z hre hlk (by decide) dX12_isFit_58 ?_
            exact ⟨f2, rfl, Or.inl ⟨rfl, k, hk1, hk2, fun i hi => hk4 i (by omega)⟩⟩
          · skip
            refine lv_iload_n S.1 S.2.1 dX12_isFit_57 rfl (lv_at hl 1 rfl) ?_
            refine uret_z S hK Z hre hlk (by decide) dX12_isFit_58 ?_
            exact ⟨f2, rfl, Or.inr ⟨rfl, hz2⟩⟩
        · skip
          have c_2 : ¬ (w 7 2) ≤ e := fun z9 => c_2 ((nI_leI (a := (w 7 2)) (b := e) (by omega) (by omega)).mpr z9)
          rcases hz with ⟨rfl, k, hk1, hk2, hk3, hk4⟩ | ⟨rfl, hz2⟩
          · skip
            have hd := hw.2.1
            refine lv_iload_n S.1 S.2.1 dX12_isFit_16 rfl (lv_at hl 1 rfl) ?_
            refine lv_if_eq (tgt := 57) S.1 S.2.1 dX12_isFit_17 (by decide) (fun c => absurd c (by decide)) (fun _ => ?_)
            obtain ⟨-, -, b3, b4⟩ := hd e (by omega)
            have b5 : f2 (w 8 e) < 5 := by rw [hk3 _ b3]; exact lPl_lt k hk1 _ b3
            have b6 : f2 (w 9 e) < 5 := by rw [hk3 _ b4]; exact lPl_lt k hk1 _ b4
            refine lv_aload_n S.1 S.2.1 dX12_isFit_20 rfl (lv_at hl 2 rfl) ?_
            refine ug_r S hK Z (j := 28) 89 (by decide) rfl rfl rfl (by decide) iX12_isFit_X12 qX12_isFit_61 dX12_isFit_21 ?_
            refine lv_aload_n S.1 S.2.1 dX12_isFit_24 rfl (lv_at hl 2 rfl) ?_
            refine ug_r S hK Z (j := 8) 78 (by decide) rfl rfl rfl (by decide) iX12_isFit_X12 qX12_isFit_28 dX12_isFit_25 ?_
            refine lv_iload_n S.1 S.2.1 dX12_isFit_28 rfl (lv_at hl 0 rfl) ?_
            refine ua_ild S hK Z e (by decide) rfl rfl (by omega) dX12_isFit_29 ?_
            refine utop (y := (nI (w 8 e))) ((uAr_o M 89 f2 e (a := 78) (by decide)).trans (h78 e)) ?_
            refine ua_ild S hK Z (w 8 e) (by decide) rfl rfl (by omega) dX12_isFit_30 ?_
            refine utop (y := (nI (f2 (w 8 e)))) (uAr_g M 89 f2 (w 8 e)) ?_
            refine lv_aload_n S.1 S.2.1 dX12_isFit_31 rfl (lv_at hl 2 rfl) ?_
            refine ug_r S hK Z (j := 28) 89 (by decide) rfl rfl rfl (by decide) iX12_isFit_X12 qX12_isFit_61 dX12_isFit_32 ?_
            refine lv_aload_n S.1 S.2.1 dX12_isFit_35 rfl (lv_at hl 2 rfl) ?_
            refine ug_r S hK Z (j := 9) 79 (by decide) rfl rfl rfl (by decide) iX12_isFit_X12 qX12_isFit_31 dX12_isFit_36 ?_
            refine lv_iload_n S.1 S.2.1 dX12_isFit_39 rfl (lv_at hl 0 rfl) ?_
            refine ua_ild S hK Z e (by decide) rfl rfl (by omega) dX12_isFit_40 ?_
            refine utop (y := (nI (w 9 e))) ((uAr_o M 89 f2 e (a := 79) (by decide)).trans (h79 e)) ?_
            refine ua_ild S hK Z (w 9 e) (by decide) rfl rfl (by omega) dX12_isFit_41 ?_
            refine utop (y := (nI (f2 (w 9 e)))) (uAr_g M 89 f2 (w 9 e)) ?_
            refine lv_icmp_ge (tgt := 49) S.1 S.2.1 dX12_isFit_42 (by decide) (fun c_4 => ?_) (fun c_4 => ?_)
            · skip
              have c_4 : (f2 (w 9 e)) ≤ (f2 (w 8 e)) := (nI_leI (a := (f2 (w 9 e))) (b := (f2 (w 8 e))) (by omega) (by omega)).mp c_4
              refine lv_iconst (v := 0) S.1 S.2.1 dX12_isFit_49 (by decide) ?_
              refine lv_istore_n (lv' := [(2, .int 0), (3, .int (nI e)), (0, .ref (G.2.2 71)), (1, .int (nI row))]) S.1 S.2.1 dX12_isFit_50 rfl hl (by decide) rfl (fun ls hl => ?_)
              refine lv_iinc (v := (nI (e + 1))) (lv' := [(3, .int (nI (e + 1))), (2, .int 0), (0, .ref (G.2.2 71)), (1, .int (nI row))]) S.1 S.2.1 dX12_isFit_51 hl (k := 1) rfl (u_inc1 e) (by decide) rfl (fun ls hl => ?_)
              refine lv_goto (tgt := 8) S.1 S.2.1 dX12_isFit_54 (by decide) ?_
              exact ih8 0 (e + 1) (by omega) (by omega) (by
                  refine Or.inr ⟨rfl, fun ⟨k2, y1, y2, y3⟩ => ?_⟩
                  have y4 := lRow_inj hk1 y1 (hk2.symm.trans y2)
                  subst y4
                  have y5 := y3 e (by omega)
                  rw [← hk3 _ b3, ← hk3 _ b4] at y5
                  omega) _ _ _ Z (lv_sub hl [0, 1, 2, 3] rfl)
            · skip
              have c_4 : ¬ (f2 (w 9 e)) ≤ (f2 (w 8 e)) := fun z9 => c_4 ((nI_leI (a := (f2 (w 9 e))) (b := (f2 (w 8 e))) (by omega) (by omega)).mpr z9)
              refine lv_iconst (v := 1) S.1 S.2.1 dX12_isFit_45 (by decide) ?_
              refine lv_goto (tgt := 50) S.1 S.2.1 dX12_isFit_46 (by decide) ?_
              refine lv_istore_n (lv' := [(2, .int 1), (3, .int (nI e)), (0, .ref (G.2.2 71)), (1, .int (nI row))]) S.1 S.2.1 dX12_isFit_50 rfl hl (by decide) rfl (fun ls hl => ?_)
              refine lv_iinc (v := (nI (e + 1))) (lv' := [(3, .int (nI (e + 1))), (2, .int 1), (0, .ref (G.2.2 71)), (1, .int (nI row))]) S.1 S.2.1 dX12_isFit_51 hl (k := 1) rfl (u_inc1 e) (by decide) rfl (fun ls hl => ?_)
              refine lv_goto (tgt := 8) S.1 S.2.1 dX12_isFit_54 (by decide) ?_
              exact ih8 1 (e + 1) (by omega) (by omega) (by
                  refine Or.inl ⟨rfl, k, hk1, hk2, hk3, fun i hi => ?_⟩
                  by_cases y : i = e
                  · subst y
                    rw [← hk3 _ b3, ← hk3 _ b4]
                    omega
                  · exact hk4 i (by omega)) _ _ _ Z (lv_sub hl [0, 1, 2, 3] rfl)
          · skip
            refine lv_iload_n S.1 S.2.1 dX12_isFit_16 rfl (lv_at hl 1 rfl) ?_
            refine lv_if_eq (tgt := 57) S.1 S.2.1 dX12_isFit_17 (by decide) (fun _ => ?_) (fun c => absurd c (by decide))
            refine lv_iload_n S.1 S.2.1 dX12_isFit_57 rfl (lv_at hl 1 rfl) ?_
            refine uret_z S hK Z hre hlk (by decide) dX12_isFit_58 ?_
            exact ⟨f2, rfl, Or.inr ⟨rfl, hz2⟩⟩
    exact LP8 9 1 0 (by omega) (by omega) (by
        first
          | exact Or.inl ⟨rfl, k0, hk0.1, hk0.2.1, hk0.2.2, fun i hi => by omega⟩
          | exact Or.inr ⟨rfl, fun ⟨k2, y1, y2, y3⟩ => hno ⟨k2, y1, y2⟩⟩) _ _ _ Z (lv_sub hl [0, 1, 2, 3] rfl)
  · skip
    rw [hM] at Z
    refine lv_istore_n (lv' := [(2, .int 0), (0, .ref (G.2.2 71)), (1, .int (nI row))]) S.1 S.2.1 dX12_isFit_5 rfl hl (by decide) rfl (fun ls hl => ?_)
    refine lv_iconst (v := 0) S.1 S.2.1 dX12_isFit_6 (by decide) ?_
    refine lv_istore_n (lv' := [(3, .int 0), (2, .int 0), (0, .ref (G.2.2 71)), (1, .int (nI row))]) S.1 S.2.1 dX12_isFit_7 rfl hl (by decide) rfl (fun ls hl => ?_)
    have LP8 : ∀ (fU : Nat) (z : Int32) (e : Nat), (8 < e + fU) → (e ≤ w 7 2) → ((z = 1 ∧ ∃ k, k < 120 ∧ row = lRow k ∧ (∀ x, x < 5 → f2 x = lPl k x) ∧ ∀ i, i < e → lPl k (w 8 i) < lPl k (w 9 i)) ∨ (z = 0 ∧ ¬ fitR w row)) → ∀ (H : Heap) (locs : List Loc) (ls : Array Slot), uZ G xA (uAr M 89 f2) xs.heap H locs → lv_has ls 4 [(3, .int (nI e)), (2, .int z), (0, .ref (G.2.2 71)), (1, .int (nI row))] → W xp l xe (uRm 1 24) xs xm xa xb xt xc H locs 0 0 (MQ xb (va_Qi (fun r M2 => ∃ f2, M2 = uAr M 89 f2 ∧ ((r = 1 ∧ fitR w row) ∨ (r = 0 ∧ ¬ fitR w row))) (fun M' t => uB G M' t) xA) xa xs 0 0 xA) (F0 xm 8 ls []) := by
      intro fU
      induction fU with
      | zero =>
        intro z e hfl i1 hz H locs ls Z hl
        exfalso
        omega
      | succ fU ih8 =>
        intro z e hfl i1 hz H locs ls Z hl
        refine lv_iload_n S.1 S.2.1 dX12_isFit_8 rfl (lv_at hl 0 rfl) ?_
        refine lv_aload_n S.1 S.2.1 dX12_isFit_9 rfl (lv_at hl 2 rfl) ?_
        refine ug_i S hK Z (j := 10) (by decide) rfl rfl rfl (by decide) iX12_isFit_X12 qX12_isFit_300 dX12_isFit_10 ?_
        refine utop (y := (nI (w 7 2))) ((uAr_o M 89 f2 10 (a := 71) (by decide)).trans h10) ?_
        refine lv_icmp_ge (tgt := 57) S.1 S.2.1 dX12_isFit_13 (by decide) (fun c_6 => ?_) (fun c_6 => ?_)
        · skip
          have c_6 : (w 7 2) ≤ e := (nI_leI (a := (w 7 2)) (b := e) (by omega) (by omega)).mp c_6
          rcases hz with ⟨rfl, k, hk1, hk2, hk3, hk4⟩ | ⟨rfl, hz2⟩
          · skip
            have hd := hw.2.1
            refine lv_iload_n S.1 S.2.1 dX12_isFit_57 rfl (lv_at hl 1 rfl) ?_
            refine uret_z S hK Z hre hlk (by decide) dX12_isFit_58 ?_
            exact ⟨f2, rfl, Or.inl ⟨rfl, k, hk1, hk2, fun i hi => hk4 i (by omega)⟩⟩
          · skip
            refine lv_iload_n S.1 S.2.1 dX12_isFit_57 rfl (lv_at hl 1 rfl) ?_
            refine uret_z S hK Z hre hlk (by decide) dX12_isFit_58 ?_
            exact ⟨f2, rfl, Or.inr ⟨rfl, hz2⟩⟩
        · skip
          have c_6 : ¬ (w 7 2) ≤ e := fun z9 => c_6 ((nI_leI (a := (w 7 2)) (b := e) (by omega) (by omega)).mpr z9)
          rcases hz with ⟨rfl, k, hk1, hk2, hk3, hk4⟩ | ⟨rfl, hz2⟩
          · skip
            have hd := hw.2.1
            refine lv_iload_n S.1 S.2.1 dX12_isFit_16 rfl (lv_at hl 1 rfl) ?_
            refine lv_if_eq (tgt := 57) S.1 S.2.1 dX12_isFit_17 (by decide) (fun c => absurd c (by decide)) (fun _ => ?_)
            obtain ⟨-, -, b3, b4⟩ := hd e (by omega)
            have b5 : f2 (w 8 e) < 5 := by rw [hk3 _ b3]; exact lPl_lt k hk1 _ b3
            have b6 : f2 (w 9 e) < 5 := by rw [hk3 _ b4]; exact lPl_lt k hk1 _ b4
            refine lv_aload_n S.1 S.2.1 dX12_isFit_20 rfl (lv_at hl 2 rfl) ?_
            refine ug_r S hK Z (j := 28) 89 (by decide) rfl rfl rfl (by decide) iX12_isFit_X12 qX12_isFit_61 dX12_isFit_21 ?_
            refine lv_aload_n S.1 S.2.1 dX12_isFit_24 rfl (lv_at hl 2 rfl) ?_
            refine ug_r S hK Z (j := 8) 78 (by decide) rfl rfl rfl (by decide) iX12_isFit_X12 qX12_isFit_28 dX12_isFit_25 ?_
            refine lv_iload_n S.1 S.2.1 dX12_isFit_28 rfl (lv_at hl 0 rfl) ?_
            refine ua_ild S hK Z e (by decide) rfl rfl (by omega) dX12_isFit_29 ?_
            refine utop (y := (nI (w 8 e))) ((uAr_o M 89 f2 e (a := 78) (by decide)).trans (h78 e)) ?_
            refine ua_ild S hK Z (w 8 e) (by decide) rfl rfl (by omega) dX12_isFit_30 ?_
            refine utop (y := (nI (f2 (w 8 e)))) (uAr_g M 89 f2 (w 8 e)) ?_
            refine lv_aload_n S.1 S.2.1 dX12_isFit_31 rfl (lv_at hl 2 rfl) ?_
            refine ug_r S hK Z (j := 28) 89 (by decide) rfl rfl rfl (by decide) iX12_isFit_X12 qX12_isFit_61 dX12_isFit_32 ?_
            refine lv_aload_n S.1 S.2.1 dX12_isFit_35 rfl (lv_at hl 2 rfl) ?_
            refine ug_r S hK Z (j := 9) 79 (by decide) rfl rfl rfl (by decide) iX12_isFit_X12 qX12_isFit_31 dX12_isFit_36 ?_
            refine lv_iload_n S.1 S.2.1 dX12_isFit_39 rfl (lv_at hl 0 rfl) ?_
            refine ua_ild S hK Z e (by decide) rfl rfl (by omega) dX12_isFit_40 ?_
            refine utop (y := (nI (w 9 e))) ((uAr_o M 89 f2 e (a := 79) (by decide)).trans (h79 e)) ?_
            refine ua_ild S hK Z (w 9 e) (by decide) rfl rfl (by omega) dX12_isFit_41 ?_
            refine utop (y := (nI (f2 (w 9 e)))) (uAr_g M 89 f2 (w 9 e)) ?_
            refine lv_icmp_ge (tgt := 49) S.1 S.2.1 dX12_isFit_42 (by decide) (fun c_8 => ?_) (fun c_8 => ?_)
            · skip
              have c_8 : (f2 (w 9 e)) ≤ (f2 (w 8 e)) := (nI_leI (a := (f2 (w 9 e))) (b := (f2 (w 8 e))) (by omega) (by omega)).mp c_8
              refine lv_iconst (v := 0) S.1 S.2.1 dX12_isFit_49 (by decide) ?_
              refine lv_istore_n (lv' := [(2, .int 0), (3, .int (nI e)), (0, .ref (G.2.2 71)), (1, .int (nI row))]) S.1 S.2.1 dX12_isFit_50 rfl hl (by decide) rfl (fun ls hl => ?_)
              refine lv_iinc (v := (nI (e + 1))) (lv' := [(3, .int (nI (e + 1))), (2, .int 0), (0, .ref (G.2.2 71)), (1, .int (nI row))]) S.1 S.2.1 dX12_isFit_51 hl (k := 1) rfl (u_inc1 e) (by decide) rfl (fun ls hl => ?_)
              refine lv_goto (tgt := 8) S.1 S.2.1 dX12_isFit_54 (by decide) ?_
              exact ih8 0 (e + 1) (by omega) (by omega) (by
                  refine Or.inr ⟨rfl, fun ⟨k2, y1, y2, y3⟩ => ?_⟩
                  have y4 := lRow_inj hk1 y1 (hk2.symm.trans y2)
                  subst y4
                  have y5 := y3 e (by omega)
                  rw [← hk3 _ b3, ← hk3 _ b4] at y5
                  omega) _ _ _ Z (lv_sub hl [0, 1, 2, 3] rfl)
            · skip
              have c_8 : ¬ (f2 (w 9 e)) ≤ (f2 (w 8 e)) := fun z9 => c_8 ((nI_leI (a := (f2 (w 9 e))) (b := (f2 (w 8 e))) (by omega) (by omega)).mpr z9)
              refine lv_iconst (v := 1) S.1 S.2.1 dX12_isFit_45 (by decide) ?_
              refine lv_goto (tgt := 50) S.1 S.2.1 dX12_isFit_46 (by decide) ?_
              refine lv_istore_n (lv' := [(2, .int 1), (3, .int (nI e)), (0, .ref (G.2.2 71)), (1, .int (nI row))]) S.1 S.2.1 dX12_isFit_50 rfl hl (by decide) rfl (fun ls hl => ?_)
              refine lv_iinc (v := (nI (e + 1))) (lv' := [(3, .int (nI (e + 1))), (2, .int 1), (0, .ref (G.2.2 71)), (1, .int (nI row))]) S.1 S.2.1 dX12_isFit_51 hl (k := 1) rfl (u_inc1 e) (by decide) rfl (fun ls hl => ?_)
              refine lv_goto (tgt := 8) S.1 S.2.1 dX12_isFit_54 (by decide) ?_
              exact ih8 1 (e + 1) (by omega) (by omega) (by
                  refine Or.inl ⟨rfl, k, hk1, hk2, hk3, fun i hi => ?_⟩
                  by_cases y : i = e
                  · subst y
                    rw [← hk3 _ b3, ← hk3 _ b4]
                    omega
                  · exact hk4 i (by omega)) _ _ _ Z (lv_sub hl [0, 1, 2, 3] rfl)
          · skip
            refine lv_iload_n S.1 S.2.1 dX12_isFit_16 rfl (lv_at hl 1 rfl) ?_
            refine lv_if_eq (tgt := 57) S.1 S.2.1 dX12_isFit_17 (by decide) (fun _ => ?_) (fun c => absurd c (by decide))
            refine lv_iload_n S.1 S.2.1 dX12_isFit_57 rfl (lv_at hl 1 rfl) ?_
            refine uret_z S hK Z hre hlk (by decide) dX12_isFit_58 ?_
            exact ⟨f2, rfl, Or.inr ⟨rfl, hz2⟩⟩
    exact LP8 9 0 0 (by omega) (by omega) (by
        first
          | exact Or.inl ⟨rfl, k0, hk0.1, hk0.2.1, hk0.2.2, fun i hi => by omega⟩
          | exact Or.inr ⟨rfl, fun ⟨k2, y1, y2, y3⟩ => hno ⟨k2, y1, y2⟩⟩) _ _ _ Z (lv_sub hl [0, 1, 2, 3] rfl)
theorem uAr_uAr (M : uM) (k : Nat) (f g : Nat → Nat) : uAr (uAr M k f) k g = uAr M k g := uM_ext (fun a i => by
  by_cases h : a = k
  · subst h
    rw [uAr_g, uAr_g]
  · rw [uAr_o _ _ _ _ h, uAr_o _ _ _ _ h, uAr_o _ _ _ _ h]) rfl
theorem uAr_sw (M : uM) {k j : Nat} (f g : Nat → Nat) (h : k ≠ j) : uAr (uAr M k f) j g = uAr (uAr M j g) k f := uM_ext (fun a i => by
  by_cases h1 : a = k
  · subst h1
    rw [uAr_o _ _ _ _ h, uAr_g, uAr_g]
  · by_cases h2 : a = j
    · subst h2
      rw [uAr_g, uAr_o _ _ _ _ h1, uAr_g]
    · rw [uAr_o _ _ _ _ h2, uAr_o _ _ _ _ h1, uAr_o _ _ _ _ h1, uAr_o _ _ _ _ h2]) rfl
theorem ex89 (M : uM) (a b F : Nat → Nat) : uAr (uAr (uAr M 89 a) 90 b) 89 F = uAr (uAr M 89 F) 90 b := by
  rw [uAr_sw _ _ _ (by decide), uAr_uAr]
set_option maxHeartbeats 4000000 in
set_option maxRecDepth 100000 in
theorem c_X12_findFits (l : Launch) (G : uG) (M : uM) (f fa0 ff0 : Nat → Nat) (w : Nat → Nat → Nat) (hw : wOk w) (h10 : nI (f 10) = nI (w 7 2)) (h78 : ∀ i, M.1 78 i = nI (w 8 i)) (h79 : ∀ i, M.1 79 i = nI (w 9 i)) : CTv l G yX12_findFits wsX12_findFits 2 47 [.ref (G.2.2 71)] (uAr (uAr (uAr M 71 f) 89 fa0) 90 ff0) (fun M2 => ∃ f2 fa ff, M2 = uAr (uAr (uAr M 71 f2) 89 fa) 90 ff ∧ (∀ x, x ≠ 30 → f2 x = f x) ∧ f2 30 = hCnt w 120 ∧ ffK w ff 120) := by
  refine ustart_v (cc := cX12_findFits) (maxL := 2) (ret := none) (own := RX12) rfl (by decide) rfl (Nat.le_of_ble_eq_true rfl) ?_
  intro xp xe xs xm xa xb xt xc xA ls S hK hA Z hre hlk hl
  have hl : lv_has ls 2 [(0, .ref (G.2.2 71))] := hl
  refine lv_aload_n S.1 S.2.1 dX12_findFits_0 rfl (lv_at hl 0 rfl) ?_
  refine lv_iconst (v := 0) S.1 S.2.1 dX12_findFits_1 (by decide) ?_
  refine up_i S hK Z (j := 30) (by decide) rfl rfl rfl (by decide) iX12_findFits_X12 tyX12_ok nmX12 qX12_findFits_306 rfl rfl rfl dX12_findFits_2 (fun H locs Z => ?_)
  have Z := uZ_eq ((uAr_c (uAr (uAr M 71 f) 89 fa0) 90 ff0 (a := 71) 30 (nI 0) (by decide)).trans (congrArg (fun X => uAr X 90 ff0) ((uAr_c (uAr M 71 f) 89 fa0 (a := 71) 30 (nI 0) (by decide)).trans (congrArg (fun X => uAr X 89 fa0) (uAr_s M 71 f 30 0))))) Z
  refine lv_sipush (v := 1234) S.1 S.2.1 dX12_findFits_5 (by decide) ?_
  refine lv_istore_n (lv' := [(1, .int 1234), (0, .ref (G.2.2 71))]) S.1 S.2.1 dX12_findFits_8 rfl hl (by decide) rfl (fun ls hl => ?_)
  have LP9 : ∀ (fU : Nat) (k : Nat) (row : Nat) (f1 : Nat → Nat) (fa : Nat → Nat) (g1 : Nat → Nat), (43211 < row + fU) → (1234 ≤ row ∧ row ≤ 43211) → (nxR row k) → (f1 30 = hCnt w k) → (∀ x, x ≠ 30 → f1 x = f x) → (ffK w g1 k) → ∀ (H : Heap) (locs : List Loc) (ls : Array Slot), uZ G xA (uAr (uAr (uAr M 71 f1) 89 fa) 90 g1) xs.heap H locs → lv_has ls 2 [(1, .int (nI row)), (0, .ref (G.2.2 71))] → W xp l xe (uRm 2 47) xs xm xa xb xt xc H locs 0 0 (MQ xb (va_Qv (fun M2 => ∃ f2 fa ff, M2 = uAr (uAr (uAr M 71 f2) 89 fa) 90 ff ∧ (∀ x, x ≠ 30 → f2 x = f x) ∧ f2 30 = hCnt w 120 ∧ ffK w ff 120) (fun M' t => uB G M' t) xA) xa xs 0 0 xA) (F0 xm 9 ls []) := by
    intro fU
    induction fU with
    | zero =>
      intro k row f1 fa g1 hfl a1 a2 a3 a4 a5 H locs ls Z hl
      exfalso
      omega
    | succ fU ih9 =>
      intro k row f1 fa g1 hfl a1 a2 a3 a4 a5 H locs ls Z hl
      have a6 := a2.1
      have a7 := hCnt_le w k
      have ex89 : ∀ {F : Nat → Nat}, uAr (uAr (uAr (uAr M 71 f1) 89 fa) 90 g1) 89 F = uAr (uAr (uAr M 71 f1) 89 F) 90 g1 := fun {F} => ex89 _ _ _ _
      refine lv_iload_n S.1 S.2.1 dX12_findFits_9 rfl (lv_at hl 0 rfl) ?_
      refine lv_ldcw (v := 43210) S.1 S.2.1 S.2.2.2.1 (S.2.2.2.2 _ qX12_findFits_309) dX12_findFits_10 ?_
      refine lv_icmp_gt (tgt := 50) S.1 S.2.1 dX12_findFits_13 (by decide) (fun c_1 => ?_) (fun c_1 => ?_)
      · skip
        have c_1 : 43210 < row := (nI_ltI (a := 43210) (b := row) (by omega) (by omega)).mp c_1
        refine uret_v S hK Z hre hlk dX12_findFits_50 ?_
        have e1 : k = 120 := nxR_9 (by rw [← show row = 43211 by omega]; exact a2)
        rw [e1] at a3 a5
        exact ⟨f1, fa, g1, rfl, a4, a3, a5⟩
      · skip
        have c_1 : ¬ 43210 < row := fun z9 => c_1 ((nI_ltI (a := 43210) (b := row) (by omega) (by omega)).mpr z9)
        refine lv_aload_n S.1 S.2.1 dX12_findFits_16 rfl (lv_at hl 1 rfl) ?_
        refine lv_iload_n S.1 S.2.1 dX12_findFits_17 rfl (lv_at hl 0 rfl) ?_
        refine uc_Vi (As := [.int (nI row)]) (rest := []) S hK hA Z (c_X12_isFit l G row (by omega) (uAr (uAr (uAr M 71 f1) 89 fa) 90 g1) w hw (((uAr_o _ _ _ _ (by decide)).trans ((uAr_o _ _ _ _ (by decide)).trans (uAr_g _ _ _ _))).trans ((congrArg nI (a4 10 (by decide))).trans h10)) (fun i => (uAr_o _ _ _ _ (by decide)).trans ((uAr_o _ _ _ _ (by decide)).trans ((uAr_o _ _ _ _ (by decide)).trans (h78 i)))) (fun i => (uAr_o _ _ _ _ (by decide)).trans ((uAr_o _ _ _ _ (by decide)).trans ((uAr_o _ _ _ _ (by decide)).trans (h79 i))))) (cwV 1 S.2.2.2.2 gX12_findFits_X12_isFit rfl rfl rfl (by decide +kernel) ⟨Nat.le_of_ble_eq_true rfl, Nat.le_of_ble_eq_true rfl⟩) (by decide) rfl rfl rfl hl.1 rfl (Nat.le_of_ble_eq_true rfl) dX12_findFits_18 ⟨Nat.zero_le _, Nat.zero_le _⟩ (fun r_2 M_2 H locs hp Z => ?_)
        obtain ⟨f9, hM, ⟨rfl, hfit⟩ | ⟨rfl, hno⟩⟩ := hp
        · skip
          have Z := uZ_eq (hM.trans ex89) Z
          obtain ⟨k9, y1, y2, y3⟩ := hfit
          have y4 := nxR_at a2 y1 y2
          subst y4
          have y5 := hCnt_le w k9
          refine lv_if_eq (tgt := 44) S.1 S.2.1 dX12_findFits_21 (by decide) (fun c => absurd c (by decide)) (fun _ => ?_)
          refine lv_aload_n S.1 S.2.1 dX12_findFits_24 rfl (lv_at hl 1 rfl) ?_
          refine ug_r S hK Z (j := 29) 90 (by decide) rfl rfl rfl (by decide) iX12_findFits_X12 qX12_findFits_64 dX12_findFits_25 ?_
          refine lv_aload_n S.1 S.2.1 dX12_findFits_28 rfl (lv_at hl 1 rfl) ?_
          refine ug_i S hK Z (j := 30) (by decide) rfl rfl rfl (by decide) iX12_findFits_X12 qX12_findFits_306 dX12_findFits_29 ?_
          refine utop (y := (nI (f1 30))) ((uAr_o (uAr (uAr M 71 f1) 89 f9) 90 g1 30 (a := 71) (by decide)).trans ((uAr_o (uAr M 71 f1) 89 f9 30 (a := 71) (by decide)).trans (uAr_g M 71 f1 30))) ?_
          refine lv_iload_n S.1 S.2.1 dX12_findFits_32 rfl (lv_at hl 0 rfl) ?_
          refine ua_ist S hK Z (f1 30) (by decide) rfl rfl (by omega) dX12_findFits_33 (fun H locs Z => ?_)
          have Z := uZ_eq (uAr_s (uAr (uAr M 71 f1) 89 f9) 90 g1 (f1 30) row) Z
          refine lv_aload_n S.1 S.2.1 dX12_findFits_34 rfl (lv_at hl 1 rfl) ?_
          refine lv_dup S.1 S.2.1 dX12_findFits_35 rfl ?_
          refine ug_i S hK Z (j := 30) (by decide) rfl rfl rfl (by decide) iX12_findFits_X12 qX12_findFits_306 dX12_findFits_36 ?_
          refine utop (y := (nI (f1 30))) ((uAr_o (uAr (uAr M 71 f1) 89 f9) 90 (fu g1 (f1 30) row) 30 (a := 71) (by decide)).trans ((uAr_o (uAr M 71 f1) 89 f9 30 (a := 71) (by decide)).trans (uAr_g M 71 f1 30))) ?_
          refine lv_iconst (v := 1) S.1 S.2.1 dX12_findFits_39 (by decide) ?_
          refine lv_iadd S.1 S.2.1 dX12_findFits_40 ?_
          refine utop (nI_add (f1 30) 1) ?_
          refine up_i S hK Z (j := 30) (by decide) rfl rfl rfl (by decide) iX12_findFits_X12 tyX12_ok nmX12 qX12_findFits_306 rfl rfl rfl dX12_findFits_41 (fun H locs Z => ?_)
          have Z := uZ_eq ((uAr_c (uAr (uAr M 71 f1) 89 f9) 90 (fu g1 (f1 30) row) (a := 71) 30 (nI ((f1 30) + 1)) (by decide)).trans (congrArg (fun X => uAr X 90 (fu g1 (f1 30) row)) ((uAr_c (uAr M 71 f1) 89 f9 (a := 71) 30 (nI ((f1 30) + 1)) (by decide)).trans (congrArg (fun X => uAr X 89 f9) (uAr_s M 71 f1 30 ((f1 30) + 1)))))) Z
          refine lv_iinc (v := (nI (row + 1))) (lv' := [(1, .int (nI (row + 1))), (0, .ref (G.2.2 71))]) S.1 S.2.1 dX12_findFits_44 hl (k := 0) rfl (u_inc1 row) (by decide) rfl (fun ls hl => ?_)
          refine lv_goto (tgt := 9) S.1 S.2.1 dX12_findFits_47 (by decide) ?_
          exact ih9 (if k9 < 120 ∧ row = lRow k9 then k9 + 1 else k9) (row + 1) (fu f1 30 ((f1 30) + 1)) f9 (fu g1 (f1 30) row) (by omega) (by omega) (by exact nxR_s a2) (by rw [fu_eq, a3, if_pos ⟨y1, y2⟩, hCnt, if_pos y3]) (by intro x hx; rw [fu_ne hx]; exact a4 x hx) (by rw [a3]; exact ffK_yes a5 y1 y2 y3) _ _ _ Z (lv_sub hl [0, 1] rfl)
        · skip
          have Z := uZ_eq (hM.trans ex89) Z
          refine lv_if_eq (tgt := 44) S.1 S.2.1 dX12_findFits_21 (by decide) (fun _ => ?_) (fun c => absurd c (by decide))
          refine lv_iinc (v := (nI (row + 1))) (lv' := [(1, .int (nI (row + 1))), (0, .ref (G.2.2 71))]) S.1 S.2.1 dX12_findFits_44 hl (k := 0) rfl (u_inc1 row) (by decide) rfl (fun ls hl => ?_)
          refine lv_goto (tgt := 9) S.1 S.2.1 dX12_findFits_47 (by decide) ?_
          exact ih9 (if k < 120 ∧ row = lRow k then k + 1 else k) (row + 1) f1 f9 g1 (by omega) (by omega) (by exact nxR_s a2) (by rw [(ffK_no a5 hno).2]; exact a3) (by exact a4) (by exact (ffK_no a5 hno).1) _ _ _ Z (lv_sub hl [0, 1] rfl)
  exact LP9 43212 0 1234 (fu f 30 0) fa0 ff0 (by omega) (by omega) (by exact nxR_0) (by exact fu_eq _ _ _) (by intro x hx; exact fu_ne hx) (by intro i hi; omega) _ _ _ Z (lv_sub hl [0, 1] rfl)
/-- the fits have been found -/
def fnd (w : Nat → Nat → Nat) (M2 : uM) : Prop := M2.1 71 30 = nI (hCnt w 120) ∧ ∃ ff, (∀ i, M2.1 90 i = nI (ff i)) ∧ ffK w ff 120
theorem c_X12_findF (l : Launch) (G : uG) (M : uM) (w : Nat → Nat → Nat) (hr : uMd M w) (hw : wOk w) : CTv l G yX12_findFits wsX12_findFits 2 47 [.ref (G.2.2 71)] M (fun M2 => mSm M M2 ∧ fnd w M2) := by
  obtain ⟨f, h71⟩ := nI_fn (M.1 71)
  obtain ⟨fa, h89⟩ := nI_fn (M.1 89)
  obtain ⟨ff, h90⟩ := nI_fn (M.1 90)
  have h := c_X12_findFits l G M f fa ff w hw ((h71 10).symm.trans (uMd_10 hr)) (fun i => uMd_q hr i (j := 8) (by decide)) (fun i => uMd_q hr i (j := 9) (by decide))
  rw [uAr_of h71, uAr_of h89, uAr_of h90] at h
  refine CTv_mono h (fun M2 hp => ?_)
  obtain ⟨f2, fa2, ff2, rfl, h1, h2, h3⟩ := hp
  refine ⟨mSm_r (mSm_r (mSm_71 (mSm_rf _) (fun i hi => ?_)) (by decide)) (by decide), ?_, ff2, fun i => uAr_g _ _ _ _, h3⟩
  · rw [h1 i (by omega)]
    exact (h71 i).symm
  · rw [uAr_o _ _ _ _ (by decide), uAr_o _ _ _ _ (by decide), uAr_g, h2]
set_option maxHeartbeats 4000000 in
set_option maxRecDepth 100000 in
theorem c_X12_fits (l : Launch) (G : uG) (x : Int32) (M : uM) (w : Nat → Nat → Nat) (hr : uMd M w) (hw : wOk w) : CTi l G yX12_fits wsX12_fits 3 68 [.ref (G.2.2 71), .int x] M (fun r M2 => SpFits w x r ∧ mSm M M2) := by
  refine ustart_i (cc := cX12_fits) (maxL := 2) (ret := (some .int)) (own := RX12) rfl (by decide) rfl (Nat.le_of_ble_eq_true rfl) ?_
  intro xp xe xs xm xa xb xt xc xA ls S hK hA Z hre hlk hl
  have hl : lv_has ls 2 [(0, .ref (G.2.2 71)), (1, .int x)] := hl
  refine lv_aload_n S.1 S.2.1 dX12_fits_0 rfl (lv_at hl 0 rfl) ?_
  refine uc_Vv (As := []) (rest := []) S hK hA Z (c_X12_findF l G M w hr hw) (cwV 0 S.2.2.2.2 gX12_fits_X12_findFits rfl rfl rfl (by decide +kernel) ⟨Nat.le_of_ble_eq_true rfl, Nat.le_of_ble_eq_true rfl⟩) (by decide) rfl rfl rfl hl.1 rfl (Nat.le_of_ble_eq_true rfl) dX12_fits_1 ⟨Nat.zero_le _, Nat.zero_le _⟩ (fun M_1 H locs hp Z => ?_)
  obtain ⟨hsm, hfn⟩ := hp
  obtain ⟨ff, hff, hfk⟩ := hfn.2
  have hcl := hCnt_le w 120
  refine lv_iload_n S.1 S.2.1 dX12_fits_4 rfl (lv_at hl 1 rfl) ?_
  refine lv_iconst (v := (-1)) S.1 S.2.1 dX12_fits_5 (by decide) ?_
  refine lv_icmp_ne (tgt := 16) S.1 S.2.1 dX12_fits_6 (by decide) (fun c_2 => ?_) (fun c_2 => ?_)
  · skip
    refine lv_iload_n S.1 S.2.1 dX12_fits_16 rfl (lv_at hl 1 rfl) ?_
    refine lv_i2l (v := x.toInt64) S.1 S.2.1 dX12_fits_17 rfl ?_
    refine lv_lconst (v := 0) S.1 S.2.1 dX12_fits_18 (by decide) ?_
    refine lv_aload_n S.1 S.2.1 dX12_fits_19 rfl (lv_at hl 0 rfl) ?_
    refine ug_i S hK Z (j := 30) (by decide) rfl rfl rfl (by decide) iX12_fits_X12 qX12_fits_306 dX12_fits_20 ?_
    refine utop (y := (nI (hCnt w 120))) hfn.1 ?_
    refine lv_iconst (v := 1) S.1 S.2.1 dX12_fits_23 (by decide) ?_
    refine lv_isub S.1 S.2.1 dX12_fits_24 ?_
    refine lv_i2l (v := (((nI (hCnt w 120)) - 1).toInt64)) S.1 S.2.1 dX12_fits_25 rfl ?_
    refine uc_Si (As := [.long x.toInt64, .long 0, .long (((nI (hCnt w 120)) - 1).toInt64)]) (rest := []) S hK hA Z (c_X12_in l G x 0 (nI (hCnt w 120) - 1) _ _ _ rfl (by decide) rfl M_1) (va_cwS 3 S.2.2.2.2 gX12_fits_X12_in rfl rfl rfl (by decide +kernel) ⟨Nat.le_of_ble_eq_true rfl, Nat.le_of_ble_eq_true rfl⟩) rfl hl.1 rfl (Nat.le_of_ble_eq_true rfl) dX12_fits_26 ⟨Nat.zero_le _, Nat.zero_le _⟩ (fun r_3 M_3 H locs hp Z => ?_)
    obtain ⟨⟨rfl, w_3⟩ | ⟨rfl, w_3⟩, hM_3⟩ := hp
    · skip
      rw [hM_3] at Z
      obtain ⟨j, hj, rfl⟩ := (u_cm1 hcl).mp w_3
      obtain ⟨k, hk1, hk2, hk3⟩ := hC_sur (w := w) 120 hj
      refine lv_if_eq (tgt := 41) S.1 S.2.1 dX12_fits_29 (by decide) (fun c => absurd c (by decide)) (fun _ => ?_)
      refine lv_aload_n S.1 S.2.1 dX12_fits_32 rfl (lv_at hl 0 rfl) ?_
      refine ug_r S hK Z (j := 29) 90 (by decide) rfl rfl rfl (by decide) iX12_fits_X12 qX12_fits_64 dX12_fits_33 ?_
      refine lv_iload_n S.1 S.2.1 dX12_fits_36 rfl (lv_at hl 1 rfl) ?_
      refine ua_ild S hK Z j (by decide) rfl rfl (by omega) dX12_fits_37 ?_
      refine utop (y := (nI (ff j))) (hff j) ?_
      refine lv_goto (tgt := 43) S.1 S.2.1 dX12_fits_38 (by decide) ?_
      refine uret_i S hK Z hre hlk dX12_fits_43 ?_
      refine ⟨Or.inl ⟨k, hk1, hk2, by rw [hk3], ?_⟩, hsm⟩
      rw [← hk3]
      exact congrArg nI (hfk k hk1 hk2)
    · skip
      rw [hM_3] at Z
      refine lv_if_eq (tgt := 41) S.1 S.2.1 dX12_fits_29 (by decide) (fun _ => ?_) (fun c => absurd c (by decide))
      refine lv_bipush (v := (-6)) S.1 S.2.1 dX12_fits_41 (by decide) ?_
      refine uret_i S hK Z hre hlk dX12_fits_43 ?_
      have hx : ¬ x = -1 := by assumption
      refine ⟨Or.inr ⟨fun k hk1 hk2 z => ?_, (if_neg hx).symm⟩, hsm⟩
      exact absurd ((u_cm1 hcl).mpr ⟨_, hCnt_st hk2 hk1, z⟩) (by assumption)
  · skip
    refine lv_aload_n S.1 S.2.1 dX12_fits_9 rfl (lv_at hl 0 rfl) ?_
    refine ug_i S hK Z (j := 30) (by decide) rfl rfl rfl (by decide) iX12_fits_X12 qX12_fits_306 dX12_fits_10 ?_
    refine utop (y := (nI (hCnt w 120))) hfn.1 ?_
    refine lv_goto (tgt := 43) S.1 S.2.1 dX12_fits_13 (by decide) ?_
    refine uret_i S hK Z hre hlk dX12_fits_43 ?_
    have hx : x = -1 := by assumption
    refine ⟨Or.inr ⟨fun k hk1 hk2 z => ?_, (if_pos hx).symm⟩, hsm⟩
    have := hCnt_le w k
    rw [hx] at z
    exact absurd (show nI (hCnt w k) < 0 by rw [← z]; decide) (nI_pos (by omega))
set_option maxHeartbeats 4000000 in
set_option maxRecDepth 100000 in
theorem c_X12_mostLeft (l : Launch) (G : uG) (a b : Nat) (ha : a < 5) (hb : b < 5) (M : uM) (w : Nat → Nat → Nat) (hw : wOk w) (ff : Nat → Nat) (h30 : M.1 71 30 = nI (hCnt w 120)) (hff : ∀ i, M.1 90 i = nI (ff i)) (hfk : ffK w ff 120) (f0 : Nat → Nat) : CTi l G yX12_mostLeft wsX12_mostLeft 1 24 [.ref (G.2.2 71), .int (nI a), .int (nI b)] (uAr M 89 f0) (fun r M2 => r = nI (qL w a b) ∧ ∃ f2, M2 = uAr M 89 f2) := by
  refine ustart_i (cc := cX12_mostLeft) (maxL := 5) (ret := (some .int)) (own := RX12) rfl (by decide) rfl (Nat.le_of_ble_eq_true rfl) ?_
  intro xp xe xs xm xa xb xt xc xA ls S hK hA Z hre hlk hl
  have hl : lv_has ls 5 [(0, .ref (G.2.2 71)), (1, .int (nI a)), (2, .int (nI b))] := hl
  refine lv_iconst (v := 0) S.1 S.2.1 dX12_mostLeft_0 (by decide) ?_
  refine lv_istore_n (lv' := [(3, .int 0), (0, .ref (G.2.2 71)), (1, .int (nI a)), (2, .int (nI b))]) S.1 S.2.1 dX12_mostLeft_1 rfl hl (by decide) rfl (fun ls hl => ?_)
  refine lv_iconst (v := 0) S.1 S.2.1 dX12_mostLeft_2 (by decide) ?_
  refine lv_istore (lv' := [(4, .int 0), (3, .int 0), (0, .ref (G.2.2 71)), (1, .int (nI a)), (2, .int (nI b))]) S.1 S.2.1 dX12_mostLeft_3 hl (by decide) rfl (fun ls hl => ?_)
  have LP5 : ∀ (fU : Nat) (y : Nat) (e : Nat) (f1 : Nat → Nat), (hCnt w 120 < e + fU) → (e ≤ hCnt w 120 ∧ y ≤ e) → (∀ k, k ≤ 120 → hCnt w k = e → y = hPr w a b k) → ∀ (H : Heap) (locs : List Loc) (ls : Array Slot), uZ G xA (uAr M 89 f1) xs.heap H locs → lv_has ls 5 [(4, .int (nI e)), (3, .int (nI y)), (0, .ref (G.2.2 71)), (1, .int (nI a)), (2, .int (nI b))] → W xp l xe (uRm 1 24) xs xm xa xb xt xc H locs 0 0 (MQ xb (va_Qi (fun r M2 => r = nI (qL w a b) ∧ ∃ f2, M2 = uAr M 89 f2) (fun M' t => uB G M' t) xA) xa xs 0 0 xA) (F0 xm 5 ls []) := by
    intro fU
    induction fU with
    | zero =>
      intro y e f1 hfl i1 i2 H locs ls Z hl
      exfalso
      omega
    | succ fU ih5 =>
      intro y e f1 hfl i1 i2 H locs ls Z hl
      have hcl := hCnt_le w 120
      refine lv_iload S.1 S.2.1 dX12_mostLeft_5 (lv_at hl 0 rfl) ?_
      refine lv_aload_n S.1 S.2.1 dX12_mostLeft_7 rfl (lv_at hl 2 rfl) ?_
      refine ug_i S hK Z (j := 30) (by decide) rfl rfl rfl (by decide) iX12_mostLeft_X12 qX12_mostLeft_306 dX12_mostLeft_8 ?_
      refine utop (y := (nI (hCnt w 120))) ((uAr_o M 89 f1 30 (a := 71) (by decide)).trans h30) ?_
      refine lv_icmp_ge (tgt := 57) S.1 S.2.1 dX12_mostLeft_11 (by decide) (fun c_1 => ?_) (fun c_1 => ?_)
      · skip
        have c_1 : (hCnt w 120) ≤ e := (nI_leI (a := (hCnt w 120)) (b := e) (by omega) (by omega)).mp c_1
        have i3 := i2 120 (Nat.le_refl _) (by omega)
        refine lv_iload_n S.1 S.2.1 dX12_mostLeft_57 rfl (lv_at hl 1 rfl) ?_
        refine lv_aload_n S.1 S.2.1 dX12_mostLeft_58 rfl (lv_at hl 2 rfl) ?_
        refine ug_i S hK Z (j := 30) (by decide) rfl rfl rfl (by decide) iX12_mostLeft_X12 qX12_mostLeft_306 dX12_mostLeft_59 ?_
        refine utop (y := (nI (hCnt w 120))) ((uAr_o M 89 f1 30 (a := 71) (by decide)).trans h30) ?_
        refine lv_iload_n S.1 S.2.1 dX12_mostLeft_62 rfl (lv_at hl 1 rfl) ?_
        refine lv_isub S.1 S.2.1 dX12_mostLeft_63 ?_
        refine utop (pk_sub (a := (hCnt w 120)) (b := y) (by omega)) ?_
        refine lv_icmp_le (tgt := 71) S.1 S.2.1 dX12_mostLeft_64 (by decide) (fun c_2 => ?_) (fun c_2 => ?_)
        · skip
          have c_2 : y ≤ ((hCnt w 120) - y) := (nI_leI (a := y) (b := ((hCnt w 120) - y)) (by omega) (by omega)).mp c_2
          refine lv_aload_n S.1 S.2.1 dX12_mostLeft_71 rfl (lv_at hl 2 rfl) ?_
          refine ug_i S hK Z (j := 30) (by decide) rfl rfl rfl (by decide) iX12_mostLeft_X12 qX12_mostLeft_306 dX12_mostLeft_72 ?_
          refine utop (y := (nI (hCnt w 120))) ((uAr_o M 89 f1 30 (a := 71) (by decide)).trans h30) ?_
          refine lv_iload_n S.1 S.2.1 dX12_mostLeft_75 rfl (lv_at hl 1 rfl) ?_
          refine lv_isub S.1 S.2.1 dX12_mostLeft_76 ?_
          refine utop (pk_sub (a := (hCnt w 120)) (b := y) (by omega)) ?_
          refine uret_i S hK Z hre hlk dX12_mostLeft_77 ?_
          refine ⟨congrArg nI ?_, f1, rfl⟩
          unfold qL
          rw [← i3]
          omega
        · skip
          have c_2 : ¬ y ≤ ((hCnt w 120) - y) := fun z9 => c_2 ((nI_leI (a := y) (b := ((hCnt w 120) - y)) (by omega) (by omega)).mpr z9)
          refine lv_iload_n S.1 S.2.1 dX12_mostLeft_67 rfl (lv_at hl 1 rfl) ?_
          refine lv_goto (tgt := 77) S.1 S.2.1 dX12_mostLeft_68 (by decide) ?_
          refine uret_i S hK Z hre hlk dX12_mostLeft_77 ?_
          refine ⟨congrArg nI ?_, f1, rfl⟩
          unfold qL
          rw [← i3]
          omega
      · skip
        have c_1 : ¬ (hCnt w 120) ≤ e := fun z9 => c_1 ((nI_leI (a := (hCnt w 120)) (b := e) (by omega) (by omega)).mpr z9)
        obtain ⟨k, hk1, hk2, hk3⟩ := hC_sur (w := w) (j := e) 120 (by omega)
        have hkl := lRow_lt k hk1
        refine lv_iload_n S.1 S.2.1 dX12_mostLeft_14 rfl (lv_at hl 1 rfl) ?_
        refine lv_aload_n S.1 S.2.1 dX12_mostLeft_15 rfl (lv_at hl 2 rfl) ?_
        refine lv_aload_n S.1 S.2.1 dX12_mostLeft_16 rfl (lv_at hl 2 rfl) ?_
        refine ug_r S hK Z (j := 29) 90 (by decide) rfl rfl rfl (by decide) iX12_mostLeft_X12 qX12_mostLeft_64 dX12_mostLeft_17 ?_
        refine lv_iload S.1 S.2.1 dX12_mostLeft_20 (lv_at hl 0 rfl) ?_
        refine ua_ild S hK Z e (by decide) rfl rfl (by omega) dX12_mostLeft_22 ?_
        refine utop (y := (nI (ff e))) ((uAr_o M 89 f1 e (a := 90) (by decide)).trans (hff e)) ?_
        refine utop (congrArg nI (show ff e = lRow k by rw [← hk3]; exact hfk k hk1 hk2)) ?_
        refine uc_Vi (As := [.int (nI (lRow k))]) (rest := [.int (nI y)]) S hK hA Z (c_X12_readRow l G (lRow k) (by omega) (uAr M 89 f1)) (cwV 1 S.2.2.2.2 gX12_mostLeft_X12_readRow rfl rfl rfl (by decide +kernel) ⟨Nat.le_of_ble_eq_true rfl, Nat.le_of_ble_eq_true rfl⟩) (by decide) rfl rfl rfl hl.1 rfl (Nat.le_of_ble_eq_true rfl) dX12_mostLeft_23 ⟨Nat.zero_le _, Nat.zero_le _⟩ (fun r_3 M_3 H locs hp Z => ?_)
        obtain ⟨f2, hM, ⟨rfl, k0, hk0⟩ | ⟨rfl, hno⟩⟩ := hp
        · skip
          have Z := uZ_eq (hM.trans (uAr_uAr _ _ _ _)) Z
          have y4 := lRow_inj hk0.1 hk1 hk0.2.1.symm
          subst y4
          have y5 := hk0.2.2
          have b5 : f2 a < 5 := by rw [y5 a ha]; exact lPl_lt k0 hk1 a ha
          have b6 : f2 b < 5 := by rw [y5 b hb]; exact lPl_lt k0 hk1 b hb
          have y6 := y5 a ha
          have y7 := y5 b hb
          refine lv_if_eq (tgt := 48) S.1 S.2.1 dX12_mostLeft_26 (by decide) (fun c => absurd c (by decide)) (fun _ => ?_)
          refine lv_aload_n S.1 S.2.1 dX12_mostLeft_29 rfl (lv_at hl 2 rfl) ?_
          refine ug_r S hK Z (j := 28) 89 (by decide) rfl rfl rfl (by decide) iX12_mostLeft_X12 qX12_mostLeft_61 dX12_mostLeft_30 ?_
          refine lv_iload_n S.1 S.2.1 dX12_mostLeft_33 rfl (lv_at hl 3 rfl) ?_
          refine ua_ild S hK Z a (by decide) rfl rfl (by omega) dX12_mostLeft_34 ?_
          refine utop (y := (nI (f2 a))) (uAr_g M 89 f2 a) ?_
          refine lv_aload_n S.1 S.2.1 dX12_mostLeft_35 rfl (lv_at hl 2 rfl) ?_
          refine ug_r S hK Z (j := 28) 89 (by decide) rfl rfl rfl (by decide) iX12_mostLeft_X12 qX12_mostLeft_61 dX12_mostLeft_36 ?_
          refine lv_iload_n S.1 S.2.1 dX12_mostLeft_39 rfl (lv_at hl 4 rfl) ?_
          refine ua_ild S hK Z b (by decide) rfl rfl (by omega) dX12_mostLeft_40 ?_
          refine utop (y := (nI (f2 b))) (uAr_g M 89 f2 b) ?_
          refine lv_icmp_ge (tgt := 48) S.1 S.2.1 dX12_mostLeft_41 (by decide) (fun c_5 => ?_) (fun c_5 => ?_)
          · skip
            have c_5 : (f2 b) ≤ (f2 a) := (nI_leI (a := (f2 b)) (b := (f2 a)) (by omega) (by omega)).mp c_5
            refine lv_iconst (v := 0) S.1 S.2.1 dX12_mostLeft_48 (by decide) ?_
            refine lv_iadd S.1 S.2.1 dX12_mostLeft_49 ?_
            refine utop (nI_add y 0) ?_
            refine lv_istore_n (lv' := [(3, .int (nI (y + 0))), (4, .int (nI e)), (0, .ref (G.2.2 71)), (1, .int (nI a)), (2, .int (nI b))]) S.1 S.2.1 dX12_mostLeft_50 rfl hl (by decide) rfl (fun ls hl => ?_)
            refine lv_iinc (v := (nI (e + 1))) (lv' := [(4, .int (nI (e + 1))), (3, .int (nI (y + 0))), (0, .ref (G.2.2 71)), (1, .int (nI a)), (2, .int (nI b))]) S.1 S.2.1 dX12_mostLeft_51 hl (k := 1) rfl (u_inc1 e) (by decide) rfl (fun ls hl => ?_)
            refine lv_goto (tgt := 5) S.1 S.2.1 dX12_mostLeft_54 (by decide) ?_
            exact ih5 (y + 0) (e + 1) f2 (by omega) (by omega) (by
                intro k2 hk5 e5
                have e6 : hCnt w k2 = hCnt w (k0 + 1) := by rw [hCnt, if_pos hk2, hk3]; exact e5
                rw [hPr_e a b e6, hPr, ← i2 k0 (by omega) hk3]
                first
                  | rw [if_pos ⟨hk2, by omega⟩]
                  | (rw [if_neg (fun z => by have := z.2; omega)]; exact Nat.add_zero _)) _ _ _ Z (lv_sub hl [0, 1, 2, 3, 4] rfl)
          · skip
            have c_5 : ¬ (f2 b) ≤ (f2 a) := fun z9 => c_5 ((nI_leI (a := (f2 b)) (b := (f2 a)) (by omega) (by omega)).mpr z9)
            refine lv_iconst (v := 1) S.1 S.2.1 dX12_mostLeft_44 (by decide) ?_
            refine lv_goto (tgt := 49) S.1 S.2.1 dX12_mostLeft_45 (by decide) ?_
            refine lv_iadd S.1 S.2.1 dX12_mostLeft_49 ?_
            refine utop (nI_add y 1) ?_
            refine lv_istore_n (lv' := [(3, .int (nI (y + 1))), (4, .int (nI e)), (0, .ref (G.2.2 71)), (1, .int (nI a)), (2, .int (nI b))]) S.1 S.2.1 dX12_mostLeft_50 rfl hl (by decide) rfl (fun ls hl => ?_)
            refine lv_iinc (v := (nI (e + 1))) (lv' := [(4, .int (nI (e + 1))), (3, .int (nI (y + 1))), (0, .ref (G.2.2 71)), (1, .int (nI a)), (2, .int (nI b))]) S.1 S.2.1 dX12_mostLeft_51 hl (k := 1) rfl (u_inc1 e) (by decide) rfl (fun ls hl => ?_)
            refine lv_goto (tgt := 5) S.1 S.2.1 dX12_mostLeft_54 (by decide) ?_
            exact ih5 (y + 1) (e + 1) f2 (by omega) (by omega) (by
                intro k2 hk5 e5
                have e6 : hCnt w k2 = hCnt w (k0 + 1) := by rw [hCnt, if_pos hk2, hk3]; exact e5
                rw [hPr_e a b e6, hPr, ← i2 k0 (by omega) hk3]
                first
                  | rw [if_pos ⟨hk2, by omega⟩]
                  | (rw [if_neg (fun z => by have := z.2; omega)]; exact Nat.add_zero _)) _ _ _ Z (lv_sub hl [0, 1, 2, 3, 4] rfl)
        · skip
          exact absurd ⟨k, hk1, rfl⟩ hno
  exact LP5 (hCnt w 120 + 1) 0 0 f0 (by omega) (by omega) (by intro k _ h; have := hPr_le w a b k; omega) _ _ _ Z (lv_sub hl [0, 1, 2, 3, 4] rfl)
theorem c_X12_mostL (l : Launch) (G : uG) (a b : Nat) (ha : a < 5) (hb : b < 5) (M : uM) (w : Nat → Nat → Nat) (hw : wOk w) (ff : Nat → Nat) (h30 : M.1 71 30 = nI (hCnt w 120)) (hff : ∀ i, M.1 90 i = nI (ff i)) (hfk : ffK w ff 120) : CTi l G yX12_mostLeft wsX12_mostLeft 1 24 [.ref (G.2.2 71), .int (nI a), .int (nI b)] M (fun r M2 => r = nI (qL w a b) ∧ ∃ f2, M2 = uAr M 89 f2) := by
  obtain ⟨f0, hf⟩ := uAr_ex M 89
  have h := c_X12_mostLeft l G a b ha hb M w hw ff h30 hff hfk f0
  rw [hf] at h
  exact h
theorem qU_ne (o : Option (Nat × Nat)) (a b n : Nat) : qU o a b n ≠ none := by
  unfold qU
  cases o with
  | none => exact fun z => by cases z
  | some x =>
    dsimp only
    split <;> exact fun z => by cases z
theorem qA_some (w : Nat → Nat → Nat) : ¬ qA w 5 = none := fun z => by
  have e : qA w 5 = qA w 4 := rfl
  have e2 : qA w 4 = qU (qA w 3) 3 (3 + 1 + 0) (qL w 3 (3 + 1 + 0)) := rfl
  rw [e, e2] at z
  exact qU_ne _ _ _ _ z
set_option maxHeartbeats 4000000 in
set_option maxRecDepth 100000 in
theorem c_X12_ask (l : Launch) (G : uG) (x : Int32) (M : uM) (w : Nat → Nat → Nat) (hr : uMd M w) (hw : wOk w) : CTi l G yX12_ask wsX12_ask 3 68 [.ref (G.2.2 71), .int x] M (fun r M2 => r = spAsk w x ∧ mSm M M2) := by
  refine ustart_i (cc := cX12_ask) (maxL := 7) (ret := (some .int)) (own := RX12) rfl (by decide) rfl (Nat.le_of_ble_eq_true rfl) ?_
  intro xp xe xs xm xa xb xt xc xA ls S hK hA Z hre hlk hl
  have hl : lv_has ls 7 [(0, .ref (G.2.2 71)), (1, .int x)] := hl
  refine lv_iload_n S.1 S.2.1 dX12_ask_0 rfl (lv_at hl 1 rfl) ?_
  refine lv_i2l (v := x.toInt64) S.1 S.2.1 dX12_ask_1 rfl ?_
  refine lv_lconst (v := 0) S.1 S.2.1 dX12_ask_2 (by decide) ?_
  refine lv_lconst (v := 1) S.1 S.2.1 dX12_ask_3 (by decide) ?_
  refine uc_Si (As := [.long x.toInt64, .long 0, .long 1]) (rest := []) S hK hA Z (c_X12_in l G x 0 1 _ _ _ rfl (by decide) (by decide) M) (va_cwS 3 S.2.2.2.2 gX12_ask_X12_in rfl rfl rfl (by decide +kernel) ⟨Nat.le_of_ble_eq_true rfl, Nat.le_of_ble_eq_true rfl⟩) rfl hl.1 rfl (Nat.le_of_ble_eq_true rfl) dX12_ask_4 ⟨Nat.zero_le _, Nat.zero_le _⟩ (fun r_1 M_1 H locs hp Z => ?_)
  obtain ⟨⟨rfl, w_1⟩ | ⟨rfl, w_1⟩, hM_1⟩ := hp
  · skip
    rw [hM_1] at Z
    refine lv_if_ne (tgt := 13) S.1 S.2.1 dX12_ask_7 (by decide) (fun _ => ?_) (fun c => absurd c (by decide))
    refine lv_aload_n S.1 S.2.1 dX12_ask_13 rfl (lv_at hl 0 rfl) ?_
    refine uc_Vv (As := []) (rest := []) S hK hA Z (c_X12_findF l G M w hr hw) (cwV 0 S.2.2.2.2 gX12_ask_X12_findFits rfl rfl rfl (by decide +kernel) ⟨Nat.le_of_ble_eq_true rfl, Nat.le_of_ble_eq_true rfl⟩) (by decide) rfl rfl rfl hl.1 rfl (Nat.le_of_ble_eq_true rfl) dX12_ask_14 ⟨Nat.zero_le _, Nat.zero_le _⟩ (fun M_3 H locs hp Z => ?_)
    obtain ⟨hsm, hfn⟩ := hp
    obtain ⟨M1, hM1⟩ : ∃ X, X = M_3 := ⟨_, rfl⟩
    rw [← hM1] at Z hsm hfn
    obtain ⟨ff, hff, hfk⟩ := hfn.2
    have hcl := hCnt_le w 120
    obtain ⟨fa0, hfa0⟩ := uAr_ex M1 89
    have Z := uZ_eq hfa0.symm Z
    refine lv_bipush (v := (-6)) S.1 S.2.1 dX12_ask_17 (by decide) ?_
    refine lv_istore_n (lv' := [(2, .int (-6)), (0, .ref (G.2.2 71)), (1, .int x)]) S.1 S.2.1 dX12_ask_19 rfl hl (by decide) rfl (fun ls hl => ?_)
    refine lv_aload_n S.1 S.2.1 dX12_ask_20 rfl (lv_at hl 1 rfl) ?_
    refine ug_i S hK Z (j := 30) (by decide) rfl rfl rfl (by decide) iX12_ask_X12 qX12_ask_306 dX12_ask_21 ?_
    refine utop (y := (nI (hCnt w 120))) ((uAr_o M1 89 fa0 30 (a := 71) (by decide)).trans hfn.1) ?_
    refine lv_iconst (v := 1) S.1 S.2.1 dX12_ask_24 (by decide) ?_
    refine lv_iadd S.1 S.2.1 dX12_ask_25 ?_
    refine utop (nI_add (hCnt w 120) 1) ?_
    refine lv_istore_n (lv' := [(3, .int (nI ((hCnt w 120) + 1))), (2, .int (-6)), (0, .ref (G.2.2 71)), (1, .int x)]) S.1 S.2.1 dX12_ask_26 rfl hl (by decide) rfl (fun ls hl => ?_)
    refine lv_iconst (v := 1) S.1 S.2.1 dX12_ask_27 (by decide) ?_
    refine lv_istore (lv' := [(4, .int 1), (3, .int (nI ((hCnt w 120) + 1))), (2, .int (-6)), (0, .ref (G.2.2 71)), (1, .int x)]) S.1 S.2.1 dX12_ask_28 hl (by decide) rfl (fun ls hl => ?_)
    have LP30 : ∀ (fU : Nat) (bt : Int32) (fw : Nat) (t : Nat) (fa : Nat → Nat), (35 < t + fU) → (1 ≤ t ∧ t ≤ 35 ∧ fw ≤ hCnt w 120 + 1) → (asI w t bt fw) → (t = 1 ∨ 0 < hCnt w 120) → ∀ (H : Heap) (locs : List Loc) (ls : Array Slot), uZ G xA (uAr M1 89 fa) xs.heap H locs → lv_has ls 7 [(4, .int (nI t)), (3, .int (nI fw)), (2, .int bt), (0, .ref (G.2.2 71)), (1, .int x)] → W xp l xe (uRm 3 68) xs xm xa xb xt xc H locs 0 0 (MQ xb (va_Qi (fun r M2 => r = spAsk w x ∧ mSm M M2) (fun M' t => uB G M' t) xA) xa xs 0 0 xA) (F0 xm 30 ls []) := by
      intro fU
      induction fU with
      | zero =>
        intro bt fw t fa hfl i1 i2 i3 H locs ls Z hl
        exfalso
        omega
      | succ fU ih30 =>
        intro bt fw t fa hfl i1 i2 i3 H locs ls Z hl
        refine lv_iload S.1 S.2.1 dX12_ask_30 (lv_at hl 0 rfl) ?_
        refine lv_bipush (v := 35) S.1 S.2.1 dX12_ask_32 (by decide) ?_
        refine lv_icmp_ge (tgt := 130) S.1 S.2.1 dX12_ask_34 (by decide) (fun c_4 => ?_) (fun c_4 => ?_)
        · skip
          have c_4 : 35 ≤ t := (nI_leI (a := 35) (b := t) (by omega) (by omega)).mp c_4
          have hbt : bt = -6 ∨ ∃ j, j < 1000 ∧ bt = nI j := by
            rcases i2 with ⟨-, z, -⟩ | ⟨x9, -, z1, z2, -⟩
            · exact Or.inl z
            · exact Or.inr ⟨x9.1, by omega, z2⟩
          refine lv_iload_n S.1 S.2.1 dX12_ask_130 rfl (lv_at hl 2 rfl) ?_
          refine lv_if_lt (tgt := 138) S.1 S.2.1 dX12_ask_131 (by decide) (fun c_5 => ?_) (fun c_5 => ?_)
          · skip
            refine lv_iload_n S.1 S.2.1 dX12_ask_138 rfl (lv_at hl 2 rfl) ?_
            refine lv_goto (tgt := 143) S.1 S.2.1 dX12_ask_139 (by decide) ?_
            refine uret_i S hK Z hre hlk dX12_ask_143 ?_
            refine ⟨?_, mSm_r hsm (by decide)⟩
            rw [spAsk, if_neg (not_not_intro (show inr _ 0 1 by assumption))]
            by_cases hz : hCnt w 120 = 0
            · rw [if_pos hz]
              rcases i2 with ⟨-, z, z3⟩ | ⟨x9, z0, z1, z2, -⟩
              · first
                  | exact z
                  | exact absurd (show bt < 0 by rw [z]; decide) (by assumption)
              · rw [show t = 1 by omega, aS_1] at z0
                cases z0
            · rw [if_neg hz]
              obtain rfl : t = 35 := by omega
              rw [← aS_35]
              rcases i2 with ⟨z0, z, z3⟩ | ⟨x9, z0, z1, z2, z3⟩
              · exfalso
                have := aS_35 w
                rw [z0] at this
                exact absurd this.symm (qA_some w)
              · rw [z0]
                first
                  | (rw [if_pos (by assumption)]; exact z2)
                  | (rw [if_neg (by assumption)]; exact congrArg nI z3)
                  | exact absurd (by assumption : bt < 0) (by rw [z2]; exact nI_pos (by omega))
          · skip
            refine lv_iload_n S.1 S.2.1 dX12_ask_134 rfl (lv_at hl 4 rfl) ?_
            refine lv_if_ne (tgt := 142) S.1 S.2.1 dX12_ask_135 (by decide) (fun c_6 => ?_) (fun c_6 => ?_)
            · skip
              refine lv_iload_n S.1 S.2.1 dX12_ask_142 rfl (lv_at hl 1 rfl) ?_
              refine uret_i S hK Z hre hlk dX12_ask_143 ?_
              refine ⟨?_, mSm_r hsm (by decide)⟩
              rw [spAsk, if_neg (not_not_intro (show inr _ 0 1 by assumption))]
              by_cases hz : hCnt w 120 = 0
              · rw [if_pos hz]
                rcases i2 with ⟨-, z, z3⟩ | ⟨x9, z0, z1, z2, -⟩
                · first
                    | exact z
                    | exact absurd (show bt < 0 by rw [z]; decide) (by assumption)
                · rw [show t = 1 by omega, aS_1] at z0
                  cases z0
              · rw [if_neg hz]
                obtain rfl : t = 35 := by omega
                rw [← aS_35]
                rcases i2 with ⟨z0, z, z3⟩ | ⟨x9, z0, z1, z2, z3⟩
                · exfalso
                  have := aS_35 w
                  rw [z0] at this
                  exact absurd this.symm (qA_some w)
                · rw [z0]
                  first
                    | (rw [if_pos (by assumption)]; exact z2)
                    | (rw [if_neg (by assumption)]; exact congrArg nI z3)
                    | exact absurd (by assumption : bt < 0) (by rw [z2]; exact nI_pos (by omega))
            · skip
              refine lv_iload_n S.1 S.2.1 dX12_ask_138 rfl (lv_at hl 2 rfl) ?_
              refine lv_goto (tgt := 143) S.1 S.2.1 dX12_ask_139 (by decide) ?_
              refine uret_i S hK Z hre hlk dX12_ask_143 ?_
              refine ⟨?_, mSm_r hsm (by decide)⟩
              rw [spAsk, if_neg (not_not_intro (show inr _ 0 1 by assumption))]
              by_cases hz : hCnt w 120 = 0
              · rw [if_pos hz]
                rcases i2 with ⟨-, z, z3⟩ | ⟨x9, z0, z1, z2, -⟩
                · first
                    | exact z
                    | exact absurd (show bt < 0 by rw [z]; decide) (by assumption)
                · rw [show t = 1 by omega, aS_1] at z0
                  cases z0
              · rw [if_neg hz]
                obtain rfl : t = 35 := by omega
                rw [← aS_35]
                rcases i2 with ⟨z0, z, z3⟩ | ⟨x9, z0, z1, z2, z3⟩
                · exfalso
                  have := aS_35 w
                  rw [z0] at this
                  exact absurd this.symm (qA_some w)
                · rw [z0]
                  first
                    | (rw [if_pos (by assumption)]; exact z2)
                    | (rw [if_neg (by assumption)]; exact congrArg nI z3)
                    | exact absurd (by assumption : bt < 0) (by rw [z2]; exact nI_pos (by omega))
        · skip
          have c_4 : ¬ 35 ≤ t := fun z9 => c_4 ((nI_leI (a := 35) (b := t) (by omega) (by omega)).mpr z9)
          refine lv_aload_n S.1 S.2.1 dX12_ask_37 rfl (lv_at hl 3 rfl) ?_
          refine ug_i S hK Z (j := 30) (by decide) rfl rfl rfl (by decide) iX12_ask_X12 qX12_ask_306 dX12_ask_38 ?_
          refine utop (y := (nI (hCnt w 120))) ((uAr_o M1 89 fa 30 (a := 71) (by decide)).trans hfn.1) ?_
          refine lv_if_le (tgt := 130) S.1 S.2.1 dX12_ask_41 (by decide) (fun c_7 => ?_) (fun c_7 => ?_)
          · skip
            have c_7 : (hCnt w 120) ≤ 0 := (nI_leI (a := (hCnt w 120)) (b := 0) (by omega) (by omega)).mp c_7
            have hbt : bt = -6 ∨ ∃ j, j < 1000 ∧ bt = nI j := by
              rcases i2 with ⟨-, z, -⟩ | ⟨x9, -, z1, z2, -⟩
              · exact Or.inl z
              · exact Or.inr ⟨x9.1, by omega, z2⟩
            refine lv_iload_n S.1 S.2.1 dX12_ask_130 rfl (lv_at hl 2 rfl) ?_
            refine lv_if_lt (tgt := 138) S.1 S.2.1 dX12_ask_131 (by decide) (fun c_8 => ?_) (fun c_8 => ?_)
            · skip
              refine lv_iload_n S.1 S.2.1 dX12_ask_138 rfl (lv_at hl 2 rfl) ?_
              refine lv_goto (tgt := 143) S.1 S.2.1 dX12_ask_139 (by decide) ?_
              refine uret_i S hK Z hre hlk dX12_ask_143 ?_
              refine ⟨?_, mSm_r hsm (by decide)⟩
              rw [spAsk, if_neg (not_not_intro (show inr _ 0 1 by assumption))]
              by_cases hz : hCnt w 120 = 0
              · rw [if_pos hz]
                rcases i2 with ⟨-, z, z3⟩ | ⟨x9, z0, z1, z2, -⟩
                · first
                    | exact z
                    | exact absurd (show bt < 0 by rw [z]; decide) (by assumption)
                · rw [show t = 1 by omega, aS_1] at z0
                  cases z0
              · rw [if_neg hz]
                obtain rfl : t = 35 := by omega
                rw [← aS_35]
                rcases i2 with ⟨z0, z, z3⟩ | ⟨x9, z0, z1, z2, z3⟩
                · exfalso
                  have := aS_35 w
                  rw [z0] at this
                  exact absurd this.symm (qA_some w)
                · rw [z0]
                  first
                    | (rw [if_pos (by assumption)]; exact z2)
                    | (rw [if_neg (by assumption)]; exact congrArg nI z3)
                    | exact absurd (by assumption : bt < 0) (by rw [z2]; exact nI_pos (by omega))
            · skip
              refine lv_iload_n S.1 S.2.1 dX12_ask_134 rfl (lv_at hl 4 rfl) ?_
              refine lv_if_ne (tgt := 142) S.1 S.2.1 dX12_ask_135 (by decide) (fun c_9 => ?_) (fun c_9 => ?_)
              · skip
                refine lv_iload_n S.1 S.2.1 dX12_ask_142 rfl (lv_at hl 1 rfl) ?_
                refine uret_i S hK Z hre hlk dX12_ask_143 ?_
                refine ⟨?_, mSm_r hsm (by decide)⟩
                rw [spAsk, if_neg (not_not_intro (show inr _ 0 1 by assumption))]
                by_cases hz : hCnt w 120 = 0
                · rw [if_pos hz]
                  rcases i2 with ⟨-, z, z3⟩ | ⟨x9, z0, z1, z2, -⟩
                  · first
                      | exact z
                      | exact absurd (show bt < 0 by rw [z]; decide) (by assumption)
                  · rw [show t = 1 by omega, aS_1] at z0
                    cases z0
                · rw [if_neg hz]
                  obtain rfl : t = 35 := by omega
                  rw [← aS_35]
                  rcases i2 with ⟨z0, z, z3⟩ | ⟨x9, z0, z1, z2, z3⟩
                  · exfalso
                    have := aS_35 w
                    rw [z0] at this
                    exact absurd this.symm (qA_some w)
                  · rw [z0]
                    first
                      | (rw [if_pos (by assumption)]; exact z2)
                      | (rw [if_neg (by assumption)]; exact congrArg nI z3)
                      | exact absurd (by assumption : bt < 0) (by rw [z2]; exact nI_pos (by omega))
              · skip
                refine lv_iload_n S.1 S.2.1 dX12_ask_138 rfl (lv_at hl 2 rfl) ?_
                refine lv_goto (tgt := 143) S.1 S.2.1 dX12_ask_139 (by decide) ?_
                refine uret_i S hK Z hre hlk dX12_ask_143 ?_
                refine ⟨?_, mSm_r hsm (by decide)⟩
                rw [spAsk, if_neg (not_not_intro (show inr _ 0 1 by assumption))]
                by_cases hz : hCnt w 120 = 0
                · rw [if_pos hz]
                  rcases i2 with ⟨-, z, z3⟩ | ⟨x9, z0, z1, z2, -⟩
                  · first
                      | exact z
                      | exact absurd (show bt < 0 by rw [z]; decide) (by assumption)
                  · rw [show t = 1 by omega, aS_1] at z0
                    cases z0
                · rw [if_neg hz]
                  obtain rfl : t = 35 := by omega
                  rw [← aS_35]
                  rcases i2 with ⟨z0, z, z3⟩ | ⟨x9, z0, z1, z2, z3⟩
                  · exfalso
                    have := aS_35 w
                    rw [z0] at this
                    exact absurd this.symm (qA_some w)
                  · rw [z0]
                    first
                      | (rw [if_pos (by assumption)]; exact z2)
                      | (rw [if_neg (by assumption)]; exact congrArg nI z3)
                      | exact absurd (by assumption : bt < 0) (by rw [z2]; exact nI_pos (by omega))
          · skip
            have c_7 : ¬ (hCnt w 120) ≤ 0 := fun z9 => c_7 ((nI_leI (a := (hCnt w 120)) (b := 0) (by omega) (by omega)).mpr z9)
            refine lv_iload S.1 S.2.1 dX12_ask_44 (lv_at hl 0 rfl) ?_
            refine lv_bipush (v := 10) S.1 S.2.1 dX12_ask_46 (by decide) ?_
            refine lv_idiv S.1 S.2.1 dX12_ask_48 (by decide) ?_
            refine utop (pk_div (a := t) (d := 10) (by omega) (by omega) (by omega)) ?_
            refine lv_iload S.1 S.2.1 dX12_ask_49 (lv_at hl 0 rfl) ?_
            refine lv_bipush (v := 10) S.1 S.2.1 dX12_ask_51 (by decide) ?_
            refine lv_irem S.1 S.2.1 dX12_ask_53 (by decide) ?_
            refine utop (pk_rem (a := t) (d := 10) (by omega) (by omega) (by omega)) ?_
            refine lv_icmp_ge (tgt := 70) S.1 S.2.1 dX12_ask_54 (by decide) (fun c_10 => ?_) (fun c_10 => ?_)
            · skip
              have c_10 : (t % 10) ≤ (t / 10) := (nI_leI (a := (t % 10)) (b := (t / 10)) (by omega) (by omega)).mp c_10
              refine lv_iconst (v := 0) S.1 S.2.1 dX12_ask_70 (by decide) ?_
              refine lv_istore (lv' := [(5, .int 0), (4, .int (nI t)), (3, .int (nI fw)), (2, .int bt), (0, .ref (G.2.2 71)), (1, .int x)]) S.1 S.2.1 dX12_ask_71 hl (by decide) rfl (fun ls hl => ?_)
              refine lv_iload S.1 S.2.1 dX12_ask_73 (lv_at hl 0 rfl) ?_
              refine lv_if_eq (tgt := 95) S.1 S.2.1 dX12_ask_75 (by decide) (fun _ => ?_) (fun c => absurd c (by decide))
              refine lv_iload_n S.1 S.2.1 dX12_ask_95 rfl (lv_at hl 2 rfl) ?_
              refine lv_istore (lv' := [(6, .int (nI fw)), (5, .int 0), (4, .int (nI t)), (3, .int (nI fw)), (2, .int bt), (0, .ref (G.2.2 71)), (1, .int x)]) S.1 S.2.1 dX12_ask_96 hl (by decide) rfl (fun ls hl => ?_)
              refine lv_iload S.1 S.2.1 dX12_ask_98 (lv_at hl 0 rfl) ?_
              refine lv_iload_n S.1 S.2.1 dX12_ask_100 rfl (lv_at hl 3 rfl) ?_
              refine lv_icmp_ge (tgt := 109) S.1 S.2.1 dX12_ask_101 (by decide) (fun c_12 => ?_) (fun c_12 => ?_)
              · skip
                have c_12 : fw ≤ fw := (nI_leI (a := fw) (b := fw) (by omega) (by omega)).mp c_12
                refine lv_iload_n S.1 S.2.1 dX12_ask_109 rfl (lv_at hl 4 rfl) ?_
                refine lv_istore_n (lv' := [(2, .int bt), (6, .int (nI fw)), (5, .int 0), (4, .int (nI t)), (3, .int (nI fw)), (0, .ref (G.2.2 71)), (1, .int x)]) S.1 S.2.1 dX12_ask_110 rfl hl (by decide) rfl (fun ls hl => ?_)
                refine lv_iload S.1 S.2.1 dX12_ask_111 (lv_at hl 1 rfl) ?_
                refine lv_iload_n S.1 S.2.1 dX12_ask_113 rfl (lv_at hl 4 rfl) ?_
                refine lv_icmp_ge (tgt := 122) S.1 S.2.1 dX12_ask_114 (by decide) (fun c_13 => ?_) (fun c_13 => ?_)
                · skip
                  have c_13 : fw ≤ fw := (nI_leI (a := fw) (b := fw) (by omega) (by omega)).mp c_13
                  refine lv_iload_n S.1 S.2.1 dX12_ask_122 rfl (lv_at hl 4 rfl) ?_
                  refine lv_istore_n (lv' := [(3, .int (nI fw)), (2, .int bt), (6, .int (nI fw)), (5, .int 0), (4, .int (nI t)), (0, .ref (G.2.2 71)), (1, .int x)]) S.1 S.2.1 dX12_ask_123 rfl hl (by decide) rfl (fun ls hl => ?_)
                  refine lv_iinc (v := (nI (t + 1))) (lv' := [(4, .int (nI (t + 1))), (3, .int (nI fw)), (2, .int bt), (6, .int (nI fw)), (5, .int 0), (0, .ref (G.2.2 71)), (1, .int x)]) S.1 S.2.1 dX12_ask_124 hl (k := 4) rfl (u_inc1 t) (by decide) rfl (fun ls hl => ?_)
                  refine lv_goto (tgt := 30) S.1 S.2.1 dX12_ask_127 (by decide) ?_
                  exact ih30 bt fw (t + 1) fa (by omega) (by omega) (by
                      first
                        | (exfalso; omega)
                        | exact asI_y i2 (by omega) ⟨by omega, by omega⟩ (by omega)
                        | exact asI_n i2 ⟨by omega, by omega⟩ (by omega)
                        | exact asI_o i2 (by omega)) (by exact Or.inr (by omega)) _ _ _ Z (lv_sub hl [0, 1, 2, 5, 6] rfl)
                · skip
                  have c_13 : ¬ fw ≤ fw := fun z9 => c_13 ((nI_leI (a := fw) (b := fw) (by omega) (by omega)).mpr z9)
                  refine lv_iload S.1 S.2.1 dX12_ask_117 (lv_at hl 1 rfl) ?_
                  refine lv_goto (tgt := 123) S.1 S.2.1 dX12_ask_119 (by decide) ?_
                  refine lv_istore_n (lv' := [(3, .int (nI fw)), (2, .int bt), (6, .int (nI fw)), (5, .int 0), (4, .int (nI t)), (0, .ref (G.2.2 71)), (1, .int x)]) S.1 S.2.1 dX12_ask_123 rfl hl (by decide) rfl (fun ls hl => ?_)
                  refine lv_iinc (v := (nI (t + 1))) (lv' := [(4, .int (nI (t + 1))), (3, .int (nI fw)), (2, .int bt), (6, .int (nI fw)), (5, .int 0), (0, .ref (G.2.2 71)), (1, .int x)]) S.1 S.2.1 dX12_ask_124 hl (k := 4) rfl (u_inc1 t) (by decide) rfl (fun ls hl => ?_)
                  refine lv_goto (tgt := 30) S.1 S.2.1 dX12_ask_127 (by decide) ?_
                  exact ih30 bt fw (t + 1) fa (by omega) (by omega) (by
                      first
                        | (exfalso; omega)
                        | exact asI_y i2 (by omega) ⟨by omega, by omega⟩ (by omega)
                        | exact asI_n i2 ⟨by omega, by omega⟩ (by omega)
                        | exact asI_o i2 (by omega)) (by exact Or.inr (by omega)) _ _ _ Z (lv_sub hl [0, 1, 2, 5, 6] rfl)
              · skip
                have c_12 : ¬ fw ≤ fw := fun z9 => c_12 ((nI_leI (a := fw) (b := fw) (by omega) (by omega)).mpr z9)
                refine lv_iload S.1 S.2.1 dX12_ask_104 (lv_at hl 2 rfl) ?_
                refine lv_goto (tgt := 110) S.1 S.2.1 dX12_ask_106 (by decide) ?_
                refine lv_istore_n (lv' := [(2, .int (nI t)), (6, .int (nI fw)), (5, .int 0), (4, .int (nI t)), (3, .int (nI fw)), (0, .ref (G.2.2 71)), (1, .int x)]) S.1 S.2.1 dX12_ask_110 rfl hl (by decide) rfl (fun ls hl => ?_)
                refine lv_iload S.1 S.2.1 dX12_ask_111 (lv_at hl 1 rfl) ?_
                refine lv_iload_n S.1 S.2.1 dX12_ask_113 rfl (lv_at hl 4 rfl) ?_
                refine lv_icmp_ge (tgt := 122) S.1 S.2.1 dX12_ask_114 (by decide) (fun c_14 => ?_) (fun c_14 => ?_)
                · skip
                  have c_14 : fw ≤ fw := (nI_leI (a := fw) (b := fw) (by omega) (by omega)).mp c_14
                  refine lv_iload_n S.1 S.2.1 dX12_ask_122 rfl (lv_at hl 4 rfl) ?_
                  refine lv_istore_n (lv' := [(3, .int (nI fw)), (2, .int (nI t)), (6, .int (nI fw)), (5, .int 0), (4, .int (nI t)), (0, .ref (G.2.2 71)), (1, .int x)]) S.1 S.2.1 dX12_ask_123 rfl hl (by decide) rfl (fun ls hl => ?_)
                  refine lv_iinc (v := (nI (t + 1))) (lv' := [(4, .int (nI (t + 1))), (3, .int (nI fw)), (2, .int (nI t)), (6, .int (nI fw)), (5, .int 0), (0, .ref (G.2.2 71)), (1, .int x)]) S.1 S.2.1 dX12_ask_124 hl (k := 4) rfl (u_inc1 t) (by decide) rfl (fun ls hl => ?_)
                  refine lv_goto (tgt := 30) S.1 S.2.1 dX12_ask_127 (by decide) ?_
                  exact ih30 (nI t) fw (t + 1) fa (by omega) (by omega) (by
                      first
                        | (exfalso; omega)
                        | exact asI_y i2 (by omega) ⟨by omega, by omega⟩ (by omega)
                        | exact asI_n i2 ⟨by omega, by omega⟩ (by omega)
                        | exact asI_o i2 (by omega)) (by exact Or.inr (by omega)) _ _ _ Z (lv_sub hl [0, 1, 2, 5, 6] rfl)
                · skip
                  have c_14 : ¬ fw ≤ fw := fun z9 => c_14 ((nI_leI (a := fw) (b := fw) (by omega) (by omega)).mpr z9)
                  refine lv_iload S.1 S.2.1 dX12_ask_117 (lv_at hl 1 rfl) ?_
                  refine lv_goto (tgt := 123) S.1 S.2.1 dX12_ask_119 (by decide) ?_
                  refine lv_istore_n (lv' := [(3, .int (nI fw)), (2, .int (nI t)), (6, .int (nI fw)), (5, .int 0), (4, .int (nI t)), (0, .ref (G.2.2 71)), (1, .int x)]) S.1 S.2.1 dX12_ask_123 rfl hl (by decide) rfl (fun ls hl => ?_)
                  refine lv_iinc (v := (nI (t + 1))) (lv' := [(4, .int (nI (t + 1))), (3, .int (nI fw)), (2, .int (nI t)), (6, .int (nI fw)), (5, .int 0), (0, .ref (G.2.2 71)), (1, .int x)]) S.1 S.2.1 dX12_ask_124 hl (k := 4) rfl (u_inc1 t) (by decide) rfl (fun ls hl => ?_)
                  refine lv_goto (tgt := 30) S.1 S.2.1 dX12_ask_127 (by decide) ?_
                  exact ih30 (nI t) fw (t + 1) fa (by omega) (by omega) (by
                      first
                        | (exfalso; omega)
                        | exact asI_y i2 (by omega) ⟨by omega, by omega⟩ (by omega)
                        | exact asI_n i2 ⟨by omega, by omega⟩ (by omega)
                        | exact asI_o i2 (by omega)) (by exact Or.inr (by omega)) _ _ _ Z (lv_sub hl [0, 1, 2, 5, 6] rfl)
            · skip
              have c_10 : ¬ (t % 10) ≤ (t / 10) := fun z9 => c_10 ((nI_leI (a := (t % 10)) (b := (t / 10)) (by omega) (by omega)).mpr z9)
              refine lv_iload S.1 S.2.1 dX12_ask_57 (lv_at hl 0 rfl) ?_
              refine lv_bipush (v := 10) S.1 S.2.1 dX12_ask_59 (by decide) ?_
              refine lv_irem S.1 S.2.1 dX12_ask_61 (by decide) ?_
              refine utop (pk_rem (a := t) (d := 10) (by omega) (by omega) (by omega)) ?_
              refine lv_iconst (v := 5) S.1 S.2.1 dX12_ask_62 (by decide) ?_
              refine lv_icmp_ge (tgt := 70) S.1 S.2.1 dX12_ask_63 (by decide) (fun c_15 => ?_) (fun c_15 => ?_)
              · skip
                have c_15 : 5 ≤ (t % 10) := (nI_leI (a := 5) (b := (t % 10)) (by omega) (by omega)).mp c_15
                refine lv_iconst (v := 0) S.1 S.2.1 dX12_ask_70 (by decide) ?_
                refine lv_istore (lv' := [(5, .int 0), (4, .int (nI t)), (3, .int (nI fw)), (2, .int bt), (0, .ref (G.2.2 71)), (1, .int x)]) S.1 S.2.1 dX12_ask_71 hl (by decide) rfl (fun ls hl => ?_)
                refine lv_iload S.1 S.2.1 dX12_ask_73 (lv_at hl 0 rfl) ?_
                refine lv_if_eq (tgt := 95) S.1 S.2.1 dX12_ask_75 (by decide) (fun _ => ?_) (fun c => absurd c (by decide))
                refine lv_iload_n S.1 S.2.1 dX12_ask_95 rfl (lv_at hl 2 rfl) ?_
                refine lv_istore (lv' := [(6, .int (nI fw)), (5, .int 0), (4, .int (nI t)), (3, .int (nI fw)), (2, .int bt), (0, .ref (G.2.2 71)), (1, .int x)]) S.1 S.2.1 dX12_ask_96 hl (by decide) rfl (fun ls hl => ?_)
                refine lv_iload S.1 S.2.1 dX12_ask_98 (lv_at hl 0 rfl) ?_
                refine lv_iload_n S.1 S.2.1 dX12_ask_100 rfl (lv_at hl 3 rfl) ?_
                refine lv_icmp_ge (tgt := 109) S.1 S.2.1 dX12_ask_101 (by decide) (fun c_17 => ?_) (fun c_17 => ?_)
                · skip
                  have c_17 : fw ≤ fw := (nI_leI (a := fw) (b := fw) (by omega) (by omega)).mp c_17
                  refine lv_iload_n S.1 S.2.1 dX12_ask_109 rfl (lv_at hl 4 rfl) ?_
                  refine lv_istore_n (lv' := [(2, .int bt), (6, .int (nI fw)), (5, .int 0), (4, .int (nI t)), (3, .int (nI fw)), (0, .ref (G.2.2 71)), (1, .int x)]) S.1 S.2.1 dX12_ask_110 rfl hl (by decide) rfl (fun ls hl => ?_)
                  refine lv_iload S.1 S.2.1 dX12_ask_111 (lv_at hl 1 rfl) ?_
                  refine lv_iload_n S.1 S.2.1 dX12_ask_113 rfl (lv_at hl 4 rfl) ?_
                  refine lv_icmp_ge (tgt := 122) S.1 S.2.1 dX12_ask_114 (by decide) (fun c_18 => ?_) (fun c_18 => ?_)
                  · skip
                    have c_18 : fw ≤ fw := (nI_leI (a := fw) (b := fw) (by omega) (by omega)).mp c_18
                    refine lv_iload_n S.1 S.2.1 dX12_ask_122 rfl (lv_at hl 4 rfl) ?_
                    refine lv_istore_n (lv' := [(3, .int (nI fw)), (2, .int bt), (6, .int (nI fw)), (5, .int 0), (4, .int (nI t)), (0, .ref (G.2.2 71)), (1, .int x)]) S.1 S.2.1 dX12_ask_123 rfl hl (by decide) rfl (fun ls hl => ?_)
                    refine lv_iinc (v := (nI (t + 1))) (lv' := [(4, .int (nI (t + 1))), (3, .int (nI fw)), (2, .int bt), (6, .int (nI fw)), (5, .int 0), (0, .ref (G.2.2 71)), (1, .int x)]) S.1 S.2.1 dX12_ask_124 hl (k := 4) rfl (u_inc1 t) (by decide) rfl (fun ls hl => ?_)
                    refine lv_goto (tgt := 30) S.1 S.2.1 dX12_ask_127 (by decide) ?_
                    exact ih30 bt fw (t + 1) fa (by omega) (by omega) (by
                        first
                          | (exfalso; omega)
                          | exact asI_y i2 (by omega) ⟨by omega, by omega⟩ (by omega)
                          | exact asI_n i2 ⟨by omega, by omega⟩ (by omega)
                          | exact asI_o i2 (by omega)) (by exact Or.inr (by omega)) _ _ _ Z (lv_sub hl [0, 1, 2, 5, 6] rfl)
                  · skip
                    have c_18 : ¬ fw ≤ fw := fun z9 => c_18 ((nI_leI (a := fw) (b := fw) (by omega) (by omega)).mpr z9)
                    refine lv_iload S.1 S.2.1 dX12_ask_117 (lv_at hl 1 rfl) ?_
                    refine lv_goto (tgt := 123) S.1 S.2.1 dX12_ask_119 (by decide) ?_
                    refine lv_istore_n (lv' := [(3, .int (nI fw)), (2, .int bt), (6, .int (nI fw)), (5, .int 0), (4, .int (nI t)), (0, .ref (G.2.2 71)), (1, .int x)]) S.1 S.2.1 dX12_ask_123 rfl hl (by decide) rfl (fun ls hl => ?_)
                    refine lv_iinc (v := (nI (t + 1))) (lv' := [(4, .int (nI (t + 1))), (3, .int (nI fw)), (2, .int bt), (6, .int (nI fw)), (5, .int 0), (0, .ref (G.2.2 71)), (1, .int x)]) S.1 S.2.1 dX12_ask_124 hl (k := 4) rfl (u_inc1 t) (by decide) rfl (fun ls hl => ?_)
                    refine lv_goto (tgt := 30) S.1 S.2.1 dX12_ask_127 (by decide) ?_
                    exact ih30 bt fw (t + 1) fa (by omega) (by omega) (by
                        first
                          | (exfalso; omega)
                          | exact asI_y i2 (by omega) ⟨by omega, by omega⟩ (by omega)
                          | exact asI_n i2 ⟨by omega, by omega⟩ (by omega)
                          | exact asI_o i2 (by omega)) (by exact Or.inr (by omega)) _ _ _ Z (lv_sub hl [0, 1, 2, 5, 6] rfl)
                · skip
                  have c_17 : ¬ fw ≤ fw := fun z9 => c_17 ((nI_leI (a := fw) (b := fw) (by omega) (by omega)).mpr z9)
                  refine lv_iload S.1 S.2.1 dX12_ask_104 (lv_at hl 2 rfl) ?_
                  refine lv_goto (tgt := 110) S.1 S.2.1 dX12_ask_106 (by decide) ?_
                  refine lv_istore_n (lv' := [(2, .int (nI t)), (6, .int (nI fw)), (5, .int 0), (4, .int (nI t)), (3, .int (nI fw)), (0, .ref (G.2.2 71)), (1, .int x)]) S.1 S.2.1 dX12_ask_110 rfl hl (by decide) rfl (fun ls hl => ?_)
                  refine lv_iload S.1 S.2.1 dX12_ask_111 (lv_at hl 1 rfl) ?_
                  refine lv_iload_n S.1 S.2.1 dX12_ask_113 rfl (lv_at hl 4 rfl) ?_
                  refine lv_icmp_ge (tgt := 122) S.1 S.2.1 dX12_ask_114 (by decide) (fun c_19 => ?_) (fun c_19 => ?_)
                  · skip
                    have c_19 : fw ≤ fw := (nI_leI (a := fw) (b := fw) (by omega) (by omega)).mp c_19
                    refine lv_iload_n S.1 S.2.1 dX12_ask_122 rfl (lv_at hl 4 rfl) ?_
                    refine lv_istore_n (lv' := [(3, .int (nI fw)), (2, .int (nI t)), (6, .int (nI fw)), (5, .int 0), (4, .int (nI t)), (0, .ref (G.2.2 71)), (1, .int x)]) S.1 S.2.1 dX12_ask_123 rfl hl (by decide) rfl (fun ls hl => ?_)
                    refine lv_iinc (v := (nI (t + 1))) (lv' := [(4, .int (nI (t + 1))), (3, .int (nI fw)), (2, .int (nI t)), (6, .int (nI fw)), (5, .int 0), (0, .ref (G.2.2 71)), (1, .int x)]) S.1 S.2.1 dX12_ask_124 hl (k := 4) rfl (u_inc1 t) (by decide) rfl (fun ls hl => ?_)
                    refine lv_goto (tgt := 30) S.1 S.2.1 dX12_ask_127 (by decide) ?_
                    exact ih30 (nI t) fw (t + 1) fa (by omega) (by omega) (by
                        first
                          | (exfalso; omega)
                          | exact asI_y i2 (by omega) ⟨by omega, by omega⟩ (by omega)
                          | exact asI_n i2 ⟨by omega, by omega⟩ (by omega)
                          | exact asI_o i2 (by omega)) (by exact Or.inr (by omega)) _ _ _ Z (lv_sub hl [0, 1, 2, 5, 6] rfl)
                  · skip
                    have c_19 : ¬ fw ≤ fw := fun z9 => c_19 ((nI_leI (a := fw) (b := fw) (by omega) (by omega)).mpr z9)
                    refine lv_iload S.1 S.2.1 dX12_ask_117 (lv_at hl 1 rfl) ?_
                    refine lv_goto (tgt := 123) S.1 S.2.1 dX12_ask_119 (by decide) ?_
                    refine lv_istore_n (lv' := [(3, .int (nI fw)), (2, .int (nI t)), (6, .int (nI fw)), (5, .int 0), (4, .int (nI t)), (0, .ref (G.2.2 71)), (1, .int x)]) S.1 S.2.1 dX12_ask_123 rfl hl (by decide) rfl (fun ls hl => ?_)
                    refine lv_iinc (v := (nI (t + 1))) (lv' := [(4, .int (nI (t + 1))), (3, .int (nI fw)), (2, .int (nI t)), (6, .int (nI fw)), (5, .int 0), (0, .ref (G.2.2 71)), (1, .int x)]) S.1 S.2.1 dX12_ask_124 hl (k := 4) rfl (u_inc1 t) (by decide) rfl (fun ls hl => ?_)
                    refine lv_goto (tgt := 30) S.1 S.2.1 dX12_ask_127 (by decide) ?_
                    exact ih30 (nI t) fw (t + 1) fa (by omega) (by omega) (by
                        first
                          | (exfalso; omega)
                          | exact asI_y i2 (by omega) ⟨by omega, by omega⟩ (by omega)
                          | exact asI_n i2 ⟨by omega, by omega⟩ (by omega)
                          | exact asI_o i2 (by omega)) (by exact Or.inr (by omega)) _ _ _ Z (lv_sub hl [0, 1, 2, 5, 6] rfl)
              · skip
                have c_15 : ¬ 5 ≤ (t % 10) := fun z9 => c_15 ((nI_leI (a := 5) (b := (t % 10)) (by omega) (by omega)).mpr z9)
                refine lv_iconst (v := 1) S.1 S.2.1 dX12_ask_66 (by decide) ?_
                refine lv_goto (tgt := 71) S.1 S.2.1 dX12_ask_67 (by decide) ?_
                refine lv_istore (lv' := [(5, .int 1), (4, .int (nI t)), (3, .int (nI fw)), (2, .int bt), (0, .ref (G.2.2 71)), (1, .int x)]) S.1 S.2.1 dX12_ask_71 hl (by decide) rfl (fun ls hl => ?_)
                refine lv_iload S.1 S.2.1 dX12_ask_73 (lv_at hl 0 rfl) ?_
                refine lv_if_eq (tgt := 95) S.1 S.2.1 dX12_ask_75 (by decide) (fun c => absurd c (by decide)) (fun _ => ?_)
                refine lv_aload_n S.1 S.2.1 dX12_ask_78 rfl (lv_at hl 4 rfl) ?_
                refine lv_iload S.1 S.2.1 dX12_ask_79 (lv_at hl 1 rfl) ?_
                refine lv_bipush (v := 10) S.1 S.2.1 dX12_ask_81 (by decide) ?_
                refine lv_idiv S.1 S.2.1 dX12_ask_83 (by decide) ?_
                refine utop (pk_div (a := t) (d := 10) (by omega) (by omega) (by omega)) ?_
                refine lv_iload S.1 S.2.1 dX12_ask_84 (lv_at hl 1 rfl) ?_
                refine lv_bipush (v := 10) S.1 S.2.1 dX12_ask_86 (by decide) ?_
                refine lv_irem S.1 S.2.1 dX12_ask_88 (by decide) ?_
                refine utop (pk_rem (a := t) (d := 10) (by omega) (by omega) (by omega)) ?_
                refine uc_Vi (As := [.int (nI (t / 10)), .int (nI (t % 10))]) (rest := []) S hK hA Z (c_X12_mostL l G (t / 10) (t % 10) (by omega) (by omega) (uAr M1 89 fa) w hw ff ((uAr_o _ _ _ _ (by decide)).trans hfn.1) (fun i => (uAr_o _ _ _ _ (by decide)).trans (hff i)) hfk) (cwV 2 S.2.2.2.2 gX12_ask_X12_mostLeft rfl rfl rfl (by decide +kernel) ⟨Nat.le_of_ble_eq_true rfl, Nat.le_of_ble_eq_true rfl⟩) (by decide) rfl rfl rfl hl.1 rfl (Nat.le_of_ble_eq_true rfl) dX12_ask_89 ⟨Nat.zero_le _, Nat.zero_le _⟩ (fun r_21 M_21 H locs hp Z => ?_)
                obtain ⟨hq, fb, hM⟩ := hp
                have Z := uZ_eq (hM.trans (uAr_uAr _ _ _ _)) Z
                refine utop hq ?_
                have hql := qL_l2 w (t / 10) (t % 10)
                refine lv_goto (tgt := 96) S.1 S.2.1 dX12_ask_92 (by decide) ?_
                refine lv_istore (lv' := [(6, .int (nI (qL w (t / 10) (t % 10)))), (5, .int 1), (4, .int (nI t)), (3, .int (nI fw)), (2, .int bt), (0, .ref (G.2.2 71)), (1, .int x)]) S.1 S.2.1 dX12_ask_96 hl (by decide) rfl (fun ls hl => ?_)
                refine lv_iload S.1 S.2.1 dX12_ask_98 (lv_at hl 0 rfl) ?_
                refine lv_iload_n S.1 S.2.1 dX12_ask_100 rfl (lv_at hl 3 rfl) ?_
                refine lv_icmp_ge (tgt := 109) S.1 S.2.1 dX12_ask_101 (by decide) (fun c_22 => ?_) (fun c_22 => ?_)
                · skip
                  have c_22 : fw ≤ (qL w (t / 10) (t % 10)) := (nI_leI (a := fw) (b := (qL w (t / 10) (t % 10))) (by omega) (by omega)).mp c_22
                  refine lv_iload_n S.1 S.2.1 dX12_ask_109 rfl (lv_at hl 4 rfl) ?_
                  refine lv_istore_n (lv' := [(2, .int bt), (6, .int (nI (qL w (t / 10) (t % 10)))), (5, .int 1), (4, .int (nI t)), (3, .int (nI fw)), (0, .ref (G.2.2 71)), (1, .int x)]) S.1 S.2.1 dX12_ask_110 rfl hl (by decide) rfl (fun ls hl => ?_)
                  refine lv_iload S.1 S.2.1 dX12_ask_111 (lv_at hl 1 rfl) ?_
                  refine lv_iload_n S.1 S.2.1 dX12_ask_113 rfl (lv_at hl 4 rfl) ?_
                  refine lv_icmp_ge (tgt := 122) S.1 S.2.1 dX12_ask_114 (by decide) (fun c_23 => ?_) (fun c_23 => ?_)
                  · skip
                    have c_23 : fw ≤ (qL w (t / 10) (t % 10)) := (nI_leI (a := fw) (b := (qL w (t / 10) (t % 10))) (by omega) (by omega)).mp c_23
                    refine lv_iload_n S.1 S.2.1 dX12_ask_122 rfl (lv_at hl 4 rfl) ?_
                    refine lv_istore_n (lv' := [(3, .int (nI fw)), (2, .int bt), (6, .int (nI (qL w (t / 10) (t % 10)))), (5, .int 1), (4, .int (nI t)), (0, .ref (G.2.2 71)), (1, .int x)]) S.1 S.2.1 dX12_ask_123 rfl hl (by decide) rfl (fun ls hl => ?_)
                    refine lv_iinc (v := (nI (t + 1))) (lv' := [(4, .int (nI (t + 1))), (3, .int (nI fw)), (2, .int bt), (6, .int (nI (qL w (t / 10) (t % 10)))), (5, .int 1), (0, .ref (G.2.2 71)), (1, .int x)]) S.1 S.2.1 dX12_ask_124 hl (k := 4) rfl (u_inc1 t) (by decide) rfl (fun ls hl => ?_)
                    refine lv_goto (tgt := 30) S.1 S.2.1 dX12_ask_127 (by decide) ?_
                    exact ih30 bt fw (t + 1) fb (by omega) (by omega) (by
                        first
                          | (exfalso; omega)
                          | exact asI_y i2 (by omega) ⟨by omega, by omega⟩ (by omega)
                          | exact asI_n i2 ⟨by omega, by omega⟩ (by omega)
                          | exact asI_o i2 (by omega)) (by exact Or.inr (by omega)) _ _ _ Z (lv_sub hl [0, 1, 2, 5, 6] rfl)
                  · skip
                    have c_23 : ¬ fw ≤ (qL w (t / 10) (t % 10)) := fun z9 => c_23 ((nI_leI (a := fw) (b := (qL w (t / 10) (t % 10))) (by omega) (by omega)).mpr z9)
                    refine lv_iload S.1 S.2.1 dX12_ask_117 (lv_at hl 1 rfl) ?_
                    refine lv_goto (tgt := 123) S.1 S.2.1 dX12_ask_119 (by decide) ?_
                    refine lv_istore_n (lv' := [(3, .int (nI (qL w (t / 10) (t % 10)))), (2, .int bt), (6, .int (nI (qL w (t / 10) (t % 10)))), (5, .int 1), (4, .int (nI t)), (0, .ref (G.2.2 71)), (1, .int x)]) S.1 S.2.1 dX12_ask_123 rfl hl (by decide) rfl (fun ls hl => ?_)
                    refine lv_iinc (v := (nI (t + 1))) (lv' := [(4, .int (nI (t + 1))), (3, .int (nI (qL w (t / 10) (t % 10)))), (2, .int bt), (6, .int (nI (qL w (t / 10) (t % 10)))), (5, .int 1), (0, .ref (G.2.2 71)), (1, .int x)]) S.1 S.2.1 dX12_ask_124 hl (k := 4) rfl (u_inc1 t) (by decide) rfl (fun ls hl => ?_)
                    refine lv_goto (tgt := 30) S.1 S.2.1 dX12_ask_127 (by decide) ?_
                    exact ih30 bt (qL w (t / 10) (t % 10)) (t + 1) fb (by omega) (by omega) (by
                        first
                          | (exfalso; omega)
                          | exact asI_y i2 (by omega) ⟨by omega, by omega⟩ (by omega)
                          | exact asI_n i2 ⟨by omega, by omega⟩ (by omega)
                          | exact asI_o i2 (by omega)) (by exact Or.inr (by omega)) _ _ _ Z (lv_sub hl [0, 1, 2, 5, 6] rfl)
                · skip
                  have c_22 : ¬ fw ≤ (qL w (t / 10) (t % 10)) := fun z9 => c_22 ((nI_leI (a := fw) (b := (qL w (t / 10) (t % 10))) (by omega) (by omega)).mpr z9)
                  refine lv_iload S.1 S.2.1 dX12_ask_104 (lv_at hl 2 rfl) ?_
                  refine lv_goto (tgt := 110) S.1 S.2.1 dX12_ask_106 (by decide) ?_
                  refine lv_istore_n (lv' := [(2, .int (nI t)), (6, .int (nI (qL w (t / 10) (t % 10)))), (5, .int 1), (4, .int (nI t)), (3, .int (nI fw)), (0, .ref (G.2.2 71)), (1, .int x)]) S.1 S.2.1 dX12_ask_110 rfl hl (by decide) rfl (fun ls hl => ?_)
                  refine lv_iload S.1 S.2.1 dX12_ask_111 (lv_at hl 1 rfl) ?_
                  refine lv_iload_n S.1 S.2.1 dX12_ask_113 rfl (lv_at hl 4 rfl) ?_
                  refine lv_icmp_ge (tgt := 122) S.1 S.2.1 dX12_ask_114 (by decide) (fun c_24 => ?_) (fun c_24 => ?_)
                  · skip
                    have c_24 : fw ≤ (qL w (t / 10) (t % 10)) := (nI_leI (a := fw) (b := (qL w (t / 10) (t % 10))) (by omega) (by omega)).mp c_24
                    refine lv_iload_n S.1 S.2.1 dX12_ask_122 rfl (lv_at hl 4 rfl) ?_
                    refine lv_istore_n (lv' := [(3, .int (nI fw)), (2, .int (nI t)), (6, .int (nI (qL w (t / 10) (t % 10)))), (5, .int 1), (4, .int (nI t)), (0, .ref (G.2.2 71)), (1, .int x)]) S.1 S.2.1 dX12_ask_123 rfl hl (by decide) rfl (fun ls hl => ?_)
                    refine lv_iinc (v := (nI (t + 1))) (lv' := [(4, .int (nI (t + 1))), (3, .int (nI fw)), (2, .int (nI t)), (6, .int (nI (qL w (t / 10) (t % 10)))), (5, .int 1), (0, .ref (G.2.2 71)), (1, .int x)]) S.1 S.2.1 dX12_ask_124 hl (k := 4) rfl (u_inc1 t) (by decide) rfl (fun ls hl => ?_)
                    refine lv_goto (tgt := 30) S.1 S.2.1 dX12_ask_127 (by decide) ?_
                    exact ih30 (nI t) fw (t + 1) fb (by omega) (by omega) (by
                        first
                          | (exfalso; omega)
                          | exact asI_y i2 (by omega) ⟨by omega, by omega⟩ (by omega)
                          | exact asI_n i2 ⟨by omega, by omega⟩ (by omega)
                          | exact asI_o i2 (by omega)) (by exact Or.inr (by omega)) _ _ _ Z (lv_sub hl [0, 1, 2, 5, 6] rfl)
                  · skip
                    have c_24 : ¬ fw ≤ (qL w (t / 10) (t % 10)) := fun z9 => c_24 ((nI_leI (a := fw) (b := (qL w (t / 10) (t % 10))) (by omega) (by omega)).mpr z9)
                    refine lv_iload S.1 S.2.1 dX12_ask_117 (lv_at hl 1 rfl) ?_
                    refine lv_goto (tgt := 123) S.1 S.2.1 dX12_ask_119 (by decide) ?_
                    refine lv_istore_n (lv' := [(3, .int (nI (qL w (t / 10) (t % 10)))), (2, .int (nI t)), (6, .int (nI (qL w (t / 10) (t % 10)))), (5, .int 1), (4, .int (nI t)), (0, .ref (G.2.2 71)), (1, .int x)]) S.1 S.2.1 dX12_ask_123 rfl hl (by decide) rfl (fun ls hl => ?_)
                    refine lv_iinc (v := (nI (t + 1))) (lv' := [(4, .int (nI (t + 1))), (3, .int (nI (qL w (t / 10) (t % 10)))), (2, .int (nI t)), (6, .int (nI (qL w (t / 10) (t % 10)))), (5, .int 1), (0, .ref (G.2.2 71)), (1, .int x)]) S.1 S.2.1 dX12_ask_124 hl (k := 4) rfl (u_inc1 t) (by decide) rfl (fun ls hl => ?_)
                    refine lv_goto (tgt := 30) S.1 S.2.1 dX12_ask_127 (by decide) ?_
                    exact ih30 (nI t) (qL w (t / 10) (t % 10)) (t + 1) fb (by omega) (by omega) (by
                        first
                          | (exfalso; omega)
                          | exact asI_y i2 (by omega) ⟨by omega, by omega⟩ (by omega)
                          | exact asI_n i2 ⟨by omega, by omega⟩ (by omega)
                          | exact asI_o i2 (by omega)) (by exact Or.inr (by omega)) _ _ _ Z (lv_sub hl [0, 1, 2, 5, 6] rfl)
    exact LP30 36 (-6) ((hCnt w 120) + 1) 1 fa0 (by omega) (by omega) (by exact Or.inl ⟨rfl, rfl, rfl⟩) (by exact Or.inl rfl) _ _ _ Z (lv_sub hl [0, 1, 2, 3, 4] rfl)
  · skip
    rw [hM_1] at Z
    refine lv_if_ne (tgt := 13) S.1 S.2.1 dX12_ask_7 (by decide) (fun c => absurd c (by decide)) (fun _ => ?_)
    refine lv_bipush (v := (-2)) S.1 S.2.1 dX12_ask_10 (by decide) ?_
    refine uret_i S hK Z hre hlk dX12_ask_12 ?_
    rw [spAsk, if_pos (by assumption)]
    exact ⟨rfl, mSm_rf _⟩
