/-- the mean of selling behind i takings, times 10^d -/
def mnS (wd : Nat → Nat) (d t i : Nat) : Nat := wd i * (10 - t) ^ i * 10 ^ (d - i)
def bsS (wd : Nat → Nat) (d t : Nat) : Nat → Nat
  | 0 => 0
  | i + 1 => if i = 0 then 0 else if mnS wd d t (bsS wd d t i) < mnS wd d t i then i else bsS wd d t i
theorem bsS_le (wd : Nat → Nat) (d t : Nat) : ∀ i, bsS wd d t i ≤ i - 1 := by
  intro i
  induction i with
  | zero => exact Nat.le_refl _
  | succ i ih =>
    rw [bsS]
    split
    · omega
    · split <;> omega
theorem mn_cmp {a d i x y : Nat} (hx : a ≤ d) (hy : i ≤ d) : x * 10 ^ i < y * 10 ^ a ↔ x * 10 ^ (d - a) < y * 10 ^ (d - i) := by
  have e1 : x * 10 ^ i * (10 ^ (d - a) * 10 ^ (d - i)) = x * 10 ^ (d - a) * 10 ^ d := by
    rw [show (10 : Nat) ^ d = 10 ^ i * 10 ^ (d - i) from by rw [← Nat.pow_add, show i + (d - i) = d from by omega]]
    simp only [Nat.mul_assoc, Nat.mul_left_comm]
  have e2 : y * 10 ^ a * (10 ^ (d - a) * 10 ^ (d - i)) = y * 10 ^ (d - i) * 10 ^ d := by
    rw [show (10 : Nat) ^ d = 10 ^ a * 10 ^ (d - a) from by rw [← Nat.pow_add, show a + (d - a) = d from by omega]]
    simp only [Nat.mul_assoc, Nat.mul_left_comm, Nat.mul_comm]
  have hp : 0 < 10 ^ (d - a) * 10 ^ (d - i) := Nat.mul_pos (Nat.pow_pos (by decide)) (Nat.pow_pos (by decide))
  have hq : 0 < 10 ^ d := Nat.pow_pos (by decide)
  rw [← Nat.mul_lt_mul_right hp, e1, e2, Nat.mul_lt_mul_right hq]
theorem jS_bs (wd : Nat → Nat) {d : Nat} (t : Nat) : ∀ i, i ≤ d → jS wd t i = (bsS wd d t i, wd (bsS wd d t i) * (10 - t) ^ (bsS wd d t i), 10 ^ (bsS wd d t i)) := by
  intro i
  induction i with
  | zero => intro _; rw [jS, bsS, Nat.pow_zero, Nat.pow_zero, Nat.mul_one]
  | succ i ih =>
    intro hi
    rw [jS, bsS]
    by_cases h0 : i = 0
    · rw [if_pos h0, if_pos h0, Nat.pow_zero, Nat.pow_zero, Nat.mul_one]
    · rw [if_neg h0, if_neg h0, ih (by omega)]
      dsimp only
      have hb := bsS_le wd d t i
      by_cases q : mnS wd d t (bsS wd d t i) < mnS wd d t i
      · rw [if_pos q, if_pos ((mn_cmp (by omega) (by omega)).mpr q)]
      · rw [if_neg q, if_neg (fun z => q ((mn_cmp (by omega) (by omega)).mp z))]
theorem mn_bd {wd : Nat → Nat} {d t i : Nat} (hd : d ≤ 9) (hi : i < d) (hw : wd i ≤ 9) : mnS wd d t i ≤ 9000000000 := by
  unfold mnS
  have h1 : (10 - t) ^ i ≤ 10 ^ i := Nat.pow_le_pow_left (by omega) i
  have h2 : 10 ^ i * 10 ^ (d - i) ≤ 10 ^ 9 := by
    rw [← Nat.pow_add]
    exact Nat.pow_le_pow_right (by decide) (by omega)
  have h3 := Nat.mul_le_mul hw (Nat.le_trans (Nat.mul_le_mul_right (10 ^ (d - i)) h1) h2)
  rw [← Nat.mul_assoc] at h3
  exact h3
theorem mnS_congr {wd wd' : Nat → Nat} {d t i : Nat} (h : wd i = wd' i) : mnS wd d t i = mnS wd' d t i := by
  unfold mnS
  rw [h]
theorem bsS_congr {wd wd' : Nat → Nat} {d t : Nat} (h : ∀ i, i < d → wd i = wd' i) : ∀ i, i ≤ d → bsS wd d t i = bsS wd' d t i := by
  intro i
  induction i with
  | zero => intro _; rfl
  | succ i ih =>
    intro hi
    have hb := bsS_le wd d t i
    rw [bsS, bsS, ← ih (by omega)]
    by_cases h0 : i = 0
    · rw [if_pos h0, if_pos h0]
    · rw [if_neg h0, if_neg h0, mnS_congr (h i (by omega)), mnS_congr (i := bsS wd d t i) (h _ (by omega))]
theorem low_mul {u w k : Nat} (hk : 0 < k) : u * k / Nat.gcd (u * k) (w * k) = u / Nat.gcd u w ∧ w * k / Nat.gcd (u * k) (w * k) = w / Nat.gcd u w := by
  rw [Nat.gcd_mul_right]
  exact ⟨Nat.mul_div_mul_right u (Nat.gcd u w) hk, Nat.mul_div_mul_right w (Nat.gcd u w) hk⟩
/-- in lowest terms, the two ways come to the same -/
theorem stop_low {wd : Nat → Nat} {d t : Nat} (hd : 1 ≤ d) : mnS wd d t (bsS wd d t d) / Nat.gcd (mnS wd d t (bsS wd d t d)) (10 ^ d) = (jS wd t d).2.1 / Nat.gcd (jS wd t d).2.1 (jS wd t d).2.2 ∧ 10 ^ d / Nat.gcd (mnS wd d t (bsS wd d t d)) (10 ^ d) = (jS wd t d).2.2 / Nat.gcd (jS wd t d).2.1 (jS wd t d).2.2 := by
  have hb := bsS_le wd d t d
  rw [jS_bs wd t d (Nat.le_refl _)]
  dsimp only
  have e : (10 : Nat) ^ d = 10 ^ (bsS wd d t d) * 10 ^ (d - bsS wd d t d) := by rw [← Nat.pow_add, show bsS wd d t d + (d - bsS wd d t d) = d from by omega]
  unfold mnS
  rw [e]
  exact low_mul (Nat.pow_pos (by decide))
theorem gcd_step (a b : Nat) : Nat.gcd b (a % b) = Nat.gcd a b := by
  rw [Nat.gcd_comm a b, Nat.gcd_rec b a, Nat.gcd_comm]
theorem pow_lt63 {b e : Nat} (hb : b ≤ 10) (he : e ≤ 12) : b ^ e < 17592186044416 := dn_bd hb he
