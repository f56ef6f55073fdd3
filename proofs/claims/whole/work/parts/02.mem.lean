/-! the memory of the whole system: 96 cells, the numbers in them; which cell refers to which is the same for ever -/
abbrev uM : Type := (Nat → Nat → Int32) × (Nat → Nat → Int64)
abbrev uG : Type := va_G × (ClassId × ClassId × ClassId) × (Nat → Nat)
abbrev uSp : Type := (Nat × List (Nat × Nat)) ⊕ (Nat × Nat)
def uWorld (b : Nat) : uSp := .inl (9, [(0, b + 1), (0, b + 2), (0, b + 3), (0, b + 4), (0, b + 5), (0, b + 6), (0, b + 7), (1, 0), (1, 0)])
def uSights (b : Nat) : uSp := .inl (7, [(0, b + 1), (0, b + 2), (1, 0)])
def uShL : List uSp := [.inl (10, [(0, 1), (0, 11), (0, 21), (0, 23), (0, 34), (0, 37), (0, 41), (0, 43), (0, 46), (0, 49), (0, 51), (0, 61), (1, 0)]), uWorld 1, .inr (0, 12), .inr (0, 12), .inr (0, 12), .inr (0, 12), .inr (0, 8), .inr (0, 8), uSights 8, .inr (0, 8), .inr (0, 8), uWorld 11, .inr (0, 12), .inr (0, 12), .inr (0, 12), .inr (0, 12), .inr (0, 8), .inr (0, 8), uSights 18, .inr (0, 8), .inr (0, 8), .inl (3, [(0, 22), (1, 0)]), .inr (0, 60), .inl (8, [(0, 24), (1, 0), (1, 0), (1, 0), (1, 0), (1, 0), (1, 0), (1, 0)]), uWorld 24, .inr (0, 12), .inr (0, 12), .inr (0, 12), .inr (0, 12), .inr (0, 8), .inr (0, 8), uSights 31, .inr (0, 8), .inr (0, 8), .inl (5, [(0, 35), (0, 36)]), .inr (0, 100), .inr (0, 100), .inl (4, [(0, 38), (0, 39), (0, 40), (1, 0), (1, 0), (1, 0)]), .inr (0, 8), .inr (0, 8), .inr (0, 8), .inl (0, [(0, 42), (1, 0), (1, 0), (2, 0), (2, 0)]), .inr (0, 9), .inl (2, [(0, 44), (0, 45), (1, 0), (1, 0), (1, 0), (1, 0)]), .inr (0, 5), .inr (0, 25), .inl (6, [(0, 47), (0, 48), (1, 0)]), .inr (0, 243), .inr (0, 5), .inl (1, [(0, 50), (2, 0)]), .inr (1, 13), uWorld 51, .inr (0, 12), .inr (0, 12), .inr (0, 12), .inr (0, 12), .inr (0, 8), .inr (0, 8), uSights 58, .inr (0, 8), .inr (0, 8), uWorld 61, .inr (0, 12), .inr (0, 12), .inr (0, 12), .inr (0, 12), .inr (0, 8), .inr (0, 8), uSights 68, .inr (0, 8), .inr (0, 8), .inl (11, [(0, 72), (0, 73), (0, 74), (0, 75), (0, 76), (0, 77), (1, 0), (1, 0), (0, 78), (0, 79), (1, 0), (0, 80), (1, 0), (0, 81), (0, 82), (0, 83), (0, 84), (1, 0), (1, 0), (1, 0), (0, 85), (1, 0), (1, 0), (1, 0), (1, 0), (0, 86), (0, 87), (0, 88), (0, 89), (0, 90), (1, 0), (0, 91), (0, 92), (0, 93), (0, 94), (0, 95), (1, 0), (1, 0)]), .inr (0, 12), .inr (0, 12), .inr (0, 12), .inr (0, 12), .inr (0, 8), .inr (0, 8), .inr (0, 8), .inr (0, 8), .inr (0, 60), .inr (0, 60), .inr (0, 60), .inr (0, 60), .inr (0, 60), .inr (0, 34), .inr (0, 8), .inr (0, 8), .inr (0, 9), .inr (0, 10), .inr (0, 120), .inr (2, 7776), .inr (0, 5), .inr (1, 12), .inr (0, 180), .inr (2, 2)]
def uSh (k : Nat) : uSp := uShL.getD k (.inr (0, 0))
def uV (ad : Nat → Nat) (M : uM) (k j : Nat) (q : Nat × Nat) : Value := if q.1 = 0 then .ref (ad q.2) else if q.1 = 1 then .int (M.1 k j) else .long (M.2 k j)
def uFs (ad : Nat → Nat) (M : uM) (k : Nat) : Nat → List (Nat × Nat) → List Value
  | _, [] => []
  | j, q :: l => uV ad M k j q :: uFs ad M k (j + 1) l
def uE (G : uG) (M : uM) (k : Nat) : va_E := match uSh k with
  | .inl o => .inr (o.1, uFs G.2.2 M k 0 o.2)
  | .inr a => if a.1 = 0 then .inl (G.2.1.1, a.2, .inl (M.1 k)) else if a.1 = 1 then .inl (G.2.1.2.1, a.2, .inr (.inl (M.2 k))) else .inl (G.2.1.2.2, a.2, .inl (M.1 k))
def uWS (G : uG) (M : uM) : va_W := (List.range 96).map (fun k => (G.2.2 k, uE G M k))
def uTy (G : uG) : List (ClassId × FieldType) := [(G.2.1.1, .int), (G.2.1.2.1, .long), (G.2.1.2.2, .boolean)]
def uZ (G : uG) (A : Nat → Prop) (M : uM) (H0 H : Heap) (locs : List Loc) : Prop := va_P G.1 vwCl (uWS G M) H ∧ va_D A (uWS G M) ∧ va_S A H0 H locs
def uB (G : uG) (M : uM) (U : State) : Prop := va_P G.1 vwCl (uWS G M) U.heap ∧ va_K G.1 vwCl (uTy G) U ∧ va_D (fun _ => True) (uWS G M)
def u1 (M : uM) (k j : Nat) (v : Int32) : uM := (fun a i => if a = k ∧ i = j then v else M.1 a i, M.2)
def u2 (M : uM) (k j : Nat) (v : Int64) : uM := (M.1, fun a i => if a = k ∧ i = j then v else M.2 a i)
theorem u1_1 (M : uM) (k j a i : Nat) (v : Int32) : (u1 M k j v).1 a i = if a = k ∧ i = j then v else M.1 a i := rfl
theorem u1_2 (M : uM) (k j : Nat) (v : Int32) : (u1 M k j v).2 = M.2 := rfl
theorem u2_1 (M : uM) (k j : Nat) (v : Int64) : (u2 M k j v).1 = M.1 := rfl
theorem u2_2 (M : uM) (k j a i : Nat) (v : Int64) : (u2 M k j v).2 a i = if a = k ∧ i = j then v else M.2 a i := rfl
theorem u1_ne {M : uM} {k j a : Nat} {v : Int32} (h : a ≠ k) : (u1 M k j v).1 a = M.1 a := by
  funext i
  rw [u1_1, if_neg (fun q => h q.1)]
theorem u2_ne {M : uM} {k j a : Nat} {v : Int64} (h : a ≠ k) : (u2 M k j v).2 a = M.2 a := by
  funext i
  rw [u2_2, if_neg (fun q => h q.1)]
theorem u1_eq (M : uM) (k j : Nat) (v : Int32) : (u1 M k j v).1 k = upd (M.1 k) j v := by
  funext i
  rw [u1_1]
  simp [upd]
theorem u2_eq (M : uM) (k j : Nat) (v : Int64) : (u2 M k j v).2 k = vp_updL (M.2 k) j v := by
  funext i
  rw [u2_2]
  simp [vp_updL]
theorem uSh_lt : ∀ k, k < 96 → ∀ a : Nat × Nat, uSh k = .inr a → a.2 < 8000 := by
  have h : ∀ k, k < 96 → (match uSh k with | .inl _ => true | .inr a => decide (a.2 < 8000)) = true := by decide +kernel
  intro k hk a ha
  have := h k hk
  rw [ha] at this
  simpa using this
theorem uFs_get (ad : Nat → Nat) (M : uM) (k : Nat) : ∀ (fs : List (Nat × Nat)) (j0 j : Nat), (uFs ad M k j0 fs)[j]? = (fs[j]?).map (fun q => uV ad M k (j0 + j) q) := by
  intro fs
  induction fs with
  | nil => intro j0 j; simp [uFs]
  | cons q l ih =>
    intro j0 j
    cases j with
    | zero => simp [uFs]
    | succ j =>
      rw [uFs, List.getElem?_cons_succ, List.getElem?_cons_succ, ih]
      rw [show j0 + 1 + j = j0 + (j + 1) by omega]
theorem uFs_len (ad : Nat → Nat) (M : uM) (k : Nat) : ∀ (fs : List (Nat × Nat)) (j0 : Nat), (uFs ad M k j0 fs).length = fs.length := by
  intro fs
  induction fs with
  | nil => intro j0; rfl
  | cons q l ih => intro j0; rw [uFs, List.length_cons, List.length_cons, ih]
theorem uFs_congr {ad : Nat → Nat} {M M' : uM} {k : Nat} (h1 : M.1 k = M'.1 k) (h2 : M.2 k = M'.2 k) (fs : List (Nat × Nat)) (j0 : Nat) : uFs ad M k j0 fs = uFs ad M' k j0 fs := by
  refine List.ext_getElem? (fun j => ?_)
  rw [uFs_get, uFs_get]
  simp only [uV, h1, h2]
theorem uE_congr {G : uG} {M M' : uM} {k : Nat} (h1 : M.1 k = M'.1 k) (h2 : M.2 k = M'.2 k) : uE G M k = uE G M' k := by
  unfold uE
  simp only [h1, h2, uFs_congr h1 h2]
theorem uWS_get (G : uG) (M : uM) {k : Nat} (hk : k < 96) : (uWS G M)[k]? = some (G.2.2 k, uE G M k) := by
  simp [uWS, hk]
theorem uWS_lt {G : uG} {M : uM} {k : Nat} {q : Nat × va_E} (h : (uWS G M)[k]? = some q) : k < 96 ∧ q = (G.2.2 k, uE G M k) := by
  have hl := (List.getElem?_eq_some_iff.mp h).1
  have hk : k < 96 := by simpa [uWS] using hl
  rw [uWS_get G M hk] at h
  exact ⟨hk, (Option.some.inj h).symm⟩
theorem uWS_set {G : uG} {M M' : uM} {k : Nat} {e : va_E} (he : e = uE G M' k) (h : ∀ a, a ≠ k → M.1 a = M'.1 a ∧ M.2 a = M'.2 a) : (uWS G M).set k (G.2.2 k, e) = uWS G M' := by
  refine List.ext_getElem? (fun j => ?_)
  rw [List.getElem?_set]
  by_cases hj : j < 96
  · rw [uWS_get G M' hj, uWS_get G M hj]
    by_cases hkj : k = j
    · subst hkj
      rw [if_pos rfl, he]
      have : k < (uWS G M).length := by simpa [uWS] using hj
      rw [if_pos this]
    · rw [if_neg hkj]
      obtain ⟨a, b⟩ := h j (Ne.symm hkj)
      rw [uE_congr a b]
  · have h1 : (uWS G M)[j]? = none := by simp [uWS]; omega
    have h2 : (uWS G M')[j]? = none := by simp [uWS]; omega
    rw [h1, h2]
    by_cases hkj : k = j
    · subst hkj
      rw [if_pos rfl]
      have : ¬ k < (uWS G M).length := by simpa [uWS] using hj
      rw [if_neg this]
    · rw [if_neg hkj]
theorem uD_move {G : uG} {A : Nat → Prop} {M M' : uM} (h : va_D A (uWS G M)) : va_D A (uWS G M') := by
  refine ⟨fun i j x y hi hj hxy => ?_, fun k q hk => ?_⟩
  · obtain ⟨a1, a2⟩ := uWS_lt hi
    obtain ⟨b1, b2⟩ := uWS_lt hj
    subst a2
    subst b2
    exact h.1 i j _ _ (uWS_get G M a1) (uWS_get G M b1) hxy
  · obtain ⟨a1, a2⟩ := uWS_lt hk
    subst a2
    exact h.2 k (G.2.2 k, uE G M k) (uWS_get G M a1)
theorem uE_obj {G : uG} {M : uM} {k : Nat} {o : Nat × List (Nat × Nat)} (h : uSh k = .inl o) : uE G M k = .inr (o.1, uFs G.2.2 M k 0 o.2) := by
  unfold uE
  rw [h]
theorem uE_int {G : uG} {M : uM} {k n : Nat} (h : uSh k = .inr (0, n)) : uE G M k = .inl (G.2.1.1, n, .inl (M.1 k)) := by
  unfold uE
  rw [h]
  rfl
theorem uE_long {G : uG} {M : uM} {k n : Nat} (h : uSh k = .inr (1, n)) : uE G M k = .inl (G.2.1.2.1, n, .inr (.inl (M.2 k))) := by
  unfold uE
  rw [h]
  rfl
theorem uE_bool {G : uG} {M : uM} {k n : Nat} (h : uSh k = .inr (2, n)) : uE G M k = .inl (G.2.1.2.2, n, .inl (M.1 k)) := by
  unfold uE
  rw [h]
  rfl
section UROWS
variable {p : Program} {l : Launch} {e : Env} {R : Room} {s : State} {m : MethodId} {args : Array Value} {below : List Frame} {meth : Method} {c : Code} {H : Heap} {locs : List Loc} {cells slots : Nat} {Q : State → Prop}
variable {cc : ByteArray} {pc nL : Nat} {ls : Array Slot} {rest : List Value} {G : uG} {A : Nat → Prop} {M : uM} {Ts : List Cond} {own : String}
theorem ug (S : CallFix p m c cc nL s args Ts own) (hK : va_K G.1 vwCl (uTy G) s) (Z : uZ G A M s.heap H locs) {k j ci N index : Nat} {fs : List (Nat × Nat)} {q : Nat × Nat} {C : String} {T : u_T} (hk : k < 96) (hsh : uSh k = .inl (ci, fs)) (hj : fs[j]? = some q) (hc : vwCl[ci]? = some (C, T, N)) (hjN : j < N) (hin : ∀ w ∈ u_ws C T N, w ∈ Ts) (hlink : Cond.fieldLink own index (T j).1 (T j).2.1 (T j).2.2.1 ∈ Ts) (hdg : decode cc pc = .ok (.getfield index, 3))
    (kk : W p l e R s m args below meth c H locs cells slots Q (F0 m (pc + 3) ls (uV G.2.2 M k j q :: rest))) : W p l e R s m args below meth c H locs cells slots Q (F0 m pc ls (.ref (G.2.2 k) :: rest)) := by
  refine va_get S.1 S.2.1 S.2.2.2.2 hin S.2.2.2.1 hK Z.1 k (fs := uFs G.2.2 M k 0 fs) ?_ hc j hjN (S.2.2.2.2 _ hlink) (fun _ h => h) (v := uV G.2.2 M k j q) ?_ hdg kk
  · rw [uWS_get G M hk, uE_obj hsh]
  · rw [uFs_get, hj]
    simp
theorem ug_r (S : CallFix p m c cc nL s args Ts own) (hK : va_K G.1 vwCl (uTy G) s) (Z : uZ G A M s.heap H locs) {k j ci N index : Nat} {fs : List (Nat × Nat)} (r : Nat) {C : String} {T : u_T} (hk : k < 96) (hsh : uSh k = .inl (ci, fs)) (hj : fs[j]? = some (0, r)) (hc : vwCl[ci]? = some (C, T, N)) (hjN : j < N) (hin : ∀ w ∈ u_ws C T N, w ∈ Ts) (hlink : Cond.fieldLink own index (T j).1 (T j).2.1 (T j).2.2.1 ∈ Ts) (hdg : decode cc pc = .ok (.getfield index, 3))
    (kk : W p l e R s m args below meth c H locs cells slots Q (F0 m (pc + 3) ls (.ref (G.2.2 r) :: rest))) : W p l e R s m args below meth c H locs cells slots Q (F0 m pc ls (.ref (G.2.2 k) :: rest)) := ug S hK Z hk hsh hj hc hjN hin hlink hdg kk
theorem ug_i (S : CallFix p m c cc nL s args Ts own) (hK : va_K G.1 vwCl (uTy G) s) (Z : uZ G A M s.heap H locs) {k j ci N index : Nat} {fs : List (Nat × Nat)} {C : String} {T : u_T} (hk : k < 96) (hsh : uSh k = .inl (ci, fs)) (hj : fs[j]? = some (1, 0)) (hc : vwCl[ci]? = some (C, T, N)) (hjN : j < N) (hin : ∀ w ∈ u_ws C T N, w ∈ Ts) (hlink : Cond.fieldLink own index (T j).1 (T j).2.1 (T j).2.2.1 ∈ Ts) (hdg : decode cc pc = .ok (.getfield index, 3))
    (kk : W p l e R s m args below meth c H locs cells slots Q (F0 m (pc + 3) ls (.int (M.1 k j) :: rest))) : W p l e R s m args below meth c H locs cells slots Q (F0 m pc ls (.ref (G.2.2 k) :: rest)) := ug S hK Z hk hsh hj hc hjN hin hlink hdg kk
theorem ug_l (S : CallFix p m c cc nL s args Ts own) (hK : va_K G.1 vwCl (uTy G) s) (Z : uZ G A M s.heap H locs) {k j ci N index : Nat} {fs : List (Nat × Nat)} {C : String} {T : u_T} (hk : k < 96) (hsh : uSh k = .inl (ci, fs)) (hj : fs[j]? = some (2, 0)) (hc : vwCl[ci]? = some (C, T, N)) (hjN : j < N) (hin : ∀ w ∈ u_ws C T N, w ∈ Ts) (hlink : Cond.fieldLink own index (T j).1 (T j).2.1 (T j).2.2.1 ∈ Ts) (hdg : decode cc pc = .ok (.getfield index, 3))
    (kk : W p l e R s m args below meth c H locs cells slots Q (F0 m (pc + 3) ls (.long (M.2 k j) :: rest))) : W p l e R s m args below meth c H locs cells slots Q (F0 m pc ls (.ref (G.2.2 k) :: rest)) := ug S hK Z hk hsh hj hc hjN hin hlink hdg kk
theorem up_i (S : CallFix p m c cc nL s args Ts own) (hK : va_K G.1 vwCl (uTy G) s) (Z : uZ G A M s.heap H locs) {k j ci N index : Nat} {fs : List (Nat × Nat)} {C : String} {T : u_T} {v : Int32} (hk : k < 96) (hsh : uSh k = .inl (ci, fs)) (hj : fs[j]? = some (1, 0)) (hc : vwCl[ci]? = some (C, T, N)) (hjN : j < N) (hin : ∀ w ∈ u_ws C T N, w ∈ Ts) {ty0 : Nat → FieldType} (hty : ∀ k, k < N → parseFieldDescriptor (T k).2.2.1 = some (ty0 k)) (hnm : ∀ a, a < N → ∀ b, b < N → a ≠ b → (T a).2.1 ≠ (T b).2.1) (hlink : Cond.fieldLink own index (T j).1 (T j).2.1 (T j).2.2.1 ∈ Ts) (hfin : (T j).2.2.2 = false) (hn : narrow (ty0 j) (.int v) = .int v) (hfit : fits (ty0 j) (.int v) = true) (hdg : decode cc pc = .ok (.putfield index, 3))
    (kk : ∀ (H1 : Heap) (locs1 : List Loc), uZ G A (u1 M k j v) s.heap H1 locs1 → W p l e R s m args below meth c H1 locs1 cells slots Q (F0 m (pc + 3) ls rest)) : W p l e R s m args below meth c H locs cells slots Q (F0 m pc ls (.int v :: .ref (G.2.2 k) :: rest)) := by
  have hjl : j < fs.length := (List.getElem?_eq_some_iff.mp hj).1
  refine va_put S.1 S.2.1 S.2.2.2.2 hin ty0 hty hnm S.2.2.2.1 hK Z.1 Z.2.1 Z.2.2 k (fs := uFs G.2.2 M k 0 fs) ?_ hc j hjN (S.2.2.2.2 _ hlink) (fun _ h => h) hfin (hty j hjN) hn hfit (by rw [uFs_len]; exact hjl) hdg (fun H1 locs1 h1 h2 h3 => kk H1 locs1 ?_)
  · rw [uWS_get G M hk, uE_obj hsh]
  · have he : (uWS G M).set k (G.2.2 k, .inr (ci, (uFs G.2.2 M k 0 fs).set j (.int v))) = uWS G (u1 M k j v) := by
      refine uWS_set ?_ (fun a ha => ⟨(u1_ne ha).symm, rfl⟩)
      rw [uE_obj hsh]
      refine congrArg (fun x => Sum.inr (ci, x)) ?_
      refine List.ext_getElem? (fun i => ?_)
      rw [List.getElem?_set, uFs_len, uFs_get, uFs_get]
      by_cases hij : j = i
      · subst hij
        rw [if_pos rfl, if_pos hjl, hj]
        simp [uV, u1_1]
      · rw [if_neg hij]
        have h9 : (u1 M k j v).1 k (0 + i) = M.1 k (0 + i) := by rw [u1_1, if_neg (fun q => hij (by omega))]
        refine congrArg (fun g => Option.map g fs[i]?) (funext fun q => ?_)
        unfold uV
        rw [h9]
        rfl
    rw [he] at h1 h2
    exact ⟨h1, h2, h3⟩
theorem up_l (S : CallFix p m c cc nL s args Ts own) (hK : va_K G.1 vwCl (uTy G) s) (Z : uZ G A M s.heap H locs) {k j ci N index : Nat} {fs : List (Nat × Nat)} {C : String} {T : u_T} {v : Int64} (hk : k < 96) (hsh : uSh k = .inl (ci, fs)) (hj : fs[j]? = some (2, 0)) (hc : vwCl[ci]? = some (C, T, N)) (hjN : j < N) (hin : ∀ w ∈ u_ws C T N, w ∈ Ts) {ty0 : Nat → FieldType} (hty : ∀ k, k < N → parseFieldDescriptor (T k).2.2.1 = some (ty0 k)) (hnm : ∀ a, a < N → ∀ b, b < N → a ≠ b → (T a).2.1 ≠ (T b).2.1) (hlink : Cond.fieldLink own index (T j).1 (T j).2.1 (T j).2.2.1 ∈ Ts) (hfin : (T j).2.2.2 = false) (hn : narrow (ty0 j) (.long v) = .long v) (hfit : fits (ty0 j) (.long v) = true) (hdg : decode cc pc = .ok (.putfield index, 3))
    (kk : ∀ (H1 : Heap) (locs1 : List Loc), uZ G A (u2 M k j v) s.heap H1 locs1 → W p l e R s m args below meth c H1 locs1 cells slots Q (F0 m (pc + 3) ls rest)) : W p l e R s m args below meth c H locs cells slots Q (F0 m pc ls (.long v :: .ref (G.2.2 k) :: rest)) := by
  have hjl : j < fs.length := (List.getElem?_eq_some_iff.mp hj).1
  refine va_put S.1 S.2.1 S.2.2.2.2 hin ty0 hty hnm S.2.2.2.1 hK Z.1 Z.2.1 Z.2.2 k (fs := uFs G.2.2 M k 0 fs) ?_ hc j hjN (S.2.2.2.2 _ hlink) (fun _ h => h) hfin (hty j hjN) hn hfit (by rw [uFs_len]; exact hjl) hdg (fun H1 locs1 h1 h2 h3 => kk H1 locs1 ?_)
  · rw [uWS_get G M hk, uE_obj hsh]
  · have he : (uWS G M).set k (G.2.2 k, .inr (ci, (uFs G.2.2 M k 0 fs).set j (.long v))) = uWS G (u2 M k j v) := by
      refine uWS_set ?_ (fun a ha => ⟨rfl, (u2_ne ha).symm⟩)
      rw [uE_obj hsh]
      refine congrArg (fun x => Sum.inr (ci, x)) ?_
      refine List.ext_getElem? (fun i => ?_)
      rw [List.getElem?_set, uFs_len, uFs_get, uFs_get]
      by_cases hij : j = i
      · subst hij
        rw [if_pos rfl, if_pos hjl, hj]
        simp [uV, u2_2]
      · rw [if_neg hij]
        have h9 : (u2 M k j v).2 k (0 + i) = M.2 k (0 + i) := by rw [u2_2, if_neg (fun q => hij (by omega))]
        refine congrArg (fun g => Option.map g fs[i]?) (funext fun q => ?_)
        unfold uV
        rw [h9]
        rfl
    rw [he] at h1 h2
    exact ⟨h1, h2, h3⟩
theorem u_in {k n j t : Nat} {i : Int32} (hk : k < 96) (hsh : uSh k = .inr (t, n)) (hi : i = nI j) (hj : j < n) : vp_in i n ∧ i.toNatClampNeg = j := by
  have hn := uSh_lt k hk _ hsh
  dsimp only at hn
  subst hi
  exact ⟨vp_in_nI hj (by omega), nI_clamp (by omega)⟩
theorem ua_len (S : CallFix p m c cc nL s args Ts own) (hK : va_K G.1 vwCl (uTy G) s) (Z : uZ G A M s.heap H locs) {k n t : Nat} (hk : k < 96) (hsh : uSh k = .inr (t, n)) (hdg : decode cc pc = .ok (.arraylength, 1))
    (kk : W p l e R s m args below meth c H locs cells slots Q (F0 m (pc + 1) ls (.int (nI n) :: rest))) : W p l e R s m args below meth c H locs cells slots Q (F0 m pc ls (.ref (G.2.2 k) :: rest)) := by
  match t, hsh with
  | 0, hsh => exact va_alen (x := (n, .inl (M.1 k))) S.1 S.2.1 hK Z.1 k 0 (by rw [uWS_get G M hk, uE_int hsh]) rfl rfl hdg kk
  | 1, hsh => exact va_alen (x := (n, .inr (.inl (M.2 k)))) S.1 S.2.1 hK Z.1 k 1 (by rw [uWS_get G M hk, uE_long hsh]) rfl rfl hdg kk
  | t + 2, hsh =>
    have he : uE G M k = .inl (G.2.1.2.2, n, .inl (M.1 k)) := by
      unfold uE
      rw [hsh]
      simp
    exact va_alen (x := (n, .inl (M.1 k))) S.1 S.2.1 hK Z.1 k 2 (by rw [uWS_get G M hk, he]) rfl rfl hdg kk
theorem ua_ild (S : CallFix p m c cc nL s args Ts own) (hK : va_K G.1 vwCl (uTy G) s) (Z : uZ G A M s.heap H locs) {k n : Nat} {i : Int32} (j : Nat) (hk : k < 96) (hsh : uSh k = .inr (0, n)) (hi : i = nI j) (hj : j < n) (hdg : decode cc pc = .ok (.iaload, 1))
    (kk : W p l e R s m args below meth c H locs cells slots Q (F0 m (pc + 1) ls (.int (M.1 k j) :: rest))) : W p l e R s m args below meth c H locs cells slots Q (F0 m pc ls (.int i :: .ref (G.2.2 k) :: rest)) := by
  obtain ⟨h1, h2⟩ := u_in hk hsh hi hj
  refine va_iald S.1 S.2.1 hK Z.1 k 0 (f := M.1 k) (by rw [uWS_get G M hk, uE_int hsh]) rfl h1 hdg ?_
  rw [h2]
  exact kk
theorem ua_lld (S : CallFix p m c cc nL s args Ts own) (hK : va_K G.1 vwCl (uTy G) s) (Z : uZ G A M s.heap H locs) {k n : Nat} {i : Int32} (j : Nat) (hk : k < 96) (hsh : uSh k = .inr (1, n)) (hi : i = nI j) (hj : j < n) (hdg : decode cc pc = .ok (.laload, 1))
    (kk : W p l e R s m args below meth c H locs cells slots Q (F0 m (pc + 1) ls (.long (M.2 k j) :: rest))) : W p l e R s m args below meth c H locs cells slots Q (F0 m pc ls (.int i :: .ref (G.2.2 k) :: rest)) := by
  obtain ⟨h1, h2⟩ := u_in hk hsh hi hj
  refine va_lald S.1 S.2.1 hK Z.1 k 1 (f := M.2 k) (by rw [uWS_get G M hk, uE_long hsh]) rfl h1 hdg ?_
  rw [h2]
  exact kk
theorem ua_zld (S : CallFix p m c cc nL s args Ts own) (hK : va_K G.1 vwCl (uTy G) s) (Z : uZ G A M s.heap H locs) {k n : Nat} {i : Int32} (j : Nat) (hk : k < 96) (hsh : uSh k = .inr (2, n)) (hi : i = nI j) (hj : j < n) (hdg : decode cc pc = .ok (.baload, 1))
    (kk : W p l e R s m args below meth c H locs cells slots Q (F0 m (pc + 1) ls (.int (M.1 k j) :: rest))) : W p l e R s m args below meth c H locs cells slots Q (F0 m pc ls (.int i :: .ref (G.2.2 k) :: rest)) := by
  obtain ⟨h1, h2⟩ := u_in hk hsh hi hj
  refine va_zald S.1 S.2.1 hK Z.1 k 2 (f := M.1 k) (by rw [uWS_get G M hk, uE_bool hsh]) rfl h1 hdg ?_
  rw [h2]
  exact kk
theorem ua_ist (S : CallFix p m c cc nL s args Ts own) (hK : va_K G.1 vwCl (uTy G) s) (Z : uZ G A M s.heap H locs) {k n : Nat} {i x : Int32} (j : Nat) (hk : k < 96) (hsh : uSh k = .inr (0, n)) (hi : i = nI j) (hj : j < n) (hdg : decode cc pc = .ok (.iastore, 1))
    (kk : ∀ (H1 : Heap) (locs1 : List Loc), uZ G A (u1 M k j x) s.heap H1 locs1 → W p l e R s m args below meth c H1 locs1 cells slots Q (F0 m (pc + 1) ls rest)) : W p l e R s m args below meth c H locs cells slots Q (F0 m pc ls (.int x :: .int i :: .ref (G.2.2 k) :: rest)) := by
  obtain ⟨h1, h2⟩ := u_in hk hsh hi hj
  refine va_iast S.1 S.2.1 hK Z.1 Z.2.1 Z.2.2 k 0 (f := M.1 k) (by rw [uWS_get G M hk, uE_int hsh]) rfl h1 hdg (fun H1 locs1 a1 a2 a3 => kk H1 locs1 ?_)
  rw [h2, uWS_set (M := M) (M' := u1 M k j x) (by rw [uE_int hsh, u1_eq]) (fun a ha => ⟨(u1_ne ha).symm, rfl⟩)] at a1 a2
  exact ⟨a1, a2, a3⟩
theorem ua_zst (S : CallFix p m c cc nL s args Ts own) (hK : va_K G.1 vwCl (uTy G) s) (Z : uZ G A M s.heap H locs) {k n : Nat} {i x : Int32} (j : Nat) (hk : k < 96) (hsh : uSh k = .inr (2, n)) (hi : i = nI j) (hj : j < n) (hx : vp_nar .boolean x = x) (hdg : decode cc pc = .ok (.bastore, 1))
    (kk : ∀ (H1 : Heap) (locs1 : List Loc), uZ G A (u1 M k j x) s.heap H1 locs1 → W p l e R s m args below meth c H1 locs1 cells slots Q (F0 m (pc + 1) ls rest)) : W p l e R s m args below meth c H locs cells slots Q (F0 m pc ls (.int x :: .int i :: .ref (G.2.2 k) :: rest)) := by
  obtain ⟨h1, h2⟩ := u_in hk hsh hi hj
  refine va_zast S.1 S.2.1 hK Z.1 Z.2.1 Z.2.2 k 2 (f := M.1 k) (by rw [uWS_get G M hk, uE_bool hsh]) rfl h1 hdg (fun H1 locs1 a1 a2 a3 => kk H1 locs1 ?_)
  rw [h2, hx, uWS_set (M := M) (M' := u1 M k j x) (by rw [uE_bool hsh, u1_eq]) (fun a ha => ⟨(u1_ne ha).symm, rfl⟩)] at a1 a2
  exact ⟨a1, a2, a3⟩
theorem ua_lst (S : CallFix p m c cc nL s args Ts own) (hK : va_K G.1 vwCl (uTy G) s) (Z : uZ G A M s.heap H locs) {k n : Nat} {i : Int32} {x : Int64} (j : Nat) (hk : k < 96) (hsh : uSh k = .inr (1, n)) (hi : i = nI j) (hj : j < n) (hdg : decode cc pc = .ok (.lastore, 1))
    (kk : ∀ (H1 : Heap) (locs1 : List Loc), uZ G A (u2 M k j x) s.heap H1 locs1 → W p l e R s m args below meth c H1 locs1 cells slots Q (F0 m (pc + 1) ls rest)) : W p l e R s m args below meth c H locs cells slots Q (F0 m pc ls (.long x :: .int i :: .ref (G.2.2 k) :: rest)) := by
  obtain ⟨h1, h2⟩ := u_in hk hsh hi hj
  refine va_last S.1 S.2.1 hK Z.1 Z.2.1 Z.2.2 k 1 (f := M.2 k) (by rw [uWS_get G M hk, uE_long hsh]) rfl h1 hdg (fun H1 locs1 a1 a2 a3 => kk H1 locs1 ?_)
  rw [h2, uWS_set (M := M) (M' := u2 M k j x) (by rw [uE_long hsh, u2_eq]) (fun a ha => ⟨rfl, (u2_ne ha).symm⟩)] at a1 a2
  exact ⟨a1, a2, a3⟩
end UROWS
/-! contracts over the whole memory -/
abbrev uRm (fr lo : Nat) : Room := { frames := fr, cells := 0, slots := 0, locals := lo }
abbrev uPre (G : uG) (av : List Value) (M : uM) (sz : Nat) : Array Value → State → Prop := va_Pc av (fun U => U.heap.size = sz ∧ uB G M U)
def CTi (l : Launch) (G : uG) (y : MethodName) (ws : List Cond) (fr lo : Nat) (av : List Value) (M : uM) (post : Int32 → uM → Prop) : Prop := ∀ sz : Nat, Met l y ws (uRm fr lo) (uPre G av M sz) (va_Qi post (fun M' t => uB G M' t) (va_A (uWS G M) sz)) 0 0 (va_A (uWS G M) sz)
def CTl (l : Launch) (G : uG) (y : MethodName) (ws : List Cond) (fr lo : Nat) (av : List Value) (M : uM) (post : Int64 → uM → Prop) : Prop := ∀ sz : Nat, Met l y ws (uRm fr lo) (uPre G av M sz) (va_Ql post (fun M' t => uB G M' t) (va_A (uWS G M) sz)) 0 0 (va_A (uWS G M) sz)
def CTv (l : Launch) (G : uG) (y : MethodName) (ws : List Cond) (fr lo : Nat) (av : List Value) (M : uM) (post : uM → Prop) : Prop := ∀ sz : Nat, Met l y ws (uRm fr lo) (uPre G av M sz) (va_Qv post (fun M' t => uB G M' t) (va_A (uWS G M) sz)) 0 0 (va_A (uWS G M) sz)
def CTr (l : Launch) (G : uG) (y : MethodName) (ws : List Cond) (fr lo : Nat) (av : List Value) (M : uM) (post : Nat → uM → Prop) : Prop := ∀ sz : Nat, Met l y ws (uRm fr lo) (uPre G av M sz) (va_Qr (fun u : Nat × uM => post u.1 u.2) (fun u a t => a = G.2.2 u.1 ∧ uB G u.2 t) (va_A (uWS G M) sz)) 0 0 (va_A (uWS G M) sz)
theorem ustart {l : Launch} {G : uG} {y : MethodName} {ws ws' : List Cond} {cc : ByteArray} {maxL : Nat} {ret : Option FieldType} {fr lo : Nat} {av : List Value} {M : uM} {Qc : (Nat → Prop) → Array Value → State → Outcome → State → Prop} {own : String} (ho : y.cls = own) (hy : plainName y.cls = true) (hw : ws = Cond.code y cc maxL ret :: ws') (hlen : (lg_sl av).length ≤ maxL)
    (body : ∀ (p : Program) (e : Env) (s : State) (m : MethodId) (args : Array Value) (below : List Frame) (meth : Method) (c : Code) (A : Nat → Prop) (ls : Array Slot), CallFix p m c cc maxL s args ws own → va_K G.1 vwCl (uTy G) s → (∀ q, s.heap.size ≤ q → A q) → uZ G A M s.heap s.heap [] → meth.sig.returnType = ret → meth.locks = false → lv_has ls maxL (lv_args 0 av) → W p l e (uRm fr lo) s m args below meth c s.heap [] 0 0 (MQ below (Qc A) args s 0 0 A) (F0 m 0 ls [])) (sz : Nat) :
    Met l y ws (uRm fr lo) (uPre G av M sz) (Qc (va_A (uWS G M) sz)) 0 0 (va_A (uWS G M) sz) := by
  refine Met.ofW (cc := cc) (maxL := maxL) (ret := ret) hy hw ?_
  intro p e s m args below meth c s₁ B hml hv
  obtain ⟨rfl, hsz, hP, hK, hD0⟩ := hv
  have hts := atoms_spec (ws := ws) B.pre
  have hown : s.vm.findClass y.cls = some m.cls := findClass_of_methodNamed B.named
  have hlocks := B.notSynchronized
  subst hsz
  have hD := hD0.self (sz := s.heap.size)
  have hl := lv_entry av (n := maxL) hlen
  rw [lg_entry_eq]
  exact body p e s m _ below meth c _ _ ⟨B.exec, B.bytes, hml, by rw [← ho]; exact hown, hts⟩ hK (fun q h => Or.inr h) ⟨hP, hD, va_S.rf⟩ B.returns hlocks hl
section UENDS
variable {p : Program} {l : Launch} {e : Env} {R : Room} {s : State} {m : MethodId} {args : Array Value} {below : List Frame} {meth : Method} {c : Code} {H : Heap} {locs : List Loc} {cells slots : Nat} {Q : State → Prop}
variable {cc : ByteArray} {pc nL : Nat} {ls : Array Slot} {rest st0 : List Value} {G : uG} {A : Nat → Prop} {M M0 : uM} {Ts : List Cond} {own : String}
theorem uret_i {post : Int32 → uM → Prop} {v : Int32} (S : CallFix p m c cc nL s args Ts own) (hK : va_K G.1 vwCl (uTy G) s) (Z : uZ G A M s.heap H locs) (hr : meth.sig.returnType = some .int) (hlocks : meth.locks = false) (hdg : decode cc pc = .ok (.ireturn, 1)) (hp : post v M) : W p l e R s m args below meth c H locs 0 0 (MQ below (va_Qi post (fun M' t => uB G M' t) A) args s 0 0 A) (F0 m pc ls [.int v]) :=
  W.iret (v := v) S.1 S.2.1 hr (fun t ht hW => ⟨⟨v, M, rfl, hp, by rw [ht]; exact Z.1, va_K.moved hW.alike hK, Z.2.1.weaken (fun _ _ _ _ => trivial)⟩, Z.2.2.F ht⟩) Z.2.2.2.2 hdg hlocks
theorem uret_z {post : Int32 → uM → Prop} {v : Int32} (S : CallFix p m c cc nL s args Ts own) (hK : va_K G.1 vwCl (uTy G) s) (Z : uZ G A M s.heap H locs) (hr : meth.sig.returnType = some .boolean) (hlocks : meth.locks = false) (hn : narrow .boolean (.int v) = .int v) (hdg : decode cc pc = .ok (.ireturn, 1)) (hp : post v M) : W p l e R s m args below meth c H locs 0 0 (MQ below (va_Qi post (fun M' t => uB G M' t) A) args s 0 0 A) (F0 m pc ls [.int v]) :=
  W.zret (v := v) S.1 S.2.1 hr hn (fun t ht hW => ⟨⟨v, M, rfl, hp, by rw [ht]; exact Z.1, va_K.moved hW.alike hK, Z.2.1.weaken (fun _ _ _ _ => trivial)⟩, Z.2.2.F ht⟩) Z.2.2.2.2 hdg hlocks
theorem uret_l {post : Int64 → uM → Prop} {v : Int64} (S : CallFix p m c cc nL s args Ts own) (hK : va_K G.1 vwCl (uTy G) s) (Z : uZ G A M s.heap H locs) (hr : meth.sig.returnType = some .long) (hlocks : meth.locks = false) (hdg : decode cc pc = .ok (.lreturn, 1)) (hp : post v M) : W p l e R s m args below meth c H locs 0 0 (MQ below (va_Ql post (fun M' t => uB G M' t) A) args s 0 0 A) (F0 m pc ls [.long v]) :=
  W.lret (v := v) S.1 S.2.1 hr (fun t ht hW => ⟨⟨v, M, rfl, hp, by rw [ht]; exact Z.1, va_K.moved hW.alike hK, Z.2.1.weaken (fun _ _ _ _ => trivial)⟩, Z.2.2.F ht⟩) Z.2.2.2.2 hdg hlocks
theorem uret_v {post : uM → Prop} (S : CallFix p m c cc nL s args Ts own) (hK : va_K G.1 vwCl (uTy G) s) (Z : uZ G A M s.heap H locs) (hr : meth.sig.returnType = none) (hlocks : meth.locks = false) (hdg : decode cc pc = .ok (.return_, 1)) (hp : post M) : W p l e R s m args below meth c H locs 0 0 (MQ below (va_Qv post (fun M' t => uB G M' t) A) args s 0 0 A) (F0 m pc ls []) :=
  W.vret S.1 S.2.1 hr (fun t ht hW => ⟨⟨M, rfl, hp, by rw [ht]; exact Z.1, va_K.moved hW.alike hK, Z.2.1.weaken (fun _ _ _ _ => trivial)⟩, Z.2.2.F ht⟩) Z.2.2.2.2 hdg hlocks
theorem uret_r {post : Nat → uM → Prop} {k : Nat} {cn : String} (S : CallFix p m c cc nL s args Ts own) (hK : va_K G.1 vwCl (uTy G) s) (Z : uZ G A M s.heap H locs) (hr : meth.sig.returnType = some (.object cn)) (hlocks : meth.locks = false) (hdg : decode cc pc = .ok (.areturn, 1)) (hp : post k M) : W p l e R s m args below meth c H locs 0 0 (MQ below (va_Qr (fun u : Nat × uM => post u.1 u.2) (fun u a t => a = G.2.2 u.1 ∧ uB G u.2 t) A) args s 0 0 A) (F0 m pc ls [.ref (G.2.2 k)]) :=
  W.aret (v := .ref (G.2.2 k)) S.1 S.2.1 hr (Or.inl ⟨_, rfl⟩) (Or.inr ⟨_, rfl⟩) (fun t ht hW => ⟨⟨(k, M), G.2.2 k, rfl, hp, rfl, by rw [ht]; exact Z.1, va_K.moved hW.alike hK, Z.2.1.weaken (fun _ _ _ _ => trivial)⟩, Z.2.2.F ht⟩) Z.2.2.2.2 hdg hlocks
theorem u_blind (av : List Value) (sz : Nat) : FrameBlind (uPre G av M sz) := fun a U g mk q => by
  obtain ⟨q0, q1, qP, qK, qD⟩ := q
  exact ⟨q0, q1, qP, va_K.moved (u := U) (U := U.calling g mk a) (Vm.Alike.refl U.vm) qK, qD⟩
theorem u_pre (hK : va_K G.1 vwCl (uTy G) s) (Z : uZ G A M s.heap H locs) (av : List Value) : ∀ U : State, U.heap = H → s.WarmedH U.vm → uPre G av M H.size av.toArray U := fun U hU hW => ⟨rfl, by rw [hU], by rw [hU]; exact Z.1, va_K.moved hW.alike hK, Z.2.1.weaken (fun _ _ _ _ => trivial)⟩
theorem u_free (hA : ∀ q, s.heap.size ≤ q → A q) (Z : uZ G A M s.heap H locs) : ∀ q, va_A (uWS G M) H.size q → A q := by
  intro q h
  rcases h with ⟨k, e, h⟩ | h
  · exact Z.2.1.2 k _ h
  · exact hA q (Nat.le_trans Z.2.2.1 h)
theorem u_recv (hK : va_K G.1 vwCl (uTy G) s) (Z : uZ G A M s.heap H locs) {k ci N : Nat} {fs : List (Nat × Nat)} {C : String} {T : u_T} (hk : k < 96) (hsh : uSh k = .inl (ci, fs)) (hc : vwCl[ci]? = some (C, T, N)) : ∃ cell : Cell, H[G.2.2 k]? = some cell ∧ cell.vm.isStatics = false ∧ s.vm.findClass C = some cell.cls :=
  va_recv hK Z.1 hc (q0 := k) (fs := uFs G.2.2 M k 0 fs) (by rw [uWS_get G M hk, uE_obj hsh])
theorem u_next {M' : uM} {H1 : Heap} {locs1 : List Loc} {t : State} (Z : uZ G A M s.heap H locs) (ht : t.heap = H1) (hB : uB G M' t) (hS : va_S A s.heap H1 locs1) : uZ G A M' s.heap H1 locs1 := ⟨by rw [← ht]; exact hB.1, uD_move Z.2.1, hS⟩
variable {y : MethodName} {bytes : ByteArray} {maxL n index fr lo : Nat} {ret : Option FieldType} {ws : List Cond} {C : String} {As : List Value} {k ci N : Nat} {fs : List (Nat × Nat)} {T : u_T}
theorem uc_Vi {post : Int32 → uM → Prop} (S : CallFix p m c cc nL s args Ts own) (hK : va_K G.1 vwCl (uTy G) s) (hA : ∀ q, s.heap.size ≤ q → A q) (Z : uZ G A M s.heap H locs) (hM : CTi l G y ws fr lo (.ref (G.2.2 k) :: As) M post) (cw : CallW R s args own C index y bytes maxL ret ws (uRm fr lo) 0 0 n) (hk : k < 96) (hsh : uSh k = .inl (ci, fs)) (hc : vwCl[ci]? = some (C, T, N)) (hn : As.length = n) (hsz : ls.size = nL) (hst : st0 = As.reverse ++ .ref (G.2.2 k) :: rest) (hW : (rest.map fun v => v.category).sum ≤ 8) (hdg : decode cc pc = .ok (.invokevirtual index, 3)) (hf : cells ≤ R.cells ∧ slots ≤ R.slots)
    (kk : ∀ (r : Int32) (M' : uM) (H1 : Heap) (locs1 : List Loc), post r M' → uZ G A M' s.heap H1 locs1 → W p l e R s m args below meth c H1 locs1 cells slots Q (F0 m (pc + 3) ls (.int r :: rest))) : W p l e R s m args below meth c H locs cells slots Q (F0 m pc ls st0) :=
  va_calli (va_runV S (hM H.size) cw ⟨u_blind _ _, u_recv hK Z hk hsh hc, u_pre hK Z _⟩ rfl hn hsz hst (lv_room hW) hdg hf) Z.2.2 (fun q _ h => u_free hA Z q h) (u_free hA Z) (fun r M' t H1 locs1 ht _ hp hB _ _ hS => kk r M' H1 locs1 hp (u_next Z ht hB hS))
theorem uc_Vl {post : Int64 → uM → Prop} (S : CallFix p m c cc nL s args Ts own) (hK : va_K G.1 vwCl (uTy G) s) (hA : ∀ q, s.heap.size ≤ q → A q) (Z : uZ G A M s.heap H locs) (hM : CTl l G y ws fr lo (.ref (G.2.2 k) :: As) M post) (cw : CallW R s args own C index y bytes maxL ret ws (uRm fr lo) 0 0 n) (hk : k < 96) (hsh : uSh k = .inl (ci, fs)) (hc : vwCl[ci]? = some (C, T, N)) (hn : As.length = n) (hsz : ls.size = nL) (hst : st0 = As.reverse ++ .ref (G.2.2 k) :: rest) (hW : (rest.map fun v => v.category).sum ≤ 8) (hdg : decode cc pc = .ok (.invokevirtual index, 3)) (hf : cells ≤ R.cells ∧ slots ≤ R.slots)
    (kk : ∀ (r : Int64) (M' : uM) (H1 : Heap) (locs1 : List Loc), post r M' → uZ G A M' s.heap H1 locs1 → W p l e R s m args below meth c H1 locs1 cells slots Q (F0 m (pc + 3) ls (.long r :: rest))) : W p l e R s m args below meth c H locs cells slots Q (F0 m pc ls st0) :=
  va_calll (va_runV S (hM H.size) cw ⟨u_blind _ _, u_recv hK Z hk hsh hc, u_pre hK Z _⟩ rfl hn hsz hst (lv_room hW) hdg hf) Z.2.2 (fun q _ h => u_free hA Z q h) (u_free hA Z) (fun r M' t H1 locs1 ht _ hp hB _ _ hS => kk r M' H1 locs1 hp (u_next Z ht hB hS))
theorem uc_Vv {post : uM → Prop} (S : CallFix p m c cc nL s args Ts own) (hK : va_K G.1 vwCl (uTy G) s) (hA : ∀ q, s.heap.size ≤ q → A q) (Z : uZ G A M s.heap H locs) (hM : CTv l G y ws fr lo (.ref (G.2.2 k) :: As) M post) (cw : CallW R s args own C index y bytes maxL ret ws (uRm fr lo) 0 0 n) (hk : k < 96) (hsh : uSh k = .inl (ci, fs)) (hc : vwCl[ci]? = some (C, T, N)) (hn : As.length = n) (hsz : ls.size = nL) (hst : st0 = As.reverse ++ .ref (G.2.2 k) :: rest) (hW : (rest.map fun v => v.category).sum ≤ 8) (hdg : decode cc pc = .ok (.invokevirtual index, 3)) (hf : cells ≤ R.cells ∧ slots ≤ R.slots)
    (kk : ∀ (M' : uM) (H1 : Heap) (locs1 : List Loc), post M' → uZ G A M' s.heap H1 locs1 → W p l e R s m args below meth c H1 locs1 cells slots Q (F0 m (pc + 3) ls rest)) : W p l e R s m args below meth c H locs cells slots Q (F0 m pc ls st0) :=
  va_callv (va_runV S (hM H.size) cw ⟨u_blind _ _, u_recv hK Z hk hsh hc, u_pre hK Z _⟩ rfl hn hsz hst (lv_room hW) hdg hf) Z.2.2 (fun q _ h => u_free hA Z q h) (u_free hA Z) (fun M' t H1 locs1 ht _ hp hB _ _ hS => kk M' H1 locs1 hp (u_next Z ht hB hS))
theorem uc_Vr {post : Nat → uM → Prop} (S : CallFix p m c cc nL s args Ts own) (hK : va_K G.1 vwCl (uTy G) s) (hA : ∀ q, s.heap.size ≤ q → A q) (Z : uZ G A M s.heap H locs) (hM : CTr l G y ws fr lo (.ref (G.2.2 k) :: As) M post) (cw : CallW R s args own C index y bytes maxL ret ws (uRm fr lo) 0 0 n) (hk : k < 96) (hsh : uSh k = .inl (ci, fs)) (hc : vwCl[ci]? = some (C, T, N)) (hn : As.length = n) (hsz : ls.size = nL) (hst : st0 = As.reverse ++ .ref (G.2.2 k) :: rest) (hW : (rest.map fun v => v.category).sum ≤ 8) (hdg : decode cc pc = .ok (.invokevirtual index, 3)) (hf : cells ≤ R.cells ∧ slots ≤ R.slots)
    (kk : ∀ (r : Nat) (M' : uM) (H1 : Heap) (locs1 : List Loc), post r M' → uZ G A M' s.heap H1 locs1 → W p l e R s m args below meth c H1 locs1 cells slots Q (F0 m (pc + 3) ls (.ref (G.2.2 r) :: rest))) : W p l e R s m args below meth c H locs cells slots Q (F0 m pc ls st0) :=
  va_callr (va_runV S (hM H.size) cw ⟨u_blind _ _, u_recv hK Z hk hsh hc, u_pre hK Z _⟩ rfl hn hsz hst (lv_room hW) hdg hf) Z.2.2 (fun q _ h => u_free hA Z q h) (u_free hA Z) (fun u a t H1 locs1 ht _ hp hB _ _ hS => by
    obtain ⟨rfl, hB⟩ := hB
    exact kk u.1 u.2 H1 locs1 hp (u_next Z ht hB hS))
theorem uc_Si {post : Int32 → uM → Prop} (S : CallFix p m c cc nL s args Ts own) (hK : va_K G.1 vwCl (uTy G) s) (hA : ∀ q, s.heap.size ≤ q → A q) (Z : uZ G A M s.heap H locs) (hM : CTi l G y ws fr lo As M post) (cw : CallB R s args own index y bytes maxL ret ws (uRm fr lo) 0 0 n ∧ (Cond.static y).before args s = true) (hn : As.length = n) (hsz : ls.size = nL) (hst : st0 = As.reverse ++ rest) (hW : (rest.map fun v => v.category).sum ≤ 8) (hdg : decode cc pc = .ok (.invokestatic index, 3)) (hf : cells ≤ R.cells ∧ slots ≤ R.slots)
    (kk : ∀ (r : Int32) (M' : uM) (H1 : Heap) (locs1 : List Loc), post r M' → uZ G A M' s.heap H1 locs1 → W p l e R s m args below meth c H1 locs1 cells slots Q (F0 m (pc + 3) ls (.int r :: rest))) : W p l e R s m args below meth c H locs cells slots Q (F0 m pc ls st0) :=
  va_calli (va_runS S (hM H.size) cw ⟨u_blind _ _, u_pre hK Z _⟩ rfl hn hsz hst (lv_room hW) hdg hf) Z.2.2 (fun q _ h => u_free hA Z q h) (u_free hA Z) (fun r M' t H1 locs1 ht _ hp hB _ _ hS => kk r M' H1 locs1 hp (u_next Z ht hB hS))
theorem uc_Sl {post : Int64 → uM → Prop} (S : CallFix p m c cc nL s args Ts own) (hK : va_K G.1 vwCl (uTy G) s) (hA : ∀ q, s.heap.size ≤ q → A q) (Z : uZ G A M s.heap H locs) (hM : CTl l G y ws fr lo As M post) (cw : CallB R s args own index y bytes maxL ret ws (uRm fr lo) 0 0 n ∧ (Cond.static y).before args s = true) (hn : As.length = n) (hsz : ls.size = nL) (hst : st0 = As.reverse ++ rest) (hW : (rest.map fun v => v.category).sum ≤ 8) (hdg : decode cc pc = .ok (.invokestatic index, 3)) (hf : cells ≤ R.cells ∧ slots ≤ R.slots)
    (kk : ∀ (r : Int64) (M' : uM) (H1 : Heap) (locs1 : List Loc), post r M' → uZ G A M' s.heap H1 locs1 → W p l e R s m args below meth c H1 locs1 cells slots Q (F0 m (pc + 3) ls (.long r :: rest))) : W p l e R s m args below meth c H locs cells slots Q (F0 m pc ls st0) :=
  va_calll (va_runS S (hM H.size) cw ⟨u_blind _ _, u_pre hK Z _⟩ rfl hn hsz hst (lv_room hW) hdg hf) Z.2.2 (fun q _ h => u_free hA Z q h) (u_free hA Z) (fun r M' t H1 locs1 ht _ hp hB _ _ hS => kk r M' H1 locs1 hp (u_next Z ht hB hS))
theorem uc_Sv {post : uM → Prop} (S : CallFix p m c cc nL s args Ts own) (hK : va_K G.1 vwCl (uTy G) s) (hA : ∀ q, s.heap.size ≤ q → A q) (Z : uZ G A M s.heap H locs) (hM : CTv l G y ws fr lo As M post) (cw : CallB R s args own index y bytes maxL ret ws (uRm fr lo) 0 0 n ∧ (Cond.static y).before args s = true) (hn : As.length = n) (hsz : ls.size = nL) (hst : st0 = As.reverse ++ rest) (hW : (rest.map fun v => v.category).sum ≤ 8) (hdg : decode cc pc = .ok (.invokestatic index, 3)) (hf : cells ≤ R.cells ∧ slots ≤ R.slots)
    (kk : ∀ (M' : uM) (H1 : Heap) (locs1 : List Loc), post M' → uZ G A M' s.heap H1 locs1 → W p l e R s m args below meth c H1 locs1 cells slots Q (F0 m (pc + 3) ls rest)) : W p l e R s m args below meth c H locs cells slots Q (F0 m pc ls st0) :=
  va_callv (va_runS S (hM H.size) cw ⟨u_blind _ _, u_pre hK Z _⟩ rfl hn hsz hst (lv_room hW) hdg hf) Z.2.2 (fun q _ h => u_free hA Z q h) (u_free hA Z) (fun M' t H1 locs1 ht _ hp hB _ _ hS => kk M' H1 locs1 hp (u_next Z ht hB hS))
theorem ud_Vi {E : Int32} {M2 : uM} (S : CallFix p m c cc nL s args Ts own) (hK : va_K G.1 vwCl (uTy G) s) (hA : ∀ q, s.heap.size ≤ q → A q) (Z : uZ G A M s.heap H locs) (hM : CTi l G y ws fr lo (.ref (G.2.2 k) :: As) M (fun r M' => r = E ∧ M' = M2)) (cw : CallW R s args own C index y bytes maxL ret ws (uRm fr lo) 0 0 n) (hk : k < 96) (hsh : uSh k = .inl (ci, fs)) (hc : vwCl[ci]? = some (C, T, N)) (hn : As.length = n) (hsz : ls.size = nL) (hst : st0 = As.reverse ++ .ref (G.2.2 k) :: rest) (hW : (rest.map fun v => v.category).sum ≤ 8) (hdg : decode cc pc = .ok (.invokevirtual index, 3)) (hf : cells ≤ R.cells ∧ slots ≤ R.slots)
    (kk : ∀ (H1 : Heap) (locs1 : List Loc), uZ G A M2 s.heap H1 locs1 → W p l e R s m args below meth c H1 locs1 cells slots Q (F0 m (pc + 3) ls (.int E :: rest))) : W p l e R s m args below meth c H locs cells slots Q (F0 m pc ls st0) :=
  uc_Vi S hK hA Z hM cw hk hsh hc hn hsz hst hW hdg hf (fun r M' H1 locs1 hp Z' => by
    obtain ⟨rfl, rfl⟩ := hp
    exact kk H1 locs1 Z')
theorem ud_Vl {E : Int64} {M2 : uM} (S : CallFix p m c cc nL s args Ts own) (hK : va_K G.1 vwCl (uTy G) s) (hA : ∀ q, s.heap.size ≤ q → A q) (Z : uZ G A M s.heap H locs) (hM : CTl l G y ws fr lo (.ref (G.2.2 k) :: As) M (fun r M' => r = E ∧ M' = M2)) (cw : CallW R s args own C index y bytes maxL ret ws (uRm fr lo) 0 0 n) (hk : k < 96) (hsh : uSh k = .inl (ci, fs)) (hc : vwCl[ci]? = some (C, T, N)) (hn : As.length = n) (hsz : ls.size = nL) (hst : st0 = As.reverse ++ .ref (G.2.2 k) :: rest) (hW : (rest.map fun v => v.category).sum ≤ 8) (hdg : decode cc pc = .ok (.invokevirtual index, 3)) (hf : cells ≤ R.cells ∧ slots ≤ R.slots)
    (kk : ∀ (H1 : Heap) (locs1 : List Loc), uZ G A M2 s.heap H1 locs1 → W p l e R s m args below meth c H1 locs1 cells slots Q (F0 m (pc + 3) ls (.long E :: rest))) : W p l e R s m args below meth c H locs cells slots Q (F0 m pc ls st0) :=
  uc_Vl S hK hA Z hM cw hk hsh hc hn hsz hst hW hdg hf (fun r M' H1 locs1 hp Z' => by
    obtain ⟨rfl, rfl⟩ := hp
    exact kk H1 locs1 Z')
theorem ud_Vv {M2 : uM} (S : CallFix p m c cc nL s args Ts own) (hK : va_K G.1 vwCl (uTy G) s) (hA : ∀ q, s.heap.size ≤ q → A q) (Z : uZ G A M s.heap H locs) (hM : CTv l G y ws fr lo (.ref (G.2.2 k) :: As) M (fun M' => M' = M2)) (cw : CallW R s args own C index y bytes maxL ret ws (uRm fr lo) 0 0 n) (hk : k < 96) (hsh : uSh k = .inl (ci, fs)) (hc : vwCl[ci]? = some (C, T, N)) (hn : As.length = n) (hsz : ls.size = nL) (hst : st0 = As.reverse ++ .ref (G.2.2 k) :: rest) (hW : (rest.map fun v => v.category).sum ≤ 8) (hdg : decode cc pc = .ok (.invokevirtual index, 3)) (hf : cells ≤ R.cells ∧ slots ≤ R.slots)
    (kk : ∀ (H1 : Heap) (locs1 : List Loc), uZ G A M2 s.heap H1 locs1 → W p l e R s m args below meth c H1 locs1 cells slots Q (F0 m (pc + 3) ls (rest))) : W p l e R s m args below meth c H locs cells slots Q (F0 m pc ls st0) :=
  uc_Vv S hK hA Z hM cw hk hsh hc hn hsz hst hW hdg hf (fun M' H1 locs1 hp Z' => by
    obtain rfl := hp
    exact kk H1 locs1 Z')
theorem ud_Si {E : Int32} {M2 : uM} (S : CallFix p m c cc nL s args Ts own) (hK : va_K G.1 vwCl (uTy G) s) (hA : ∀ q, s.heap.size ≤ q → A q) (Z : uZ G A M s.heap H locs) (hM : CTi l G y ws fr lo As M (fun r M' => r = E ∧ M' = M2)) (cw : CallB R s args own index y bytes maxL ret ws (uRm fr lo) 0 0 n ∧ (Cond.static y).before args s = true) (hn : As.length = n) (hsz : ls.size = nL) (hst : st0 = As.reverse ++ rest) (hW : (rest.map fun v => v.category).sum ≤ 8) (hdg : decode cc pc = .ok (.invokestatic index, 3)) (hf : cells ≤ R.cells ∧ slots ≤ R.slots)
    (kk : ∀ (H1 : Heap) (locs1 : List Loc), uZ G A M2 s.heap H1 locs1 → W p l e R s m args below meth c H1 locs1 cells slots Q (F0 m (pc + 3) ls (.int E :: rest))) : W p l e R s m args below meth c H locs cells slots Q (F0 m pc ls st0) :=
  uc_Si S hK hA Z hM cw hn hsz hst hW hdg hf (fun r M' H1 locs1 hp Z' => by
    obtain ⟨rfl, rfl⟩ := hp
    exact kk H1 locs1 Z')
theorem ud_Sl {E : Int64} {M2 : uM} (S : CallFix p m c cc nL s args Ts own) (hK : va_K G.1 vwCl (uTy G) s) (hA : ∀ q, s.heap.size ≤ q → A q) (Z : uZ G A M s.heap H locs) (hM : CTl l G y ws fr lo As M (fun r M' => r = E ∧ M' = M2)) (cw : CallB R s args own index y bytes maxL ret ws (uRm fr lo) 0 0 n ∧ (Cond.static y).before args s = true) (hn : As.length = n) (hsz : ls.size = nL) (hst : st0 = As.reverse ++ rest) (hW : (rest.map fun v => v.category).sum ≤ 8) (hdg : decode cc pc = .ok (.invokestatic index, 3)) (hf : cells ≤ R.cells ∧ slots ≤ R.slots)
    (kk : ∀ (H1 : Heap) (locs1 : List Loc), uZ G A M2 s.heap H1 locs1 → W p l e R s m args below meth c H1 locs1 cells slots Q (F0 m (pc + 3) ls (.long E :: rest))) : W p l e R s m args below meth c H locs cells slots Q (F0 m pc ls st0) :=
  uc_Sl S hK hA Z hM cw hn hsz hst hW hdg hf (fun r M' H1 locs1 hp Z' => by
    obtain ⟨rfl, rfl⟩ := hp
    exact kk H1 locs1 Z')
theorem ud_Sv {M2 : uM} (S : CallFix p m c cc nL s args Ts own) (hK : va_K G.1 vwCl (uTy G) s) (hA : ∀ q, s.heap.size ≤ q → A q) (Z : uZ G A M s.heap H locs) (hM : CTv l G y ws fr lo As M (fun M' => M' = M2)) (cw : CallB R s args own index y bytes maxL ret ws (uRm fr lo) 0 0 n ∧ (Cond.static y).before args s = true) (hn : As.length = n) (hsz : ls.size = nL) (hst : st0 = As.reverse ++ rest) (hW : (rest.map fun v => v.category).sum ≤ 8) (hdg : decode cc pc = .ok (.invokestatic index, 3)) (hf : cells ≤ R.cells ∧ slots ≤ R.slots)
    (kk : ∀ (H1 : Heap) (locs1 : List Loc), uZ G A M2 s.heap H1 locs1 → W p l e R s m args below meth c H1 locs1 cells slots Q (F0 m (pc + 3) ls (rest))) : W p l e R s m args below meth c H locs cells slots Q (F0 m pc ls st0) :=
  uc_Sv S hK hA Z hM cw hn hsz hst hW hdg hf (fun M' H1 locs1 hp Z' => by
    obtain rfl := hp
    exact kk H1 locs1 Z')
end UENDS
theorem ustart_i {l : Launch} {G : uG} {y : MethodName} {ws ws' : List Cond} {cc : ByteArray} {maxL : Nat} {ret : Option FieldType} {fr lo : Nat} {av : List Value} {M : uM} {post : Int32 → uM → Prop} {own : String} (ho : y.cls = own) (hy : plainName y.cls = true) (hw : ws = Cond.code y cc maxL ret :: ws') (hlen : (lg_sl av).length ≤ maxL)
    (body : ∀ (p : Program) (e : Env) (s : State) (m : MethodId) (args : Array Value) (below : List Frame) (meth : Method) (c : Code) (A : Nat → Prop) (ls : Array Slot), CallFix p m c cc maxL s args ws own → va_K G.1 vwCl (uTy G) s → (∀ q, s.heap.size ≤ q → A q) → uZ G A M s.heap s.heap [] → meth.sig.returnType = ret → meth.locks = false → lv_has ls maxL (lv_args 0 av) → W p l e (uRm fr lo) s m args below meth c s.heap [] 0 0 (MQ below (va_Qi post (fun M' t => uB G M' t) A) args s 0 0 A) (F0 m 0 ls [])) : CTi l G y ws fr lo av M post :=
  ustart (Qc := fun A => va_Qi post (fun M' t => uB G M' t) A) ho hy hw hlen body
theorem ustart_l {l : Launch} {G : uG} {y : MethodName} {ws ws' : List Cond} {cc : ByteArray} {maxL : Nat} {ret : Option FieldType} {fr lo : Nat} {av : List Value} {M : uM} {post : Int64 → uM → Prop} {own : String} (ho : y.cls = own) (hy : plainName y.cls = true) (hw : ws = Cond.code y cc maxL ret :: ws') (hlen : (lg_sl av).length ≤ maxL)
    (body : ∀ (p : Program) (e : Env) (s : State) (m : MethodId) (args : Array Value) (below : List Frame) (meth : Method) (c : Code) (A : Nat → Prop) (ls : Array Slot), CallFix p m c cc maxL s args ws own → va_K G.1 vwCl (uTy G) s → (∀ q, s.heap.size ≤ q → A q) → uZ G A M s.heap s.heap [] → meth.sig.returnType = ret → meth.locks = false → lv_has ls maxL (lv_args 0 av) → W p l e (uRm fr lo) s m args below meth c s.heap [] 0 0 (MQ below (va_Ql post (fun M' t => uB G M' t) A) args s 0 0 A) (F0 m 0 ls [])) : CTl l G y ws fr lo av M post :=
  ustart (Qc := fun A => va_Ql post (fun M' t => uB G M' t) A) ho hy hw hlen body
theorem ustart_v {l : Launch} {G : uG} {y : MethodName} {ws ws' : List Cond} {cc : ByteArray} {maxL : Nat} {ret : Option FieldType} {fr lo : Nat} {av : List Value} {M : uM} {post : uM → Prop} {own : String} (ho : y.cls = own) (hy : plainName y.cls = true) (hw : ws = Cond.code y cc maxL ret :: ws') (hlen : (lg_sl av).length ≤ maxL)
    (body : ∀ (p : Program) (e : Env) (s : State) (m : MethodId) (args : Array Value) (below : List Frame) (meth : Method) (c : Code) (A : Nat → Prop) (ls : Array Slot), CallFix p m c cc maxL s args ws own → va_K G.1 vwCl (uTy G) s → (∀ q, s.heap.size ≤ q → A q) → uZ G A M s.heap s.heap [] → meth.sig.returnType = ret → meth.locks = false → lv_has ls maxL (lv_args 0 av) → W p l e (uRm fr lo) s m args below meth c s.heap [] 0 0 (MQ below (va_Qv post (fun M' t => uB G M' t) A) args s 0 0 A) (F0 m 0 ls [])) : CTv l G y ws fr lo av M post :=
  ustart (Qc := fun A => va_Qv post (fun M' t => uB G M' t) A) ho hy hw hlen body
theorem ustart_r {l : Launch} {G : uG} {y : MethodName} {ws ws' : List Cond} {cc : ByteArray} {maxL : Nat} {ret : Option FieldType} {fr lo : Nat} {av : List Value} {M : uM} {post : Nat → uM → Prop} {own : String} (ho : y.cls = own) (hy : plainName y.cls = true) (hw : ws = Cond.code y cc maxL ret :: ws') (hlen : (lg_sl av).length ≤ maxL)
    (body : ∀ (p : Program) (e : Env) (s : State) (m : MethodId) (args : Array Value) (below : List Frame) (meth : Method) (c : Code) (A : Nat → Prop) (ls : Array Slot), CallFix p m c cc maxL s args ws own → va_K G.1 vwCl (uTy G) s → (∀ q, s.heap.size ≤ q → A q) → uZ G A M s.heap s.heap [] → meth.sig.returnType = ret → meth.locks = false → lv_has ls maxL (lv_args 0 av) → W p l e (uRm fr lo) s m args below meth c s.heap [] 0 0 (MQ below (va_Qr (fun u : Nat × uM => post u.1 u.2) (fun u a t => a = G.2.2 u.1 ∧ uB G u.2 t) A) args s 0 0 A) (F0 m 0 ls [])) : CTr l G y ws fr lo av M post :=
  ustart (Qc := fun A => va_Qr (fun u : Nat × uM => post u.1 u.2) (fun u a t => a = G.2.2 u.1 ∧ uB G u.2 t) A) ho hy hw hlen body
theorem utop {p : Program} {l : Launch} {e : Env} {R : Room} {s : State} {m : MethodId} {args : Array Value} {below : List Frame} {meth : Method} {c : Code} {H : Heap} {locs : List Loc} {cells slots : Nat} {Q : State → Prop} {pc : Nat} {ls : Array Slot} {rest : List Value} {x y : Int32} (h : x = y) (k : W p l e R s m args below meth c H locs cells slots Q (F0 m pc ls (.int y :: rest))) : W p l e R s m args below meth c H locs cells slots Q (F0 m pc ls (.int x :: rest)) := by
  subst h
  exact k
theorem utopl {p : Program} {l : Launch} {e : Env} {R : Room} {s : State} {m : MethodId} {args : Array Value} {below : List Frame} {meth : Method} {c : Code} {H : Heap} {locs : List Loc} {cells slots : Nat} {Q : State → Prop} {pc : Nat} {ls : Array Slot} {rest : List Value} {x y : Int64} (h : x = y) (k : W p l e R s m args below meth c H locs cells slots Q (F0 m pc ls (.long y :: rest))) : W p l e R s m args below meth c H locs cells slots Q (F0 m pc ls (.long x :: rest)) := by
  subst h
  exact k
/-! the five worlds, and their sights -/
def uIsW (b : Nat) : Prop := b = 1 ∨ b = 11 ∨ b = 24 ∨ b = 51 ∨ b = 61
def uIsS (b : Nat) : Prop := b = 8 ∨ b = 18 ∨ b = 31 ∨ b = 58 ∨ b = 68
theorem uW_lt {b : Nat} (j : Nat) (h : uIsW b) (hj : j < 10) : b + j < 96 := by
  unfold uIsW at h
  omega
theorem uS_lt {b : Nat} (j : Nat) (h : uIsS b) (hj : j < 3) : b + j < 96 := by
  unfold uIsS at h
  omega
theorem uW_S {b : Nat} (h : uIsW b) : uIsS (b + 7) := by
  unfold uIsW at h
  unfold uIsS
  omega
theorem uW_0 {b : Nat} (h : uIsW b) : uSh b = .inl (9, [(0, b + 1), (0, b + 2), (0, b + 3), (0, b + 4), (0, b + 5), (0, b + 6), (0, b + 7), (1, 0), (1, 0)]) := by
  rcases h with rfl | rfl | rfl | rfl | rfl <;> rfl
theorem uW_1 {b : Nat} (h : uIsW b) : uSh (b + 1) = .inr (0, 12) := by rcases h with rfl | rfl | rfl | rfl | rfl <;> rfl
theorem uW_2 {b : Nat} (h : uIsW b) : uSh (b + 2) = .inr (0, 12) := by rcases h with rfl | rfl | rfl | rfl | rfl <;> rfl
theorem uW_3 {b : Nat} (h : uIsW b) : uSh (b + 3) = .inr (0, 12) := by rcases h with rfl | rfl | rfl | rfl | rfl <;> rfl
theorem uW_4 {b : Nat} (h : uIsW b) : uSh (b + 4) = .inr (0, 12) := by rcases h with rfl | rfl | rfl | rfl | rfl <;> rfl
theorem uW_5 {b : Nat} (h : uIsW b) : uSh (b + 5) = .inr (0, 8) := by rcases h with rfl | rfl | rfl | rfl | rfl <;> rfl
theorem uW_6 {b : Nat} (h : uIsW b) : uSh (b + 6) = .inr (0, 8) := by rcases h with rfl | rfl | rfl | rfl | rfl <;> rfl
theorem uS_0 {b : Nat} (h : uIsS b) : uSh b = .inl (7, [(0, b + 1), (0, b + 2), (1, 0)]) := by rcases h with rfl | rfl | rfl | rfl | rfl <;> rfl
theorem uS_1 {b : Nat} (h : uIsS b) : uSh (b + 1) = .inr (0, 8) := by rcases h with rfl | rfl | rfl | rfl | rfl <;> rfl
theorem uS_2 {b : Nat} (h : uIsS b) : uSh (b + 2) = .inr (0, 8) := by rcases h with rfl | rfl | rfl | rfl | rfl <;> rfl
