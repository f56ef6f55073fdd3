/-! objects made: cells that come -/
abbrev uTc (cs : ClassId × ClassId × ClassId) : List (ClassId × FieldType) := [(cs.1, .int), (cs.2.1, .long), (cs.2.2, .boolean)]
def nPre (D : va_G) (cs : ClassId × ClassId × ClassId) (av : List Value) (ws : va_W) (sz : Nat) : Array Value → State → Prop := va_Pc av (fun U => U.heap.size = sz ∧ va_P D vwCl ws U.heap ∧ va_K D vwCl (uTc cs) U ∧ va_D (fun _ => True) ws)
def nB (D : va_G) (cs : ClassId × ClassId × ClassId) (A : Nat → Prop) (ws : va_W) (t : State) : Prop := va_P D vwCl ws t.heap ∧ va_K D vwCl (uTc cs) t ∧ va_D A ws
abbrev nRm (fr mc ms lo : Nat) : Room := { frames := fr, cells := mc, slots := ms, locals := lo }
/-- a maker's contract: the cells w0 are there; w1 of some addresses come in their place -/
def CN (l : Launch) (y : MethodName) (wy : List Cond) (fr mc ms lo : Nat) (D : va_G) (cs : ClassId × ClassId × ClassId) (av : List Value) (w0 : va_W) (w1 : (Nat → Nat) → va_W) : Prop := ∀ sz : Nat, Met l y wy (nRm fr mc ms lo) (nPre D cs av w0 sz) (va_Qv (fun _ : Nat → Nat => True) (fun a t => nB D cs (va_A w0 sz) (w1 a) t) (va_A w0 sz)) mc ms (va_A w0 sz)
def nZ (D : va_G) (A : Nat → Prop) (ws : va_W) (H0 H : Heap) (locs : List Loc) : Prop := va_P D vwCl ws H ∧ va_D A ws ∧ va_S A H0 H locs
theorem n_start {l : Launch} {y : MethodName} {wy ws' : List Cond} {cc : ByteArray} {maxL fr mc ms lo : Nat} {D : va_G} {cs : ClassId × ClassId × ClassId} {av : List Value} {w0 : va_W} {w1 : (Nat → Nat) → va_W} {own : String} (ho : y.cls = own) (hy : plainName y.cls = true) (hw : wy = Cond.code y cc maxL none :: ws') (hlen : (lg_sl av).length ≤ maxL)
    (body : ∀ (p : Program) (e : Env) (s : State) (m : MethodId) (args : Array Value) (below : List Frame) (meth : Method) (c : Code) (A : Nat → Prop) (ls : Array Slot), CallFix p m c cc maxL s args wy own → va_K D vwCl (uTc cs) s → (∀ q, s.heap.size ≤ q → A q) → nZ D A w0 s.heap s.heap [] → meth.sig.returnType = none → meth.locks = false → meth.name = y.name → lv_has ls maxL (lv_args 0 av) → W p l e (nRm fr mc ms lo) s m args below meth c s.heap [] 0 0 (MQ below (va_Qv (fun _ : Nat → Nat => True) (fun a t => nB D cs A (w1 a) t) A) args s mc ms A) (F0 m 0 ls [])) : CN l y wy fr mc ms lo D cs av w0 w1 := by
  intro sz
  refine Met.ofW (cc := cc) (maxL := maxL) (ret := none) hy hw ?_
  intro p e s m args below meth c s₁ B hml hv
  obtain ⟨rfl, hsz, hP, hK, hD0⟩ := hv
  have hts := atoms_spec (ws := wy) B.pre
  have hown : s.vm.findClass y.cls = some m.cls := findClass_of_methodNamed B.named
  have hlocks := B.notSynchronized
  have hnm : meth.name = y.name := (name_of_methodNamed B.named B.method).1
  subst hsz
  have hD := hD0.self (sz := s.heap.size)
  have hl := lv_entry av (n := maxL) hlen
  rw [lg_entry_eq]
  exact body p e s m _ below meth c _ _ ⟨B.exec, B.bytes, hml, by rw [← ho]; exact hown, hts⟩ hK (fun q h => Or.inr h) ⟨hP, hD, va_S.rf⟩ B.returns hlocks hnm hl
theorem n_nd : ∀ n s, va_nd (List.range' s n) = true := by
  intro n
  induction n with
  | zero => intro s; rfl
  | succ n ih =>
    intro s
    show va_nd (s :: List.range' (s + 1) n) = true
    rw [va_nd, ih]
    simp [List.mem_range'_1]
theorem n_join {A0 : Nat → Prop} {D : va_G} {X w1 : va_W} {b : Nat} {e0 : va_E} {H H1 : Heap} (hP : va_P D vwCl (X ++ [(b, e0)]) H) (hD : va_D A0 (X ++ [(b, e0)])) (hk : ∀ q : Nat, q < H.size → ¬ va_A [(b, e0)] H.size q → H1[q]? = H[q]?) (hF : ∀ q, va_A [(b, e0)] H.size q → A0 q) (hP1 : va_P D vwCl w1 H1) (hD1 : va_D (va_A [(b, e0)] H.size) w1) : va_P D vwCl (X ++ w1) H1 ∧ va_D A0 (X ++ w1) := by
  refine va_join (wc := [(b, e0)]) (wr := X) hP hD [X.length] (List.range X.length) (by simp) ?_ (by rw [List.range_eq_range']; exact n_nd _ _) (fun i hi h => ?_) hk hF hP1 hD1
  · refine List.ext_getElem? (fun k => ?_)
    rw [List.getElem?_map, List.getElem?_map]
    by_cases h : k < X.length
    · rw [List.getElem?_range h]
      simp [h, List.getElem?_append_left h]
    · simp [h]
  · rw [List.mem_range] at hi
    simp at h
    omega
section NEW
variable {p : Program} {l : Launch} {e : Env} {R : Room} {s : State} {m : MethodId} {args : Array Value} {below : List Frame} {meth : Method} {c : Code} {H : Heap} {locs : List Loc} {cells slots : Nat} {Q : State → Prop}
variable {cc : ByteArray} {pc nL : Nat} {ls : Array Slot} {rest st0 : List Value} {A : Nat → Prop} {Ts : List Cond} {own : String} {D : va_G} {cs : ClassId × ClassId × ClassId} {ws : va_W}
theorem n_blind (av : List Value) (w0 : va_W) (sz : Nat) : FrameBlind (nPre D cs av w0 sz) := fun a U g mk q => by
  obtain ⟨q0, q1, qP, qK, qD⟩ := q
  exact ⟨q0, q1, qP, va_K.moved (u := U) (U := U.calling g mk a) (Vm.Alike.refl U.vm) qK, qD⟩
theorem n_ret {w1 : (Nat → Nat) → va_W} {mc ms : Nat} (a : Nat → Nat) (S : CallFix p m c cc nL s args Ts own) (hK : va_K D vwCl (uTc cs) s) (Z : nZ D A ws s.heap H locs) (hr : meth.sig.returnType = none) (hlocks : meth.locks = false) (hw : ws = w1 a) (h1 : cells ≤ mc) (h2 : slots ≤ ms) (hdg : decode cc pc = .ok (.return_, 1)) : W p l e R s m args below meth c H locs cells slots (MQ below (va_Qv (fun _ : Nat → Nat => True) (fun a t => nB D cs A (w1 a) t) A) args s mc ms A) (F0 m pc ls []) := by
  subst hw
  exact W.widen h1 h2 (W.vret S.1 S.2.1 hr (fun t ht hW => ⟨⟨a, rfl, trivial, by rw [ht]; exact Z.1, va_K.moved hW.alike hK, Z.2.1⟩, Z.2.2.F ht⟩) Z.2.2.2.2 hdg hlocks)
theorem n_callI {y : MethodName} {wy : List Cond} {bytes : ByteArray} {maxL fr mc ms lo index b : Nat} {e0 : va_E} {X : va_W} {w1 : (Nat → Nat) → va_W} (S : CallFix p m c cc nL s args Ts own) (hK : va_K D vwCl (uTc cs) s) (hA : ∀ q, s.heap.size ≤ q → A q) (Z : nZ D A (X ++ [(b, e0)]) s.heap H locs) (hM : CN l y wy fr mc ms lo D cs [.ref b] [(b, e0)] w1) (cw : CallB R s args own index y bytes maxL none wy (nRm fr mc ms lo) mc ms 0 ∧ y.name = "<init>" ∧ (Cond.instanceMethod y).before args s = true) (hsz : ls.size = nL) (hW : (rest.map fun v => v.category).sum ≤ 8) (hdg : decode cc pc = .ok (.invokespecial index, 3)) (hf : cells + mc ≤ R.cells ∧ slots + ms ≤ R.slots)
    (kk : ∀ (a : Nat → Nat) (H1 : Heap) (locs1 : List Loc), nZ D A (X ++ w1 a) s.heap H1 locs1 → W p l e R s m args below meth c H1 locs1 (cells + mc) (slots + ms) Q (F0 m (pc + 3) ls rest)) : W p l e R s m args below meth c H locs cells slots Q (F0 m pc ls (.ref b :: rest)) := by
  have hFc := va_free (wc := [(b, e0)]) Z.2.1 Z.2.2 hA [X.length] (by simp)
  have hPc : va_P D vwCl [(b, e0)] H := Z.1.sub [X.length] (by simp)
  have hDc : va_D A [(b, e0)] := Z.2.1.sub [X.length] (by simp [va_nd]) (by simp)
  refine va_callv (va_runI (As := []) (rest := rest) S (hM H.size) cw ⟨n_blind _ _ _, fun U hU hW => ⟨rfl, by rw [hU], by rw [hU]; exact hPc, va_K.moved hW.alike hK, hDc.weaken (fun _ _ _ _ => trivial)⟩⟩ rfl rfl hsz rfl (lv_room hW) hdg hf) Z.2.2 (fun q _ h => hFc q h) hFc (fun a t H1 locs1 ht hvm _ hB hz1 hk1 hS => kk a H1 locs1 ?_)
  obtain ⟨hP1, hK1, hD1⟩ := hB
  rw [ht] at hP1
  obtain ⟨h1, h2⟩ := n_join Z.1 Z.2.1 hk1 hFc hP1 hD1
  exact ⟨h1, h2, hS⟩
theorem n_set {i a : Nat} {e0 e1 : va_E} {H1 : Heap} (hP : va_P D vwCl ws H) (hD : va_D A ws) (ha : ws[i]? = some (a, e0)) (hk : ∀ q : Nat, q < H.size → ¬ va_A [(a, e0)] H.size q → H1[q]? = H[q]?) (hP1 : va_P D vwCl [(a, e1)] H1) : va_P D vwCl (ws.set i (a, e1)) H1 := by
  intro k q hk2
  have hi := (List.getElem?_eq_some_iff.mp ha).1
  rw [List.getElem?_set] at hk2
  by_cases h : i = k
  · rw [if_pos h, if_pos hi] at hk2
    cases hk2
    exact hP1 0 (a, e1) rfl
  · rw [if_neg h] at hk2
    have hne : q.1 ≠ a := fun z => h (hD.1 i k (a, e0) q ha hk2 z.symm)
    have hlt := (hP k q hk2).lt
    refine (hP k q hk2).kept (hk q.1 hlt (fun z => ?_))
    rcases z with ⟨j, e9, z⟩ | z
    · cases j with
      | zero =>
        have z2 : some (a, e0) = some (q.1, e9) := z
        exact hne (congrArg Prod.fst (Option.some.inj z2)).symm
      | succ j =>
        have z2 : (none : Option (Nat × va_E)) = some (q.1, e9) := z
        cases z2
    · omega
theorem n_callS {y : MethodName} {wy : List Cond} {bytes : ByteArray} {maxL fr lo index i a n : Nat} {e0 e1 : va_E} {As : List Value} (S : CallFix p m c cc nL s args Ts own) (hK : va_K D vwCl (uTc cs) s) (hA : ∀ q, s.heap.size ≤ q → A q) (Z : nZ D A ws s.heap H locs) (ha : ws[i]? = some (a, e0)) (hM : CN l y wy fr 0 0 lo D cs As [(a, e0)] (fun _ => [(a, e1)])) (cw : CallB R s args own index y bytes maxL none wy (nRm fr 0 0 lo) 0 0 n ∧ (Cond.static y).before args s = true) (hn : As.length = n) (hsz : ls.size = nL) (hst : st0 = As.reverse ++ rest) (hW : (rest.map fun v => v.category).sum ≤ 8) (hdg : decode cc pc = .ok (.invokestatic index, 3)) (hf : cells ≤ R.cells ∧ slots ≤ R.slots)
    (kk : ∀ (H1 : Heap) (locs1 : List Loc), nZ D A (ws.set i (a, e1)) s.heap H1 locs1 → W p l e R s m args below meth c H1 locs1 cells slots Q (F0 m (pc + 3) ls rest)) : W p l e R s m args below meth c H locs cells slots Q (F0 m pc ls st0) := by
  have hFc := va_free (wc := [(a, e0)]) Z.2.1 Z.2.2 hA [i] (by simp [ha])
  have hPc : va_P D vwCl [(a, e0)] H := Z.1.sub [i] (by simp [ha])
  have hDc : va_D A [(a, e0)] := Z.2.1.sub [i] (by simp [va_nd]) (by simp [ha])
  refine va_callv (va_runS S (hM H.size) cw ⟨n_blind _ _ _, fun U hU hW => ⟨rfl, by rw [hU], by rw [hU]; exact hPc, va_K.moved hW.alike hK, hDc.weaken (fun _ _ _ _ => trivial)⟩⟩ rfl hn hsz hst (lv_room hW) hdg hf) Z.2.2 (fun q _ h => hFc q h) hFc (fun _ t H1 locs1 ht hvm _ hB hz1 hk1 hS => kk H1 locs1 ?_)
  obtain ⟨hP1, hK1, hD1⟩ := hB
  rw [ht] at hP1
  exact ⟨n_set Z.1 Z.2.1 ha hk1 hP1, Z.2.1.set ha, hS⟩
theorem n_ist (S : CallFix p m c cc nL s args Ts own) (hK : va_K D vwCl (uTc cs) s) (Z : nZ D A ws s.heap H locs) {q0 a n : Nat} {f : Nat → Int32} {x : Int32} (j : Nat) (ha : ws[q0]? = some (a, .inl (cs.1, n, .inl f))) (hn : n < 8000) (hj : j < n) (hdg : decode cc pc = .ok (.iastore, 1))
    (kk : ∀ (H1 : Heap) (locs1 : List Loc), nZ D A (ws.set q0 (a, .inl (cs.1, n, .inl (upd f j x)))) s.heap H1 locs1 → W p l e R s m args below meth c H1 locs1 cells slots Q (F0 m (pc + 1) ls rest)) : W p l e R s m args below meth c H locs cells slots Q (F0 m pc ls (.int x :: .int (nI j) :: .ref a :: rest)) := by
  refine va_iast S.1 S.2.1 hK Z.1 Z.2.1 Z.2.2 q0 0 (f := f) ha rfl (vp_in_nI hj (by omega)) hdg (fun H1 locs1 a1 a2 a3 => kk H1 locs1 ?_)
  rw [nI_clamp (by omega)] at a1 a2
  exact ⟨a1, a2, a3⟩
theorem n_len (S : CallFix p m c cc nL s args Ts own) (hK : va_K D vwCl (uTc cs) s) (Z : nZ D A ws s.heap H locs) {q0 a n : Nat} {f : Nat → Int32} (ha : ws[q0]? = some (a, .inl (cs.1, n, .inl f))) (hdg : decode cc pc = .ok (.arraylength, 1))
    (kk : W p l e R s m args below meth c H locs cells slots Q (F0 m (pc + 1) ls (.int (nI n) :: rest))) : W p l e R s m args below meth c H locs cells slots Q (F0 m pc ls (.ref a :: rest)) :=
  va_alen (x := (n, .inl f)) S.1 S.2.1 hK Z.1 q0 0 ha rfl rfl hdg kk
theorem n_get (S : CallFix p m c cc nL s args Ts own) (hK : va_K D vwCl (uTc cs) s) (Z : nZ D A ws s.heap H locs) {h ci j N index : Nat} {fs : List Value} {v : Value} {C : String} {T : u_T} (he : ws[0]? = some (h, .inr (ci, fs))) (hc : vwCl[ci]? = some (C, T, N)) (hjN : j < N) (hin : ∀ w ∈ u_ws C T N, w ∈ Ts) (hlink : Cond.fieldLink own index (T j).1 (T j).2.1 (T j).2.2.1 ∈ Ts) (hv : fs[j]? = some v) (hdg : decode cc pc = .ok (.getfield index, 3))
    (kk : W p l e R s m args below meth c H locs cells slots Q (F0 m (pc + 3) ls (v :: rest))) : W p l e R s m args below meth c H locs cells slots Q (F0 m pc ls (.ref h :: rest)) :=
  va_get S.1 S.2.1 S.2.2.2.2 hin S.2.2.2.1 hK Z.1 0 (fs := fs) he hc j hjN (S.2.2.2.2 _ hlink) (fun _ h => h) (v := v) hv hdg kk
theorem n_putF (S : CallFix p m c cc nL s args Ts own) (hK : va_K D vwCl (uTc cs) s) (Z : nZ D A ws s.heap H locs) {h ci j N index : Nat} {fs : List Value} {v : Value} {C : String} {T : u_T} (he : ws[0]? = some (h, .inr (ci, fs))) (hc : vwCl[ci]? = some (C, T, N)) (hjN : j < N) (hin : ∀ w ∈ u_ws C T N, w ∈ Ts) {ty0 : Nat → FieldType} (hty : ∀ k, k < N → parseFieldDescriptor (T k).2.2.1 = some (ty0 k)) (hnm : ∀ a, a < N → ∀ b, b < N → a ≠ b → (T a).2.1 ≠ (T b).2.1) (hlink : Cond.fieldLink own index (T j).1 (T j).2.1 (T j).2.2.1 ∈ Ts) (hfin : (T j).2.2.2 = true) (hin2 : meth.name = "<init>") (hdecl : (T j).1 = own) (hn : narrow (ty0 j) v = v) (hfit : fits (ty0 j) v = true) (hl : j < fs.length) (hdg : decode cc pc = .ok (.putfield index, 3))
    (kk : ∀ (H1 : Heap) (locs1 : List Loc), nZ D A (ws.set 0 (h, .inr (ci, fs.set j v))) s.heap H1 locs1 → W p l e R s m args below meth c H1 locs1 cells slots Q (F0 m (pc + 3) ls rest)) : W p l e R s m args below meth c H locs cells slots Q (F0 m pc ls (v :: .ref h :: rest)) :=
  va_putF S.1 S.2.1 S.2.2.2.2 hin ty0 hty hnm S.2.2.2.1 hK Z.1 Z.2.1 Z.2.2 0 (fs := fs) he hc j hjN (S.2.2.2.2 _ hlink) (fun _ h => h) hfin hin2 hdecl (hty j hjN) hn hfit hl hdg (fun H1 locs1 h1 h2 h3 => kk H1 locs1 ⟨h1, h2, h3⟩)
theorem n_put (S : CallFix p m c cc nL s args Ts own) (hK : va_K D vwCl (uTc cs) s) (Z : nZ D A ws s.heap H locs) {h ci j N index : Nat} {fs : List Value} {v : Value} {C : String} {T : u_T} (he : ws[0]? = some (h, .inr (ci, fs))) (hc : vwCl[ci]? = some (C, T, N)) (hjN : j < N) (hin : ∀ w ∈ u_ws C T N, w ∈ Ts) {ty0 : Nat → FieldType} (hty : ∀ k, k < N → parseFieldDescriptor (T k).2.2.1 = some (ty0 k)) (hnm : ∀ a, a < N → ∀ b, b < N → a ≠ b → (T a).2.1 ≠ (T b).2.1) (hlink : Cond.fieldLink own index (T j).1 (T j).2.1 (T j).2.2.1 ∈ Ts) (hfin : (T j).2.2.2 = false) (hn : narrow (ty0 j) v = v) (hfit : fits (ty0 j) v = true) (hl : j < fs.length) (hdg : decode cc pc = .ok (.putfield index, 3))
    (kk : ∀ (H1 : Heap) (locs1 : List Loc), nZ D A (ws.set 0 (h, .inr (ci, fs.set j v))) s.heap H1 locs1 → W p l e R s m args below meth c H1 locs1 cells slots Q (F0 m (pc + 3) ls rest)) : W p l e R s m args below meth c H locs cells slots Q (F0 m pc ls (v :: .ref h :: rest)) :=
  va_put S.1 S.2.1 S.2.2.2.2 hin ty0 hty hnm S.2.2.2.1 hK Z.1 Z.2.1 Z.2.2 0 (fs := fs) he hc j hjN (S.2.2.2.2 _ hlink) (fun _ h => h) hfin (hty j hjN) hn hfit hl hdg (fun H1 locs1 h1 h2 h3 => kk H1 locs1 ⟨h1, h2, h3⟩)
theorem n_new (S : CallFix p m c cc nL s args Ts own) (hK : va_K D vwCl (uTc cs) s) (hA : ∀ q, s.heap.size ≤ q → A q) (Z : nZ D A ws s.heap H locs) {ci N index : Nat} {fs : List Value} {C : String} {T : u_T} (hc : vwCl[ci]? = some (C, T, N)) (hin : ∀ w ∈ u_ws C T N, w ∈ Ts) {ty0 : Nat → FieldType} (hty : ∀ k, k < N → parseFieldDescriptor (T k).2.2.1 = some (ty0 k)) (hcl : Cond.classLink own index C ∈ Ts) (hinst : Cond.instantiable C N ∈ Ts) (hini : Cond.initialized C ∈ Ts) (hfs : ∀ j, j < N → defaultValue (ty0 j) = vp_V fs j) (hcells : cells + 1 ≤ R.cells) (hslots : slots + N ≤ R.slots) (hdg : decode cc pc = .ok (.new index, 3))
    (kk : ∀ (q : Nat) (H1 : Heap), nZ D A (ws ++ [(q, .inr (ci, fs))]) s.heap H1 locs → W p l e R s m args below meth c H1 locs (cells + 1) (slots + N) Q (F0 m (pc + 3) ls (.ref q :: rest))) : W p l e R s m args below meth c H locs cells slots Q (F0 m pc ls rest) :=
  va_new S.1 S.2.1 S.2.2.2.2 hin ty0 hty S.2.2.2.1 (S.2.2.2.2 _ hcl) (S.2.2.2.2 _ hinst) (S.2.2.2.2 _ hini) hK Z.1 Z.2.1 Z.2.2 hA hc hfs hcells hslots hdg (fun q H1 h1 h2 h3 => kk q H1 ⟨h1, h2, h3⟩)
theorem n_newI (S : CallFix p m c cc nL s args Ts own) (hK : va_K D vwCl (uTc cs) s) (hA : ∀ q, s.heap.size ≤ q → A q) (Z : nZ D A ws s.heap H locs) {v : Int32} {N : Nat} (harr : Cond.arrayClass .int ∈ Ts) (hn : ¬ v < 0) (hN : v.toNatClampNeg = N) (hb : N < 8000) (hcells : cells + 1 ≤ R.cells) (hslots : slots + N ≤ R.slots) (hdg : decode cc pc = .ok (.newarray .int, 2))
    (kk : ∀ (q : Nat) (H1 : Heap), nZ D A (ws ++ [(q, .inl (cs.1, N, .inl (fun _ => 0)))]) s.heap H1 locs → W p l e R s m args below meth c H1 locs (cells + 1) (slots + N) Q (F0 m (pc + 2) ls (.ref q :: rest))) : W p l e R s m args below meth c H locs cells slots Q (F0 m pc ls (.int v :: rest)) := by
  refine va_newa (atype := .int) (ty := .int) (a0 := (N, .inl (fun _ => 0))) S.1 S.2.1 (S.2.2.2.2 _ harr) rfl hK Z.1 Z.2.1 Z.2.2 hA (fun cA => rfl) hn hN (by show N * 4 ≤ 536870912; omega) hcells hslots hdg (fun q cA H1 h0 h1 h2 h3 => ?_)
  have e1 : s.vm.findClass ("[" ++ FieldType.int.toString) = some cA := (h0.2 3 (cA, .int) rfl).2
  have e2 : s.vm.findClass ("[" ++ FieldType.int.toString) = some cs.1 := (hK.2 0 (cs.1, .int) rfl).2
  obtain rfl : cs.1 = cA := Option.some.inj (e2.symm.trans e1)
  exact kk q H1 ⟨h1, h2, h3⟩
theorem n_newL (S : CallFix p m c cc nL s args Ts own) (hK : va_K D vwCl (uTc cs) s) (hA : ∀ q, s.heap.size ≤ q → A q) (Z : nZ D A ws s.heap H locs) {v : Int32} {N : Nat} (harr : Cond.arrayClass .long ∈ Ts) (hn : ¬ v < 0) (hN : v.toNatClampNeg = N) (hb : N < 8000) (hcells : cells + 1 ≤ R.cells) (hslots : slots + N ≤ R.slots) (hdg : decode cc pc = .ok (.newarray .long, 2))
    (kk : ∀ (q : Nat) (H1 : Heap), nZ D A (ws ++ [(q, .inl (cs.2.1, N, .inr (.inl (fun _ => 0))))]) s.heap H1 locs → W p l e R s m args below meth c H1 locs (cells + 1) (slots + N) Q (F0 m (pc + 2) ls (.ref q :: rest))) : W p l e R s m args below meth c H locs cells slots Q (F0 m pc ls (.int v :: rest)) := by
  refine va_newa (atype := .long) (ty := .long) (a0 := (N, .inr (.inl (fun _ => 0)))) S.1 S.2.1 (S.2.2.2.2 _ harr) rfl hK Z.1 Z.2.1 Z.2.2 hA (fun cA => rfl) hn hN (by show N * 8 ≤ 536870912; omega) hcells hslots hdg (fun q cA H1 h0 h1 h2 h3 => ?_)
  have e1 : s.vm.findClass ("[" ++ FieldType.long.toString) = some cA := (h0.2 3 (cA, .long) rfl).2
  have e2 : s.vm.findClass ("[" ++ FieldType.long.toString) = some cs.2.1 := (hK.2 1 (cs.2.1, .long) rfl).2
  obtain rfl : cs.2.1 = cA := Option.some.inj (e2.symm.trans e1)
  exact kk q H1 ⟨h1, h2, h3⟩
theorem n_newB (S : CallFix p m c cc nL s args Ts own) (hK : va_K D vwCl (uTc cs) s) (hA : ∀ q, s.heap.size ≤ q → A q) (Z : nZ D A ws s.heap H locs) {v : Int32} {N : Nat} (harr : Cond.arrayClass .boolean ∈ Ts) (hn : ¬ v < 0) (hN : v.toNatClampNeg = N) (hb : N < 8000) (hcells : cells + 1 ≤ R.cells) (hslots : slots + N ≤ R.slots) (hdg : decode cc pc = .ok (.newarray .boolean, 2))
    (kk : ∀ (q : Nat) (H1 : Heap), nZ D A (ws ++ [(q, .inl (cs.2.2, N, .inl (fun _ => 0)))]) s.heap H1 locs → W p l e R s m args below meth c H1 locs (cells + 1) (slots + N) Q (F0 m (pc + 2) ls (.ref q :: rest))) : W p l e R s m args below meth c H locs cells slots Q (F0 m pc ls (.int v :: rest)) := by
  refine va_newa (atype := .boolean) (ty := .boolean) (a0 := (N, .inl (fun _ => 0))) S.1 S.2.1 (S.2.2.2.2 _ harr) rfl hK Z.1 Z.2.1 Z.2.2 hA (fun cA => rfl) hn hN (by show N * 1 ≤ 536870912; omega) hcells hslots hdg (fun q cA H1 h0 h1 h2 h3 => ?_)
  have e1 : s.vm.findClass ("[" ++ FieldType.boolean.toString) = some cA := (h0.2 3 (cA, .boolean) rfl).2
  have e2 : s.vm.findClass ("[" ++ FieldType.boolean.toString) = some cs.2.2 := (hK.2 2 (cs.2.2, .boolean) rfl).2
  obtain rfl : cs.2.2 = cA := Option.some.inj (e2.symm.trans e1)
  exact kk q H1 ⟨h1, h2, h3⟩
end NEW
/-! what the makers put there -/
def nz : Nat → Int32 := fun _ => 0
def nHo (t : Nat) : Nat → Int32 := fun i => if i < t then nI (i % 8) else 0
def nFl (f : Nat → Int32) (t : Nat) (x : Int32) : Nat → Int32 := fun i => if i < t then x else f i
theorem nHo_0 : (fun _ => 0 : Nat → Int32) = nHo 0 := funext fun i => (if_neg (Nat.not_lt_zero i)).symm
theorem nFl_0 (f : Nat → Int32) (x : Int32) : f = nFl f 0 x := funext fun i => (if_neg (Nat.not_lt_zero i)).symm
theorem nHo_s (t : Nat) : upd (nHo t) t (nI (t % 8)) = nHo (t + 1) := funext fun i => by
  unfold upd nHo
  by_cases h : i = t
  · subst h
    simp
  · simp only [h, if_false]
    by_cases h2 : i < t
    · rw [if_pos h2, if_pos (by omega)]
    · rw [if_neg h2, if_neg (by omega)]
theorem nFl_s (f : Nat → Int32) (t : Nat) (x : Int32) : upd (nFl f t x) t x = nFl f (t + 1) x := funext fun i => by
  unfold upd nFl
  by_cases h : i = t
  · subst h
    simp
  · simp only [h, if_false]
    by_cases h2 : i < t
    · rw [if_pos h2, if_pos (by omega)]
    · rw [if_neg h2, if_neg (by omega)]
