/-! THE CLAIM OUT OF ONE WALK OF THE LAW'S BODY. Your part is whole_start (and what it stands on); all else here is the same for every law, but numbers. -/
def R_law : String := "TwiceStolenLaw"
def lw_P (b : Addr) (xs : List Int32) (args : Array Value) (s : State) : Prop := args = #[.ref b] ∧ s.IntsAt b xs ∧ xs.length ≤ 384 ∧ (Jvm.Cond.and given_1 narrow_1).before args s = true
def lw_Q (_ : Array Value) (s : State) (o : Outcome) (t : State) : Prop := o = .returned (some (.int 1)) ∧ Framed s o t [] 96 9673
def lw_Z (below : List Frame) (a : Array Value) (s : State) : State → Prop := fun t => ∃ o, t.status = .running ∧ Ended t below o ∧ lw_Q a s o t
/-- the law's own end, with 1 on the stack, nothing written that was there before, its room as the claim has it -/
theorem lw_ret {p : Program} {l : Launch} {e : Env} {s : State} {m : MethodId} {below : List Frame} {meth : Method} {c : Code} {b : Nat} (hx : p.tables.exec = Jvm.exec) (hb : c.code = code) (hr : meth.sig.returnType = ret) (hlocks : meth.locks = false) {pc : Nat} {H : Heap} {ls : Array Slot} (hdg : decode code pc = .ok (.ireturn, 1)) : W p l e room_1 s m #[Value.ref b] below meth c H [] 96 9673 (lw_Z below #[Value.ref b] s) (F0 m pc ls [.int 1]) := by
  intro T hT X
  obtain ⟨fs, hret, hrun, hended, hW, hframe⟩ := X.leave (v := some (.int 1)) (hlocks := hlocks) (fun h => by rw [hr] at h; cases h)
  have hmeth' : T.vm.method? m = some meth := X.method'
  refine ⟨T.setFrames fs, ?_, .returned (some (.int 1)), hrun, hended, rfl, ⟨_, rfl⟩, hW, hframe⟩
  jvm_step X.here [X.here.top, hx, hb, hdg, hmeth', hr, ret, narrow_b1]
  (try refine ⟨rfl, ?_⟩); (try refine ⟨rfl, ?_⟩)
  first | (intro acts; rw [hret _ acts rfl rfl rfl]) | rw [hret _ _ rfl rfl rfl]
  exact Steps.refl _
/-- what holds at the law's entry: the machine, the code, the tables' words (any of lw_tbl by 'hts w (by decide +kernel)'), the script of L ints xs at the cell b, what the Statement gives of the start (any of its parts by flat_of_before) -/
def lw_At (p : Program) (s : State) (m : MethodId) (meth : Method) (c : Code) (b L : Nat) (xs : Nat → Int32) : Prop :=
  p.tables.exec = Jvm.exec ∧ c.code = code ∧ meth.sig.returnType = ret ∧ c.maxLocals = 4 ∧ s.vm.findClass R_law = some m.cls ∧ (∀ w ∈ lw_tbl, w.before #[Value.ref b] s = true) ∧ va_X b L xs s s.heap ∧ b < s.heap.size ∧ meth.locks = false ∧ (Jvm.Cond.and given_1 narrow_1).before #[Value.ref b] s = true
section LW
variable {p : Program} {l : Launch} {e : Env} {s : State} {m : MethodId} {below : List Frame} {meth : Method} {c : Code} {A : Nat → Prop} {H : Heap} {locs : List Loc} {Q : State → Prop} {ls : Array Slot} {rest : List Value} {b L i : Nat} {xs : Nat → Int32} {G : uG} {M : uM} {z : sT}
theorem lw_rd {R : Room} {args : Array Value} {cells slots pc : Nat} {lv : List (Nat × Value)} {k : Nat} {n : Int} (hexec : p.tables.exec = Jvm.exec) (hb : c.code = cL_law) (hX : va_X b L xs s s.heap) (hbl : b < s.heap.size) (hbA : ¬ A b) (hS : va_S A s.heap H locs) (hl : lv_has ls 4 lv) (e0 : lv[3]? = some (0, .ref b)) (e3 : lv[0]? = some (3, .int (nI i))) (d0 : decode cL_law pc = .ok (.aload_n 0, 1)) (d1 : decode cL_law (pc + 1) = .ok (.iload_n 3, 1)) (d2 : decode cL_law (pc + 1 + 1) = .ok (.iconst n, 1)) (hn : Int32.ofInt n = nI k) (d3 : decode cL_law (pc + 1 + 1 + 1) = .ok (.iadd, 1)) (d4 : decode cL_law (pc + 1 + 1 + 1 + 1) = .ok (.iaload, 1)) (hi : i + k < L) (hL : L ≤ 384)
    (kk : W p l e R s m args below meth c H locs cells slots Q (F0 m (pc + 5) ls (.int (xs (i + k)) :: rest))) : W p l e R s m args below meth c H locs cells slots Q (F0 m pc ls rest) := by
  refine lv_aload_n hexec hb d0 rfl (lv_at hl 3 e0) ?_
  refine lv_iload_n hexec hb d1 rfl (lv_at hl 0 e3) ?_
  refine lv_iconst hexec hb d2 hn ?_
  refine lv_iadd hexec hb d3 ?_
  rw [nI_add]
  refine va_sld hexec hb hX hbl hbA hS (vp_in_nI hi (by omega)) d4 ?_
  rw [nI_clamp (show i + k < 2 ^ 31 by omega)]
  exact kk
theorem k_thing (S : CallFix p m c cL_law 4 s #[Value.ref b] lw_tbl RL) (hK : va_K G.1 vwCl (uTy G) s) (hA : ∀ q, s.heap.size ≤ q → A q) (hX : va_X b L xs s s.heap) (hbl : b < s.heap.size) (hbA : ¬ A b) (hL : L ≤ 384) (Z : uZ G A M s.heap H locs) (hc : cI M z) (hr : rI M z) (ho : oI z) (hi : i + 6 ≤ L) (hl : lv_has ls 4 [(3, .int (nI i)), (2, .ref (G.2.2 71)), (1, .ref (G.2.2 0)), (0, .ref b)])
    (kk : ∀ (M2 : uM) (z2 : sT) (H2 : Heap) (locs2 : List Loc), uZ G A M2 s.heap H2 locs2 → cI M2 z2 → rI M2 z2 → oI z2 → W p l e room_1 s m #[Value.ref b] below meth c H2 locs2 96 9673 Q (F0 m 1018 ls [])) : W p l e room_1 s m #[Value.ref b] below meth c H locs 96 9673 Q (F0 m 152 ls []) := by
  refine lv_aload_n S.1 S.2.1 dL_law_152 rfl (lv_at hl 2 rfl) ?_
  refine lw_rd (k := 1) S.1 S.2.1 hX hbl hbA Z.2.2 hl rfl rfl dL_law_153 dL_law_154 dL_law_155 (by decide) dL_law_156 dL_law_157 (by omega) hL ?_
  refine lw_rd (k := 2) S.1 S.2.1 hX hbl hbA Z.2.2 hl rfl rfl dL_law_158 dL_law_159 dL_law_160 (by decide) dL_law_161 dL_law_162 (by omega) hL ?_
  refine lw_rd (k := 3) S.1 S.2.1 hX hbl hbA Z.2.2 hl rfl rfl dL_law_163 dL_law_164 dL_law_165 (by decide) dL_law_166 dL_law_167 (by omega) hL ?_
  refine lw_rd (k := 4) S.1 S.2.1 hX hbl hbA Z.2.2 hl rfl rfl dL_law_168 dL_law_169 dL_law_170 (by decide) dL_law_171 dL_law_172 (by omega) hL ?_
  refine lw_rd (k := 5) S.1 S.2.1 hX hbl hbA Z.2.2 hl rfl rfl dL_law_173 dL_law_174 dL_law_175 (by decide) dL_law_176 dL_law_177 (by omega) hL ?_
  refine uc_Vi (As := [.int (xs (i + 1)), .int (xs (i + 2)), .int (xs (i + 3)), .int (xs (i + 4)), .int (xs (i + 5))]) (rest := []) S hK hA Z (xc_thing l G M z _ _ _ _ _ hc ho) (cwV 5 S.2.2.2.2 gL_X11_thing rfl rfl rfl (by decide +kernel) ⟨Nat.le_of_ble_eq_true rfl, Nat.le_of_ble_eq_true rfl⟩) (by decide) rfl rfl rfl hl.1 rfl (Nat.le_of_ble_eq_true rfl) dL_law_178 ⟨Nat.le_of_ble_eq_true rfl, Nat.le_of_ble_eq_true rfl⟩ (fun r1 M1 H locs hp Z => ?_)
  obtain ⟨z1, p1, hc1, s1⟩ := hp
  refine lv_aload_n S.1 S.2.1 dL_law_181 rfl (lv_at hl 1 rfl) ?_
  refine lw_rd (k := 1) S.1 S.2.1 hX hbl hbA Z.2.2 hl rfl rfl dL_law_182 dL_law_183 dL_law_184 (by decide) dL_law_185 dL_law_186 (by omega) hL ?_
  refine lw_rd (k := 2) S.1 S.2.1 hX hbl hbA Z.2.2 hl rfl rfl dL_law_187 dL_law_188 dL_law_189 (by decide) dL_law_190 dL_law_191 (by omega) hL ?_
  refine lw_rd (k := 3) S.1 S.2.1 hX hbl hbA Z.2.2 hl rfl rfl dL_law_192 dL_law_193 dL_law_194 (by decide) dL_law_195 dL_law_196 (by omega) hL ?_
  refine lw_rd (k := 4) S.1 S.2.1 hX hbl hbA Z.2.2 hl rfl rfl dL_law_197 dL_law_198 dL_law_199 (by decide) dL_law_200 dL_law_201 (by omega) hL ?_
  refine lw_rd (k := 5) S.1 S.2.1 hX hbl hbA Z.2.2 hl rfl rfl dL_law_202 dL_law_203 dL_law_204 (by decide) dL_law_205 dL_law_206 (by omega) hL ?_
  refine uc_Vi (As := [.int (xs (i + 1)), .int (xs (i + 2)), .int (xs (i + 3)), .int (xs (i + 4)), .int (xs (i + 5))]) (rest := [.int r1]) S hK hA Z (xr_thing l G M1 z _ _ _ _ _ (rI_hi s1 hr) ho) (cwV 5 S.2.2.2.2 gL_X12_thing rfl rfl rfl (by decide +kernel) ⟨Nat.le_of_ble_eq_true rfl, Nat.le_of_ble_eq_true rfl⟩) (by decide) rfl rfl rfl hl.1 rfl (Nat.le_of_ble_eq_true rfl) dL_law_207 ⟨Nat.le_of_ble_eq_true rfl, Nat.le_of_ble_eq_true rfl⟩ (fun r2 M2 H locs hp Z => ?_)
  obtain ⟨z2, p2, hr2, s2⟩ := hp
  obtain ⟨e1, e2⟩ := xu_thing p1 p2
  exact lv_icmp_eq (tgt := 1018) S.1 S.2.1 dL_law_210 (by decide) (fun _ => kk M2 z1 H locs Z (cI_lo s2 hc1) (by rw [e2]; exact hr2) (xo_thing ho p1)) (fun h => absurd e1 h)
theorem k_one (S : CallFix p m c cL_law 4 s #[Value.ref b] lw_tbl RL) (hK : va_K G.1 vwCl (uTy G) s) (hA : ∀ q, s.heap.size ≤ q → A q) (hX : va_X b L xs s s.heap) (hbl : b < s.heap.size) (hbA : ¬ A b) (hL : L ≤ 384) (Z : uZ G A M s.heap H locs) (hc : cI M z) (hr : rI M z) (ho : oI z) (hi : i + 6 ≤ L) (hl : lv_has ls 4 [(3, .int (nI i)), (2, .ref (G.2.2 71)), (1, .ref (G.2.2 0)), (0, .ref b)])
    (kk : ∀ (M2 : uM) (z2 : sT) (H2 : Heap) (locs2 : List Loc), uZ G A M2 s.heap H2 locs2 → cI M2 z2 → rI M2 z2 → oI z2 → W p l e room_1 s m #[Value.ref b] below meth c H2 locs2 96 9673 Q (F0 m 1018 ls [])) : W p l e room_1 s m #[Value.ref b] below meth c H locs 96 9673 Q (F0 m 215 ls []) := by
  refine lv_aload_n S.1 S.2.1 dL_law_215 rfl (lv_at hl 2 rfl) ?_
  refine lw_rd (k := 1) S.1 S.2.1 hX hbl hbA Z.2.2 hl rfl rfl dL_law_216 dL_law_217 dL_law_218 (by decide) dL_law_219 dL_law_220 (by omega) hL ?_
  refine lw_rd (k := 2) S.1 S.2.1 hX hbl hbA Z.2.2 hl rfl rfl dL_law_221 dL_law_222 dL_law_223 (by decide) dL_law_224 dL_law_225 (by omega) hL ?_
  refine lw_rd (k := 3) S.1 S.2.1 hX hbl hbA Z.2.2 hl rfl rfl dL_law_226 dL_law_227 dL_law_228 (by decide) dL_law_229 dL_law_230 (by omega) hL ?_
  refine uc_Vi (As := [.int (xs (i + 1)), .int (xs (i + 2)), .int (xs (i + 3))]) (rest := []) S hK hA Z (xc_one l G M z _ _ _ hc ho) (cwV 3 S.2.2.2.2 gL_X11_one rfl rfl rfl (by decide +kernel) ⟨Nat.le_of_ble_eq_true rfl, Nat.le_of_ble_eq_true rfl⟩) (by decide) rfl rfl rfl hl.1 rfl (Nat.le_of_ble_eq_true rfl) dL_law_231 ⟨Nat.le_of_ble_eq_true rfl, Nat.le_of_ble_eq_true rfl⟩ (fun r1 M1 H locs hp Z => ?_)
  obtain ⟨z1, p1, hc1, s1⟩ := hp
  refine lv_aload_n S.1 S.2.1 dL_law_234 rfl (lv_at hl 1 rfl) ?_
  refine lw_rd (k := 1) S.1 S.2.1 hX hbl hbA Z.2.2 hl rfl rfl dL_law_235 dL_law_236 dL_law_237 (by decide) dL_law_238 dL_law_239 (by omega) hL ?_
  refine lw_rd (k := 2) S.1 S.2.1 hX hbl hbA Z.2.2 hl rfl rfl dL_law_240 dL_law_241 dL_law_242 (by decide) dL_law_243 dL_law_244 (by omega) hL ?_
  refine lw_rd (k := 3) S.1 S.2.1 hX hbl hbA Z.2.2 hl rfl rfl dL_law_245 dL_law_246 dL_law_247 (by decide) dL_law_248 dL_law_249 (by omega) hL ?_
  refine uc_Vi (As := [.int (xs (i + 1)), .int (xs (i + 2)), .int (xs (i + 3))]) (rest := [.int r1]) S hK hA Z (xr_one l G M1 z _ _ _ (rI_hi s1 hr) ho) (cwV 3 S.2.2.2.2 gL_X12_one rfl rfl rfl (by decide +kernel) ⟨Nat.le_of_ble_eq_true rfl, Nat.le_of_ble_eq_true rfl⟩) (by decide) rfl rfl rfl hl.1 rfl (Nat.le_of_ble_eq_true rfl) dL_law_250 ⟨Nat.le_of_ble_eq_true rfl, Nat.le_of_ble_eq_true rfl⟩ (fun r2 M2 H locs hp Z => ?_)
  obtain ⟨z2, p2, hr2, s2⟩ := hp
  obtain ⟨e1, e2⟩ := xu_one p1 p2
  exact lv_icmp_eq (tgt := 1018) S.1 S.2.1 dL_law_253 (by decide) (fun _ => kk M2 z1 H locs Z (cI_lo s2 hc1) (by rw [e2]; exact hr2) (xo_one ho p1)) (fun h => absurd e1 h)
theorem k_brothers (S : CallFix p m c cL_law 4 s #[Value.ref b] lw_tbl RL) (hK : va_K G.1 vwCl (uTy G) s) (hA : ∀ q, s.heap.size ≤ q → A q) (hX : va_X b L xs s s.heap) (hbl : b < s.heap.size) (hbA : ¬ A b) (hL : L ≤ 384) (Z : uZ G A M s.heap H locs) (hc : cI M z) (hr : rI M z) (ho : oI z) (hi : i + 6 ≤ L) (hl : lv_has ls 4 [(3, .int (nI i)), (2, .ref (G.2.2 71)), (1, .ref (G.2.2 0)), (0, .ref b)])
    (kk : ∀ (M2 : uM) (z2 : sT) (H2 : Heap) (locs2 : List Loc), uZ G A M2 s.heap H2 locs2 → cI M2 z2 → rI M2 z2 → oI z2 → W p l e room_1 s m #[Value.ref b] below meth c H2 locs2 96 9673 Q (F0 m 1018 ls [])) : W p l e room_1 s m #[Value.ref b] below meth c H locs 96 9673 Q (F0 m 258 ls []) := by
  refine lv_aload_n S.1 S.2.1 dL_law_258 rfl (lv_at hl 2 rfl) ?_
  refine lw_rd (k := 1) S.1 S.2.1 hX hbl hbA Z.2.2 hl rfl rfl dL_law_259 dL_law_260 dL_law_261 (by decide) dL_law_262 dL_law_263 (by omega) hL ?_
  refine lw_rd (k := 2) S.1 S.2.1 hX hbl hbA Z.2.2 hl rfl rfl dL_law_264 dL_law_265 dL_law_266 (by decide) dL_law_267 dL_law_268 (by omega) hL ?_
  refine lw_rd (k := 3) S.1 S.2.1 hX hbl hbA Z.2.2 hl rfl rfl dL_law_269 dL_law_270 dL_law_271 (by decide) dL_law_272 dL_law_273 (by omega) hL ?_
  refine lv_if_eq (tgt := 281) S.1 S.2.1 dL_law_274 (by decide) (fun c1 => ?_) (fun c1 => ?_)
  · refine lv_iconst (v := 0) S.1 S.2.1 dL_law_281 (by decide) ?_
    refine uc_Vi (As := [.int (xs (i + 1)), .int (xs (i + 2)), .int 0]) (rest := []) S hK hA Z (xc_brothers0 l G M z _ _ hc ho) (cwV 3 S.2.2.2.2 gL_X11_brothers rfl rfl rfl (by decide +kernel) ⟨Nat.le_of_ble_eq_true rfl, Nat.le_of_ble_eq_true rfl⟩) (by decide) rfl rfl rfl hl.1 rfl (Nat.le_of_ble_eq_true rfl) dL_law_282 ⟨Nat.le_of_ble_eq_true rfl, Nat.le_of_ble_eq_true rfl⟩ (fun r1 M1 H locs hp Z => ?_)
    obtain ⟨z1, p1, hc1, s1⟩ := hp
    refine lv_aload_n S.1 S.2.1 dL_law_285 rfl (lv_at hl 1 rfl) ?_
    refine lw_rd (k := 1) S.1 S.2.1 hX hbl hbA Z.2.2 hl rfl rfl dL_law_286 dL_law_287 dL_law_288 (by decide) dL_law_289 dL_law_290 (by omega) hL ?_
    refine lw_rd (k := 2) S.1 S.2.1 hX hbl hbA Z.2.2 hl rfl rfl dL_law_291 dL_law_292 dL_law_293 (by decide) dL_law_294 dL_law_295 (by omega) hL ?_
    refine lw_rd (k := 3) S.1 S.2.1 hX hbl hbA Z.2.2 hl rfl rfl dL_law_296 dL_law_297 dL_law_298 (by decide) dL_law_299 dL_law_300 (by omega) hL ?_
    refine lv_if_eq (tgt := 308) S.1 S.2.1 dL_law_301 (by decide) (fun c2 => ?_) (fun c2 => ?_)
    rotate_left
    · exact absurd c1 c2
    refine lv_iconst (v := 0) S.1 S.2.1 dL_law_308 (by decide) ?_
    refine uc_Vi (As := [.int (xs (i + 1)), .int (xs (i + 2)), .int 0]) (rest := [.int r1]) S hK hA Z (xr_brothers0 l G M1 z _ _ (rI_hi s1 hr) ho) (cwV 3 S.2.2.2.2 gL_X12_brothers rfl rfl rfl (by decide +kernel) ⟨Nat.le_of_ble_eq_true rfl, Nat.le_of_ble_eq_true rfl⟩) (by decide) rfl rfl rfl hl.1 rfl (Nat.le_of_ble_eq_true rfl) dL_law_309 ⟨Nat.le_of_ble_eq_true rfl, Nat.le_of_ble_eq_true rfl⟩ (fun r2 M2 H locs hp Z => ?_)
    obtain ⟨z2, p2, hr2, s2⟩ := hp
    obtain ⟨e1, e2⟩ := xu_brothers0 p1 p2
    exact lv_icmp_eq (tgt := 1018) S.1 S.2.1 dL_law_312 (by decide) (fun _ => kk M2 z1 H locs Z (cI_lo s2 hc1) (by rw [e2]; exact hr2) (xo_brothers0 ho p1)) (fun h => absurd e1 h)
  · refine lv_iconst (v := 1) S.1 S.2.1 dL_law_277 (by decide) ?_
    refine lv_goto (tgt := 282) S.1 S.2.1 dL_law_278 (by decide) ?_
    refine uc_Vi (As := [.int (xs (i + 1)), .int (xs (i + 2)), .int 1]) (rest := []) S hK hA Z (xc_brothers1 l G M z _ _ hc ho) (cwV 3 S.2.2.2.2 gL_X11_brothers rfl rfl rfl (by decide +kernel) ⟨Nat.le_of_ble_eq_true rfl, Nat.le_of_ble_eq_true rfl⟩) (by decide) rfl rfl rfl hl.1 rfl (Nat.le_of_ble_eq_true rfl) dL_law_282 ⟨Nat.le_of_ble_eq_true rfl, Nat.le_of_ble_eq_true rfl⟩ (fun r1 M1 H locs hp Z => ?_)
    obtain ⟨z1, p1, hc1, s1⟩ := hp
    refine lv_aload_n S.1 S.2.1 dL_law_285 rfl (lv_at hl 1 rfl) ?_
    refine lw_rd (k := 1) S.1 S.2.1 hX hbl hbA Z.2.2 hl rfl rfl dL_law_286 dL_law_287 dL_law_288 (by decide) dL_law_289 dL_law_290 (by omega) hL ?_
    refine lw_rd (k := 2) S.1 S.2.1 hX hbl hbA Z.2.2 hl rfl rfl dL_law_291 dL_law_292 dL_law_293 (by decide) dL_law_294 dL_law_295 (by omega) hL ?_
    refine lw_rd (k := 3) S.1 S.2.1 hX hbl hbA Z.2.2 hl rfl rfl dL_law_296 dL_law_297 dL_law_298 (by decide) dL_law_299 dL_law_300 (by omega) hL ?_
    refine lv_if_eq (tgt := 308) S.1 S.2.1 dL_law_301 (by decide) (fun c2 => ?_) (fun c2 => ?_)
    · exact absurd c2 c1
    refine lv_iconst (v := 1) S.1 S.2.1 dL_law_304 (by decide) ?_
    refine lv_goto (tgt := 309) S.1 S.2.1 dL_law_305 (by decide) ?_
    refine uc_Vi (As := [.int (xs (i + 1)), .int (xs (i + 2)), .int 1]) (rest := [.int r1]) S hK hA Z (xr_brothers1 l G M1 z _ _ (rI_hi s1 hr) ho) (cwV 3 S.2.2.2.2 gL_X12_brothers rfl rfl rfl (by decide +kernel) ⟨Nat.le_of_ble_eq_true rfl, Nat.le_of_ble_eq_true rfl⟩) (by decide) rfl rfl rfl hl.1 rfl (Nat.le_of_ble_eq_true rfl) dL_law_309 ⟨Nat.le_of_ble_eq_true rfl, Nat.le_of_ble_eq_true rfl⟩ (fun r2 M2 H locs hp Z => ?_)
    obtain ⟨z2, p2, hr2, s2⟩ := hp
    obtain ⟨e1, e2⟩ := xu_brothers1 p1 p2
    exact lv_icmp_eq (tgt := 1018) S.1 S.2.1 dL_law_312 (by decide) (fun _ => kk M2 z1 H locs Z (cI_lo s2 hc1) (by rw [e2]; exact hr2) (xo_brothers1 ho p1)) (fun h => absurd e1 h)
theorem k_say (S : CallFix p m c cL_law 4 s #[Value.ref b] lw_tbl RL) (hK : va_K G.1 vwCl (uTy G) s) (hA : ∀ q, s.heap.size ≤ q → A q) (hX : va_X b L xs s s.heap) (hbl : b < s.heap.size) (hbA : ¬ A b) (hL : L ≤ 384) (Z : uZ G A M s.heap H locs) (hc : cI M z) (hr : rI M z) (ho : oI z) (hi : i + 6 ≤ L) (hl : lv_has ls 4 [(3, .int (nI i)), (2, .ref (G.2.2 71)), (1, .ref (G.2.2 0)), (0, .ref b)])
    (kk : ∀ (M2 : uM) (z2 : sT) (H2 : Heap) (locs2 : List Loc), uZ G A M2 s.heap H2 locs2 → cI M2 z2 → rI M2 z2 → oI z2 → W p l e room_1 s m #[Value.ref b] below meth c H2 locs2 96 9673 Q (F0 m 1018 ls [])) : W p l e room_1 s m #[Value.ref b] below meth c H locs 96 9673 Q (F0 m 317 ls []) := by
  refine lv_aload_n S.1 S.2.1 dL_law_317 rfl (lv_at hl 2 rfl) ?_
  refine lw_rd (k := 1) S.1 S.2.1 hX hbl hbA Z.2.2 hl rfl rfl dL_law_318 dL_law_319 dL_law_320 (by decide) dL_law_321 dL_law_322 (by omega) hL ?_
  refine uc_Vi (As := [.int (xs (i + 1))]) (rest := []) S hK hA Z (xc_say l G M z _ hc ho) (cwV 1 S.2.2.2.2 gL_X11_say rfl rfl rfl (by decide +kernel) ⟨Nat.le_of_ble_eq_true rfl, Nat.le_of_ble_eq_true rfl⟩) (by decide) rfl rfl rfl hl.1 rfl (Nat.le_of_ble_eq_true rfl) dL_law_323 ⟨Nat.le_of_ble_eq_true rfl, Nat.le_of_ble_eq_true rfl⟩ (fun r1 M1 H locs hp Z => ?_)
  obtain ⟨z1, p1, hc1, s1⟩ := hp
  refine lv_aload_n S.1 S.2.1 dL_law_326 rfl (lv_at hl 1 rfl) ?_
  refine lw_rd (k := 1) S.1 S.2.1 hX hbl hbA Z.2.2 hl rfl rfl dL_law_327 dL_law_328 dL_law_329 (by decide) dL_law_330 dL_law_331 (by omega) hL ?_
  refine uc_Vi (As := [.int (xs (i + 1))]) (rest := [.int r1]) S hK hA Z (xr_say l G M1 z _ (rI_hi s1 hr) ho) (cwV 1 S.2.2.2.2 gL_X12_say rfl rfl rfl (by decide +kernel) ⟨Nat.le_of_ble_eq_true rfl, Nat.le_of_ble_eq_true rfl⟩) (by decide) rfl rfl rfl hl.1 rfl (Nat.le_of_ble_eq_true rfl) dL_law_332 ⟨Nat.le_of_ble_eq_true rfl, Nat.le_of_ble_eq_true rfl⟩ (fun r2 M2 H locs hp Z => ?_)
  obtain ⟨z2, p2, hr2, s2⟩ := hp
  obtain ⟨e1, e2⟩ := xu_say p1 p2
  exact lv_icmp_eq (tgt := 1018) S.1 S.2.1 dL_law_335 (by decide) (fun _ => kk M2 z1 H locs Z (cI_lo s2 hc1) (by rw [e2]; exact hr2) (xo_say ho p1)) (fun h => absurd e1 h)
theorem k_wipe (S : CallFix p m c cL_law 4 s #[Value.ref b] lw_tbl RL) (hK : va_K G.1 vwCl (uTy G) s) (hA : ∀ q, s.heap.size ≤ q → A q) (hX : va_X b L xs s s.heap) (hbl : b < s.heap.size) (hbA : ¬ A b) (hL : L ≤ 384) (Z : uZ G A M s.heap H locs) (hc : cI M z) (hr : rI M z) (ho : oI z) (hi : i + 6 ≤ L) (hl : lv_has ls 4 [(3, .int (nI i)), (2, .ref (G.2.2 71)), (1, .ref (G.2.2 0)), (0, .ref b)])
    (kk : ∀ (M2 : uM) (z2 : sT) (H2 : Heap) (locs2 : List Loc), uZ G A M2 s.heap H2 locs2 → cI M2 z2 → rI M2 z2 → oI z2 → W p l e room_1 s m #[Value.ref b] below meth c H2 locs2 96 9673 Q (F0 m 1018 ls [])) : W p l e room_1 s m #[Value.ref b] below meth c H locs 96 9673 Q (F0 m 340 ls []) := by
  refine lv_aload_n S.1 S.2.1 dL_law_340 rfl (lv_at hl 2 rfl) ?_
  refine uc_Vi (As := []) (rest := []) S hK hA Z (xc_wipe l G M z hc ho) (cwV 0 S.2.2.2.2 gL_X11_wipe rfl rfl rfl (by decide +kernel) ⟨Nat.le_of_ble_eq_true rfl, Nat.le_of_ble_eq_true rfl⟩) (by decide) rfl rfl rfl hl.1 rfl (Nat.le_of_ble_eq_true rfl) dL_law_341 ⟨Nat.le_of_ble_eq_true rfl, Nat.le_of_ble_eq_true rfl⟩ (fun r1 M1 H locs hp Z => ?_)
  obtain ⟨z1, p1, hc1, s1⟩ := hp
  refine lv_aload_n S.1 S.2.1 dL_law_344 rfl (lv_at hl 1 rfl) ?_
  refine uc_Vi (As := []) (rest := [.int r1]) S hK hA Z (xr_wipe l G M1 z (rI_hi s1 hr) ho) (cwV 0 S.2.2.2.2 gL_X12_wipe rfl rfl rfl (by decide +kernel) ⟨Nat.le_of_ble_eq_true rfl, Nat.le_of_ble_eq_true rfl⟩) (by decide) rfl rfl rfl hl.1 rfl (Nat.le_of_ble_eq_true rfl) dL_law_345 ⟨Nat.le_of_ble_eq_true rfl, Nat.le_of_ble_eq_true rfl⟩ (fun r2 M2 H locs hp Z => ?_)
  obtain ⟨z2, p2, hr2, s2⟩ := hp
  obtain ⟨e1, e2⟩ := xu_wipe p1 p2
  exact lv_icmp_eq (tgt := 1018) S.1 S.2.1 dL_law_348 (by decide) (fun _ => kk M2 z1 H locs Z (cI_lo s2 hc1) (by rw [e2]; exact hr2) (xo_wipe ho p1)) (fun h => absurd e1 h)
theorem k_fault (S : CallFix p m c cL_law 4 s #[Value.ref b] lw_tbl RL) (hK : va_K G.1 vwCl (uTy G) s) (hA : ∀ q, s.heap.size ≤ q → A q) (hX : va_X b L xs s s.heap) (hbl : b < s.heap.size) (hbA : ¬ A b) (hL : L ≤ 384) (Z : uZ G A M s.heap H locs) (hc : cI M z) (hr : rI M z) (ho : oI z) (hi : i + 6 ≤ L) (hl : lv_has ls 4 [(3, .int (nI i)), (2, .ref (G.2.2 71)), (1, .ref (G.2.2 0)), (0, .ref b)])
    (kk : ∀ (M2 : uM) (z2 : sT) (H2 : Heap) (locs2 : List Loc), uZ G A M2 s.heap H2 locs2 → cI M2 z2 → rI M2 z2 → oI z2 → W p l e room_1 s m #[Value.ref b] below meth c H2 locs2 96 9673 Q (F0 m 1018 ls [])) : W p l e room_1 s m #[Value.ref b] below meth c H locs 96 9673 Q (F0 m 353 ls []) := by
  refine lv_aload_n S.1 S.2.1 dL_law_353 rfl (lv_at hl 2 rfl) ?_
  refine uc_Vi (As := []) (rest := []) S hK hA Z (xc_fault l G M z hc ho) (cwV 0 S.2.2.2.2 gL_X11_fault rfl rfl rfl (by decide +kernel) ⟨Nat.le_of_ble_eq_true rfl, Nat.le_of_ble_eq_true rfl⟩) (by decide) rfl rfl rfl hl.1 rfl (Nat.le_of_ble_eq_true rfl) dL_law_354 ⟨Nat.le_of_ble_eq_true rfl, Nat.le_of_ble_eq_true rfl⟩ (fun r1 M1 H locs hp Z => ?_)
  obtain ⟨z1, p1, hc1, s1⟩ := hp
  refine lv_aload_n S.1 S.2.1 dL_law_357 rfl (lv_at hl 1 rfl) ?_
  refine uc_Vi (As := []) (rest := [.int r1]) S hK hA Z (xr_fault l G M1 z (rI_hi s1 hr) ho) (cwV 0 S.2.2.2.2 gL_X12_fault rfl rfl rfl (by decide +kernel) ⟨Nat.le_of_ble_eq_true rfl, Nat.le_of_ble_eq_true rfl⟩) (by decide) rfl rfl rfl hl.1 rfl (Nat.le_of_ble_eq_true rfl) dL_law_358 ⟨Nat.le_of_ble_eq_true rfl, Nat.le_of_ble_eq_true rfl⟩ (fun r2 M2 H locs hp Z => ?_)
  obtain ⟨z2, p2, hr2, s2⟩ := hp
  obtain ⟨e1, e2⟩ := xu_fault p1 p2
  exact lv_icmp_eq (tgt := 1018) S.1 S.2.1 dL_law_361 (by decide) (fun _ => kk M2 z1 H locs Z (cI_lo s2 hc1) (by rw [e2]; exact hr2) (xo_fault ho p1)) (fun h => absurd e1 h)
theorem k_judge (S : CallFix p m c cL_law 4 s #[Value.ref b] lw_tbl RL) (hK : va_K G.1 vwCl (uTy G) s) (hA : ∀ q, s.heap.size ≤ q → A q) (hX : va_X b L xs s s.heap) (hbl : b < s.heap.size) (hbA : ¬ A b) (hL : L ≤ 384) (Z : uZ G A M s.heap H locs) (hc : cI M z) (hr : rI M z) (ho : oI z) (hi : i + 6 ≤ L) (hl : lv_has ls 4 [(3, .int (nI i)), (2, .ref (G.2.2 71)), (1, .ref (G.2.2 0)), (0, .ref b)])
    (kk : ∀ (M2 : uM) (z2 : sT) (H2 : Heap) (locs2 : List Loc), uZ G A M2 s.heap H2 locs2 → cI M2 z2 → rI M2 z2 → oI z2 → W p l e room_1 s m #[Value.ref b] below meth c H2 locs2 96 9673 Q (F0 m 1018 ls [])) : W p l e room_1 s m #[Value.ref b] below meth c H locs 96 9673 Q (F0 m 366 ls []) := by
  refine lv_aload_n S.1 S.2.1 dL_law_366 rfl (lv_at hl 2 rfl) ?_
  refine lw_rd (k := 1) S.1 S.2.1 hX hbl hbA Z.2.2 hl rfl rfl dL_law_367 dL_law_368 dL_law_369 (by decide) dL_law_370 dL_law_371 (by omega) hL ?_
  refine uc_Vi (As := [.int (xs (i + 1))]) (rest := []) S hK hA Z (xc_judge l G M z _ hc ho) (cwV 1 S.2.2.2.2 gL_X11_judge rfl rfl rfl (by decide +kernel) ⟨Nat.le_of_ble_eq_true rfl, Nat.le_of_ble_eq_true rfl⟩) (by decide) rfl rfl rfl hl.1 rfl (Nat.le_of_ble_eq_true rfl) dL_law_372 ⟨Nat.le_of_ble_eq_true rfl, Nat.le_of_ble_eq_true rfl⟩ (fun r1 M1 H locs hp Z => ?_)
  obtain ⟨z1, p1, hc1, s1⟩ := hp
  refine lv_aload_n S.1 S.2.1 dL_law_375 rfl (lv_at hl 1 rfl) ?_
  refine lw_rd (k := 1) S.1 S.2.1 hX hbl hbA Z.2.2 hl rfl rfl dL_law_376 dL_law_377 dL_law_378 (by decide) dL_law_379 dL_law_380 (by omega) hL ?_
  refine uc_Vi (As := [.int (xs (i + 1))]) (rest := [.int r1]) S hK hA Z (xr_judge l G M1 z _ (rI_hi s1 hr) ho) (cwV 1 S.2.2.2.2 gL_X12_judge rfl rfl rfl (by decide +kernel) ⟨Nat.le_of_ble_eq_true rfl, Nat.le_of_ble_eq_true rfl⟩) (by decide) rfl rfl rfl hl.1 rfl (Nat.le_of_ble_eq_true rfl) dL_law_381 ⟨Nat.le_of_ble_eq_true rfl, Nat.le_of_ble_eq_true rfl⟩ (fun r2 M2 H locs hp Z => ?_)
  obtain ⟨z2, p2, hr2, s2⟩ := hp
  obtain ⟨e1, e2⟩ := xu_judge p1 p2
  exact lv_icmp_eq (tgt := 1018) S.1 S.2.1 dL_law_384 (by decide) (fun _ => kk M2 z1 H locs Z (cI_lo s2 hc1) (by rw [e2]; exact hr2) (xo_judge ho p1)) (fun h => absurd e1 h)
theorem k_behind (S : CallFix p m c cL_law 4 s #[Value.ref b] lw_tbl RL) (hK : va_K G.1 vwCl (uTy G) s) (hA : ∀ q, s.heap.size ≤ q → A q) (hX : va_X b L xs s s.heap) (hbl : b < s.heap.size) (hbA : ¬ A b) (hL : L ≤ 384) (Z : uZ G A M s.heap H locs) (hc : cI M z) (hr : rI M z) (ho : oI z) (hi : i + 6 ≤ L) (hl : lv_has ls 4 [(3, .int (nI i)), (2, .ref (G.2.2 71)), (1, .ref (G.2.2 0)), (0, .ref b)])
    (kk : ∀ (M2 : uM) (z2 : sT) (H2 : Heap) (locs2 : List Loc), uZ G A M2 s.heap H2 locs2 → cI M2 z2 → rI M2 z2 → oI z2 → W p l e room_1 s m #[Value.ref b] below meth c H2 locs2 96 9673 Q (F0 m 1018 ls [])) : W p l e room_1 s m #[Value.ref b] below meth c H locs 96 9673 Q (F0 m 389 ls []) := by
  refine lv_aload_n S.1 S.2.1 dL_law_389 rfl (lv_at hl 2 rfl) ?_
  refine lw_rd (k := 1) S.1 S.2.1 hX hbl hbA Z.2.2 hl rfl rfl dL_law_390 dL_law_391 dL_law_392 (by decide) dL_law_393 dL_law_394 (by omega) hL ?_
  refine lw_rd (k := 2) S.1 S.2.1 hX hbl hbA Z.2.2 hl rfl rfl dL_law_395 dL_law_396 dL_law_397 (by decide) dL_law_398 dL_law_399 (by omega) hL ?_
  refine uc_Vi (As := [.int (xs (i + 1)), .int (xs (i + 2))]) (rest := []) S hK hA Z (xc_behind l G M z _ _ hc ho) (cwV 2 S.2.2.2.2 gL_X11_behind rfl rfl rfl (by decide +kernel) ⟨Nat.le_of_ble_eq_true rfl, Nat.le_of_ble_eq_true rfl⟩) (by decide) rfl rfl rfl hl.1 rfl (Nat.le_of_ble_eq_true rfl) dL_law_400 ⟨Nat.le_of_ble_eq_true rfl, Nat.le_of_ble_eq_true rfl⟩ (fun r1 M1 H locs hp Z => ?_)
  obtain ⟨z1, p1, hc1, s1⟩ := hp
  refine lv_aload_n S.1 S.2.1 dL_law_403 rfl (lv_at hl 1 rfl) ?_
  refine lw_rd (k := 1) S.1 S.2.1 hX hbl hbA Z.2.2 hl rfl rfl dL_law_404 dL_law_405 dL_law_406 (by decide) dL_law_407 dL_law_408 (by omega) hL ?_
  refine lw_rd (k := 2) S.1 S.2.1 hX hbl hbA Z.2.2 hl rfl rfl dL_law_409 dL_law_410 dL_law_411 (by decide) dL_law_412 dL_law_413 (by omega) hL ?_
  refine uc_Vi (As := [.int (xs (i + 1)), .int (xs (i + 2))]) (rest := [.int r1]) S hK hA Z (xr_behind l G M1 z _ _ (rI_hi s1 hr) ho) (cwV 2 S.2.2.2.2 gL_X12_behind rfl rfl rfl (by decide +kernel) ⟨Nat.le_of_ble_eq_true rfl, Nat.le_of_ble_eq_true rfl⟩) (by decide) rfl rfl rfl hl.1 rfl (Nat.le_of_ble_eq_true rfl) dL_law_414 ⟨Nat.le_of_ble_eq_true rfl, Nat.le_of_ble_eq_true rfl⟩ (fun r2 M2 H locs hp Z => ?_)
  obtain ⟨z2, p2, hr2, s2⟩ := hp
  obtain ⟨e1, e2⟩ := xu_behind p1 p2
  exact lv_icmp_eq (tgt := 1018) S.1 S.2.1 dL_law_417 (by decide) (fun _ => kk M2 z1 H locs Z (cI_lo s2 hc1) (by rw [e2]; exact hr2) (xo_behind ho p1)) (fun h => absurd e1 h)
theorem k_purse (S : CallFix p m c cL_law 4 s #[Value.ref b] lw_tbl RL) (hK : va_K G.1 vwCl (uTy G) s) (hA : ∀ q, s.heap.size ≤ q → A q) (hX : va_X b L xs s s.heap) (hbl : b < s.heap.size) (hbA : ¬ A b) (hL : L ≤ 384) (Z : uZ G A M s.heap H locs) (hc : cI M z) (hr : rI M z) (ho : oI z) (hi : i + 6 ≤ L) (hl : lv_has ls 4 [(3, .int (nI i)), (2, .ref (G.2.2 71)), (1, .ref (G.2.2 0)), (0, .ref b)])
    (kk : ∀ (M2 : uM) (z2 : sT) (H2 : Heap) (locs2 : List Loc), uZ G A M2 s.heap H2 locs2 → cI M2 z2 → rI M2 z2 → oI z2 → W p l e room_1 s m #[Value.ref b] below meth c H2 locs2 96 9673 Q (F0 m 1018 ls [])) : W p l e room_1 s m #[Value.ref b] below meth c H locs 96 9673 Q (F0 m 422 ls []) := by
  refine lv_aload_n S.1 S.2.1 dL_law_422 rfl (lv_at hl 2 rfl) ?_
  refine lw_rd (k := 1) S.1 S.2.1 hX hbl hbA Z.2.2 hl rfl rfl dL_law_423 dL_law_424 dL_law_425 (by decide) dL_law_426 dL_law_427 (by omega) hL ?_
  refine lw_rd (k := 2) S.1 S.2.1 hX hbl hbA Z.2.2 hl rfl rfl dL_law_428 dL_law_429 dL_law_430 (by decide) dL_law_431 dL_law_432 (by omega) hL ?_
  refine uc_Vi (As := [.int (xs (i + 1)), .int (xs (i + 2))]) (rest := []) S hK hA Z (xc_purse l G M z _ _ hc ho) (cwV 2 S.2.2.2.2 gL_X11_purse rfl rfl rfl (by decide +kernel) ⟨Nat.le_of_ble_eq_true rfl, Nat.le_of_ble_eq_true rfl⟩) (by decide) rfl rfl rfl hl.1 rfl (Nat.le_of_ble_eq_true rfl) dL_law_433 ⟨Nat.le_of_ble_eq_true rfl, Nat.le_of_ble_eq_true rfl⟩ (fun r1 M1 H locs hp Z => ?_)
  obtain ⟨z1, p1, hc1, s1⟩ := hp
  refine lv_aload_n S.1 S.2.1 dL_law_436 rfl (lv_at hl 1 rfl) ?_
  refine lw_rd (k := 1) S.1 S.2.1 hX hbl hbA Z.2.2 hl rfl rfl dL_law_437 dL_law_438 dL_law_439 (by decide) dL_law_440 dL_law_441 (by omega) hL ?_
  refine lw_rd (k := 2) S.1 S.2.1 hX hbl hbA Z.2.2 hl rfl rfl dL_law_442 dL_law_443 dL_law_444 (by decide) dL_law_445 dL_law_446 (by omega) hL ?_
  refine uc_Vi (As := [.int (xs (i + 1)), .int (xs (i + 2))]) (rest := [.int r1]) S hK hA Z (xr_purse l G M1 z _ _ (rI_hi s1 hr) ho) (cwV 2 S.2.2.2.2 gL_X12_purse rfl rfl rfl (by decide +kernel) ⟨Nat.le_of_ble_eq_true rfl, Nat.le_of_ble_eq_true rfl⟩) (by decide) rfl rfl rfl hl.1 rfl (Nat.le_of_ble_eq_true rfl) dL_law_447 ⟨Nat.le_of_ble_eq_true rfl, Nat.le_of_ble_eq_true rfl⟩ (fun r2 M2 H locs hp Z => ?_)
  obtain ⟨z2, p2, hr2, s2⟩ := hp
  obtain ⟨e1, e2⟩ := xu_purse p1 p2
  exact lv_icmp_eq (tgt := 1018) S.1 S.2.1 dL_law_450 (by decide) (fun _ => kk M2 z1 H locs Z (cI_lo s2 hc1) (by rw [e2]; exact hr2) (xo_purse ho p1)) (fun h => absurd e1 h)
theorem k_sold (S : CallFix p m c cL_law 4 s #[Value.ref b] lw_tbl RL) (hK : va_K G.1 vwCl (uTy G) s) (hA : ∀ q, s.heap.size ≤ q → A q) (hX : va_X b L xs s s.heap) (hbl : b < s.heap.size) (hbA : ¬ A b) (hL : L ≤ 384) (Z : uZ G A M s.heap H locs) (hc : cI M z) (hr : rI M z) (ho : oI z) (hi : i + 6 ≤ L) (hl : lv_has ls 4 [(3, .int (nI i)), (2, .ref (G.2.2 71)), (1, .ref (G.2.2 0)), (0, .ref b)])
    (kk : ∀ (M2 : uM) (z2 : sT) (H2 : Heap) (locs2 : List Loc), uZ G A M2 s.heap H2 locs2 → cI M2 z2 → rI M2 z2 → oI z2 → W p l e room_1 s m #[Value.ref b] below meth c H2 locs2 96 9673 Q (F0 m 1018 ls [])) : W p l e room_1 s m #[Value.ref b] below meth c H locs 96 9673 Q (F0 m 455 ls []) := by
  refine lv_aload_n S.1 S.2.1 dL_law_455 rfl (lv_at hl 2 rfl) ?_
  refine lw_rd (k := 1) S.1 S.2.1 hX hbl hbA Z.2.2 hl rfl rfl dL_law_456 dL_law_457 dL_law_458 (by decide) dL_law_459 dL_law_460 (by omega) hL ?_
  refine uc_Vi (As := [.int (xs (i + 1))]) (rest := []) S hK hA Z (xc_sold l G M z _ hc ho) (cwV 1 S.2.2.2.2 gL_X11_sold rfl rfl rfl (by decide +kernel) ⟨Nat.le_of_ble_eq_true rfl, Nat.le_of_ble_eq_true rfl⟩) (by decide) rfl rfl rfl hl.1 rfl (Nat.le_of_ble_eq_true rfl) dL_law_461 ⟨Nat.le_of_ble_eq_true rfl, Nat.le_of_ble_eq_true rfl⟩ (fun r1 M1 H locs hp Z => ?_)
  obtain ⟨z1, p1, hc1, s1⟩ := hp
  refine lv_aload_n S.1 S.2.1 dL_law_464 rfl (lv_at hl 1 rfl) ?_
  refine lw_rd (k := 1) S.1 S.2.1 hX hbl hbA Z.2.2 hl rfl rfl dL_law_465 dL_law_466 dL_law_467 (by decide) dL_law_468 dL_law_469 (by omega) hL ?_
  refine uc_Vi (As := [.int (xs (i + 1))]) (rest := [.int r1]) S hK hA Z (xr_sold l G M1 z _ (rI_hi s1 hr) ho) (cwV 1 S.2.2.2.2 gL_X12_sold rfl rfl rfl (by decide +kernel) ⟨Nat.le_of_ble_eq_true rfl, Nat.le_of_ble_eq_true rfl⟩) (by decide) rfl rfl rfl hl.1 rfl (Nat.le_of_ble_eq_true rfl) dL_law_470 ⟨Nat.le_of_ble_eq_true rfl, Nat.le_of_ble_eq_true rfl⟩ (fun r2 M2 H locs hp Z => ?_)
  obtain ⟨z2, p2, hr2, s2⟩ := hp
  obtain ⟨e1, e2⟩ := xu_sold p1 p2
  exact lv_icmp_eq (tgt := 1018) S.1 S.2.1 dL_law_473 (by decide) (fun _ => kk M2 z1 H locs Z (cI_lo s2 hc1) (by rw [e2]; exact hr2) (xo_sold ho p1)) (fun h => absurd e1 h)
theorem k_done (S : CallFix p m c cL_law 4 s #[Value.ref b] lw_tbl RL) (hK : va_K G.1 vwCl (uTy G) s) (hA : ∀ q, s.heap.size ≤ q → A q) (hX : va_X b L xs s s.heap) (hbl : b < s.heap.size) (hbA : ¬ A b) (hL : L ≤ 384) (Z : uZ G A M s.heap H locs) (hc : cI M z) (hr : rI M z) (ho : oI z) (hi : i + 6 ≤ L) (hl : lv_has ls 4 [(3, .int (nI i)), (2, .ref (G.2.2 71)), (1, .ref (G.2.2 0)), (0, .ref b)])
    (kk : ∀ (M2 : uM) (z2 : sT) (H2 : Heap) (locs2 : List Loc), uZ G A M2 s.heap H2 locs2 → cI M2 z2 → rI M2 z2 → oI z2 → W p l e room_1 s m #[Value.ref b] below meth c H2 locs2 96 9673 Q (F0 m 1018 ls [])) : W p l e room_1 s m #[Value.ref b] below meth c H locs 96 9673 Q (F0 m 478 ls []) := by
  refine lv_aload_n S.1 S.2.1 dL_law_478 rfl (lv_at hl 2 rfl) ?_
  refine uc_Vi (As := []) (rest := []) S hK hA Z (xc_done l G M z hc ho) (cwV 0 S.2.2.2.2 gL_X11_done rfl rfl rfl (by decide +kernel) ⟨Nat.le_of_ble_eq_true rfl, Nat.le_of_ble_eq_true rfl⟩) (by decide) rfl rfl rfl hl.1 rfl (Nat.le_of_ble_eq_true rfl) dL_law_479 ⟨Nat.le_of_ble_eq_true rfl, Nat.le_of_ble_eq_true rfl⟩ (fun r1 M1 H locs hp Z => ?_)
  obtain ⟨z1, p1, hc1, s1⟩ := hp
  refine lv_aload_n S.1 S.2.1 dL_law_482 rfl (lv_at hl 1 rfl) ?_
  refine uc_Vi (As := []) (rest := [.int r1]) S hK hA Z (xr_done l G M1 z (rI_hi s1 hr) ho) (cwV 0 S.2.2.2.2 gL_X12_done rfl rfl rfl (by decide +kernel) ⟨Nat.le_of_ble_eq_true rfl, Nat.le_of_ble_eq_true rfl⟩) (by decide) rfl rfl rfl hl.1 rfl (Nat.le_of_ble_eq_true rfl) dL_law_483 ⟨Nat.le_of_ble_eq_true rfl, Nat.le_of_ble_eq_true rfl⟩ (fun r2 M2 H locs hp Z => ?_)
  obtain ⟨z2, p2, hr2, s2⟩ := hp
  obtain ⟨e1, e2⟩ := xu_done p1 p2
  exact lv_icmp_eq (tgt := 1018) S.1 S.2.1 dL_law_486 (by decide) (fun _ => kk M2 z1 H locs Z (cI_lo s2 hc1) (by rw [e2]; exact hr2) (xo_done ho p1)) (fun h => absurd e1 h)
theorem k_sack (S : CallFix p m c cL_law 4 s #[Value.ref b] lw_tbl RL) (hK : va_K G.1 vwCl (uTy G) s) (hA : ∀ q, s.heap.size ≤ q → A q) (hX : va_X b L xs s s.heap) (hbl : b < s.heap.size) (hbA : ¬ A b) (hL : L ≤ 384) (Z : uZ G A M s.heap H locs) (hc : cI M z) (hr : rI M z) (ho : oI z) (hi : i + 6 ≤ L) (hl : lv_has ls 4 [(3, .int (nI i)), (2, .ref (G.2.2 71)), (1, .ref (G.2.2 0)), (0, .ref b)])
    (kk : ∀ (M2 : uM) (z2 : sT) (H2 : Heap) (locs2 : List Loc), uZ G A M2 s.heap H2 locs2 → cI M2 z2 → rI M2 z2 → oI z2 → W p l e room_1 s m #[Value.ref b] below meth c H2 locs2 96 9673 Q (F0 m 1018 ls [])) : W p l e room_1 s m #[Value.ref b] below meth c H locs 96 9673 Q (F0 m 491 ls []) := by
  refine lv_aload_n S.1 S.2.1 dL_law_491 rfl (lv_at hl 2 rfl) ?_
  refine lw_rd (k := 1) S.1 S.2.1 hX hbl hbA Z.2.2 hl rfl rfl dL_law_492 dL_law_493 dL_law_494 (by decide) dL_law_495 dL_law_496 (by omega) hL ?_
  refine lw_rd (k := 2) S.1 S.2.1 hX hbl hbA Z.2.2 hl rfl rfl dL_law_497 dL_law_498 dL_law_499 (by decide) dL_law_500 dL_law_501 (by omega) hL ?_
  refine lw_rd (k := 3) S.1 S.2.1 hX hbl hbA Z.2.2 hl rfl rfl dL_law_502 dL_law_503 dL_law_504 (by decide) dL_law_505 dL_law_506 (by omega) hL ?_
  refine uc_Vi (As := [.int (xs (i + 1)), .int (xs (i + 2)), .int (xs (i + 3))]) (rest := []) S hK hA Z (xc_sack l G M z _ _ _ hc ho) (cwV 3 S.2.2.2.2 gL_X11_sack rfl rfl rfl (by decide +kernel) ⟨Nat.le_of_ble_eq_true rfl, Nat.le_of_ble_eq_true rfl⟩) (by decide) rfl rfl rfl hl.1 rfl (Nat.le_of_ble_eq_true rfl) dL_law_507 ⟨Nat.le_of_ble_eq_true rfl, Nat.le_of_ble_eq_true rfl⟩ (fun r1 M1 H locs hp Z => ?_)
  obtain ⟨z1, p1, hc1, s1⟩ := hp
  refine lv_aload_n S.1 S.2.1 dL_law_510 rfl (lv_at hl 1 rfl) ?_
  refine lw_rd (k := 1) S.1 S.2.1 hX hbl hbA Z.2.2 hl rfl rfl dL_law_511 dL_law_512 dL_law_513 (by decide) dL_law_514 dL_law_515 (by omega) hL ?_
  refine lw_rd (k := 2) S.1 S.2.1 hX hbl hbA Z.2.2 hl rfl rfl dL_law_516 dL_law_517 dL_law_518 (by decide) dL_law_519 dL_law_520 (by omega) hL ?_
  refine lw_rd (k := 3) S.1 S.2.1 hX hbl hbA Z.2.2 hl rfl rfl dL_law_521 dL_law_522 dL_law_523 (by decide) dL_law_524 dL_law_525 (by omega) hL ?_
  refine uc_Vi (As := [.int (xs (i + 1)), .int (xs (i + 2)), .int (xs (i + 3))]) (rest := [.int r1]) S hK hA Z (xr_sack l G M1 z _ _ _ (rI_hi s1 hr) ho) (cwV 3 S.2.2.2.2 gL_X12_sack rfl rfl rfl (by decide +kernel) ⟨Nat.le_of_ble_eq_true rfl, Nat.le_of_ble_eq_true rfl⟩) (by decide) rfl rfl rfl hl.1 rfl (Nat.le_of_ble_eq_true rfl) dL_law_526 ⟨Nat.le_of_ble_eq_true rfl, Nat.le_of_ble_eq_true rfl⟩ (fun r2 M2 H locs hp Z => ?_)
  obtain ⟨z2, p2, hr2, s2⟩ := hp
  obtain ⟨e1, e2⟩ := xu_sack p1 p2
  exact lv_icmp_eq (tgt := 1018) S.1 S.2.1 dL_law_529 (by decide) (fun _ => kk M2 z1 H locs Z (cI_lo s2 hc1) (by rw [e2]; exact hr2) (xo_sack ho p1)) (fun h => absurd e1 h)
theorem k_careers (S : CallFix p m c cL_law 4 s #[Value.ref b] lw_tbl RL) (hK : va_K G.1 vwCl (uTy G) s) (hA : ∀ q, s.heap.size ≤ q → A q) (hX : va_X b L xs s s.heap) (hbl : b < s.heap.size) (hbA : ¬ A b) (hL : L ≤ 384) (Z : uZ G A M s.heap H locs) (hc : cI M z) (hr : rI M z) (ho : oI z) (hi : i + 6 ≤ L) (hl : lv_has ls 4 [(3, .int (nI i)), (2, .ref (G.2.2 71)), (1, .ref (G.2.2 0)), (0, .ref b)])
    (kk : ∀ (M2 : uM) (z2 : sT) (H2 : Heap) (locs2 : List Loc), uZ G A M2 s.heap H2 locs2 → cI M2 z2 → rI M2 z2 → oI z2 → W p l e room_1 s m #[Value.ref b] below meth c H2 locs2 96 9673 Q (F0 m 1018 ls [])) : W p l e room_1 s m #[Value.ref b] below meth c H locs 96 9673 Q (F0 m 534 ls []) := by
  refine lv_aload_n S.1 S.2.1 dL_law_534 rfl (lv_at hl 2 rfl) ?_
  refine lw_rd (k := 1) S.1 S.2.1 hX hbl hbA Z.2.2 hl rfl rfl dL_law_535 dL_law_536 dL_law_537 (by decide) dL_law_538 dL_law_539 (by omega) hL ?_
  refine lw_rd (k := 2) S.1 S.2.1 hX hbl hbA Z.2.2 hl rfl rfl dL_law_540 dL_law_541 dL_law_542 (by decide) dL_law_543 dL_law_544 (by omega) hL ?_
  refine uc_Vi (As := [.int (xs (i + 1)), .int (xs (i + 2))]) (rest := []) S hK hA Z (xc_careers l G M z _ _ hc ho) (cwV 2 S.2.2.2.2 gL_X11_careers rfl rfl rfl (by decide +kernel) ⟨Nat.le_of_ble_eq_true rfl, Nat.le_of_ble_eq_true rfl⟩) (by decide) rfl rfl rfl hl.1 rfl (Nat.le_of_ble_eq_true rfl) dL_law_545 ⟨Nat.le_of_ble_eq_true rfl, Nat.le_of_ble_eq_true rfl⟩ (fun r1 M1 H locs hp Z => ?_)
  obtain ⟨z1, p1, hc1, s1⟩ := hp
  refine lv_aload_n S.1 S.2.1 dL_law_548 rfl (lv_at hl 1 rfl) ?_
  refine lw_rd (k := 1) S.1 S.2.1 hX hbl hbA Z.2.2 hl rfl rfl dL_law_549 dL_law_550 dL_law_551 (by decide) dL_law_552 dL_law_553 (by omega) hL ?_
  refine lw_rd (k := 2) S.1 S.2.1 hX hbl hbA Z.2.2 hl rfl rfl dL_law_554 dL_law_555 dL_law_556 (by decide) dL_law_557 dL_law_558 (by omega) hL ?_
  refine uc_Vi (As := [.int (xs (i + 1)), .int (xs (i + 2))]) (rest := [.int r1]) S hK hA Z (xr_careers l G M1 z _ _ (rI_hi s1 hr) ho) (cwV 2 S.2.2.2.2 gL_X12_careers rfl rfl rfl (by decide +kernel) ⟨Nat.le_of_ble_eq_true rfl, Nat.le_of_ble_eq_true rfl⟩) (by decide) rfl rfl rfl hl.1 rfl (Nat.le_of_ble_eq_true rfl) dL_law_559 ⟨Nat.le_of_ble_eq_true rfl, Nat.le_of_ble_eq_true rfl⟩ (fun r2 M2 H locs hp Z => ?_)
  obtain ⟨z2, p2, hr2, s2⟩ := hp
  obtain ⟨e1, e2⟩ := xu_careers p1 p2
  exact lv_icmp_eq (tgt := 1018) S.1 S.2.1 dL_law_562 (by decide) (fun _ => kk M2 z1 H locs Z (cI_lo s2 hc1) (by rw [e2]; exact hr2) (xo_careers ho p1)) (fun h => absurd e1 h)
theorem k_ring (S : CallFix p m c cL_law 4 s #[Value.ref b] lw_tbl RL) (hK : va_K G.1 vwCl (uTy G) s) (hA : ∀ q, s.heap.size ≤ q → A q) (hX : va_X b L xs s s.heap) (hbl : b < s.heap.size) (hbA : ¬ A b) (hL : L ≤ 384) (Z : uZ G A M s.heap H locs) (hc : cI M z) (hr : rI M z) (ho : oI z) (hi : i + 6 ≤ L) (hl : lv_has ls 4 [(3, .int (nI i)), (2, .ref (G.2.2 71)), (1, .ref (G.2.2 0)), (0, .ref b)])
    (kk : ∀ (M2 : uM) (z2 : sT) (H2 : Heap) (locs2 : List Loc), uZ G A M2 s.heap H2 locs2 → cI M2 z2 → rI M2 z2 → oI z2 → W p l e room_1 s m #[Value.ref b] below meth c H2 locs2 96 9673 Q (F0 m 1018 ls [])) : W p l e room_1 s m #[Value.ref b] below meth c H locs 96 9673 Q (F0 m 567 ls []) := by
  refine lv_aload_n S.1 S.2.1 dL_law_567 rfl (lv_at hl 2 rfl) ?_
  refine lw_rd (k := 1) S.1 S.2.1 hX hbl hbA Z.2.2 hl rfl rfl dL_law_568 dL_law_569 dL_law_570 (by decide) dL_law_571 dL_law_572 (by omega) hL ?_
  refine lw_rd (k := 2) S.1 S.2.1 hX hbl hbA Z.2.2 hl rfl rfl dL_law_573 dL_law_574 dL_law_575 (by decide) dL_law_576 dL_law_577 (by omega) hL ?_
  refine lw_rd (k := 3) S.1 S.2.1 hX hbl hbA Z.2.2 hl rfl rfl dL_law_578 dL_law_579 dL_law_580 (by decide) dL_law_581 dL_law_582 (by omega) hL ?_
  refine lw_rd (k := 4) S.1 S.2.1 hX hbl hbA Z.2.2 hl rfl rfl dL_law_583 dL_law_584 dL_law_585 (by decide) dL_law_586 dL_law_587 (by omega) hL ?_
  refine uc_Vi (As := [.int (xs (i + 1)), .int (xs (i + 2)), .int (xs (i + 3)), .int (xs (i + 4))]) (rest := []) S hK hA Z (xc_ring l G M z _ _ _ _ hc ho) (cwV 4 S.2.2.2.2 gL_X11_ring rfl rfl rfl (by decide +kernel) ⟨Nat.le_of_ble_eq_true rfl, Nat.le_of_ble_eq_true rfl⟩) (by decide) rfl rfl rfl hl.1 rfl (Nat.le_of_ble_eq_true rfl) dL_law_588 ⟨Nat.le_of_ble_eq_true rfl, Nat.le_of_ble_eq_true rfl⟩ (fun r1 M1 H locs hp Z => ?_)
  obtain ⟨z1, p1, hc1, s1⟩ := hp
  refine lv_aload_n S.1 S.2.1 dL_law_591 rfl (lv_at hl 1 rfl) ?_
  refine lw_rd (k := 1) S.1 S.2.1 hX hbl hbA Z.2.2 hl rfl rfl dL_law_592 dL_law_593 dL_law_594 (by decide) dL_law_595 dL_law_596 (by omega) hL ?_
  refine lw_rd (k := 2) S.1 S.2.1 hX hbl hbA Z.2.2 hl rfl rfl dL_law_597 dL_law_598 dL_law_599 (by decide) dL_law_600 dL_law_601 (by omega) hL ?_
  refine lw_rd (k := 3) S.1 S.2.1 hX hbl hbA Z.2.2 hl rfl rfl dL_law_602 dL_law_603 dL_law_604 (by decide) dL_law_605 dL_law_606 (by omega) hL ?_
  refine lw_rd (k := 4) S.1 S.2.1 hX hbl hbA Z.2.2 hl rfl rfl dL_law_607 dL_law_608 dL_law_609 (by decide) dL_law_610 dL_law_611 (by omega) hL ?_
  refine uc_Vi (As := [.int (xs (i + 1)), .int (xs (i + 2)), .int (xs (i + 3)), .int (xs (i + 4))]) (rest := [.int r1]) S hK hA Z (xr_ring l G M1 z _ _ _ _ (rI_hi s1 hr) ho) (cwV 4 S.2.2.2.2 gL_X12_ring rfl rfl rfl (by decide +kernel) ⟨Nat.le_of_ble_eq_true rfl, Nat.le_of_ble_eq_true rfl⟩) (by decide) rfl rfl rfl hl.1 rfl (Nat.le_of_ble_eq_true rfl) dL_law_612 ⟨Nat.le_of_ble_eq_true rfl, Nat.le_of_ble_eq_true rfl⟩ (fun r2 M2 H locs hp Z => ?_)
  obtain ⟨z2, p2, hr2, s2⟩ := hp
  obtain ⟨e1, e2⟩ := xu_ring p1 p2
  exact lv_icmp_eq (tgt := 1018) S.1 S.2.1 dL_law_615 (by decide) (fun _ => kk M2 z1 H locs Z (cI_lo s2 hc1) (by rw [e2]; exact hr2) (xo_ring ho p1)) (fun h => absurd e1 h)
theorem k_stop (S : CallFix p m c cL_law 4 s #[Value.ref b] lw_tbl RL) (hK : va_K G.1 vwCl (uTy G) s) (hA : ∀ q, s.heap.size ≤ q → A q) (hX : va_X b L xs s s.heap) (hbl : b < s.heap.size) (hbA : ¬ A b) (hL : L ≤ 384) (Z : uZ G A M s.heap H locs) (hc : cI M z) (hr : rI M z) (ho : oI z) (hi : i + 6 ≤ L) (hl : lv_has ls 4 [(3, .int (nI i)), (2, .ref (G.2.2 71)), (1, .ref (G.2.2 0)), (0, .ref b)])
    (kk : ∀ (M2 : uM) (z2 : sT) (H2 : Heap) (locs2 : List Loc), uZ G A M2 s.heap H2 locs2 → cI M2 z2 → rI M2 z2 → oI z2 → W p l e room_1 s m #[Value.ref b] below meth c H2 locs2 96 9673 Q (F0 m 1018 ls [])) : W p l e room_1 s m #[Value.ref b] below meth c H locs 96 9673 Q (F0 m 620 ls []) := by
  refine lv_aload_n S.1 S.2.1 dL_law_620 rfl (lv_at hl 2 rfl) ?_
  refine lw_rd (k := 1) S.1 S.2.1 hX hbl hbA Z.2.2 hl rfl rfl dL_law_621 dL_law_622 dL_law_623 (by decide) dL_law_624 dL_law_625 (by omega) hL ?_
  refine lw_rd (k := 2) S.1 S.2.1 hX hbl hbA Z.2.2 hl rfl rfl dL_law_626 dL_law_627 dL_law_628 (by decide) dL_law_629 dL_law_630 (by omega) hL ?_
  refine lw_rd (k := 3) S.1 S.2.1 hX hbl hbA Z.2.2 hl rfl rfl dL_law_631 dL_law_632 dL_law_633 (by decide) dL_law_634 dL_law_635 (by omega) hL ?_
  refine lw_rd (k := 4) S.1 S.2.1 hX hbl hbA Z.2.2 hl rfl rfl dL_law_636 dL_law_637 dL_law_638 (by decide) dL_law_639 dL_law_640 (by omega) hL ?_
  refine uc_Vl (As := [.int (xs (i + 1)), .int (xs (i + 2)), .int (xs (i + 3)), .int (xs (i + 4))]) (rest := []) S hK hA Z (xc_stop l G M z _ _ _ _ hc ho) (cwV 4 S.2.2.2.2 gL_X11_stop rfl rfl rfl (by decide +kernel) ⟨Nat.le_of_ble_eq_true rfl, Nat.le_of_ble_eq_true rfl⟩) (by decide) rfl rfl rfl hl.1 rfl (Nat.le_of_ble_eq_true rfl) dL_law_641 ⟨Nat.le_of_ble_eq_true rfl, Nat.le_of_ble_eq_true rfl⟩ (fun r1 M1 H locs hp Z => ?_)
  obtain ⟨z1, p1, hc1, s1⟩ := hp
  refine lv_aload_n S.1 S.2.1 dL_law_644 rfl (lv_at hl 1 rfl) ?_
  refine lw_rd (k := 1) S.1 S.2.1 hX hbl hbA Z.2.2 hl rfl rfl dL_law_645 dL_law_646 dL_law_647 (by decide) dL_law_648 dL_law_649 (by omega) hL ?_
  refine lw_rd (k := 2) S.1 S.2.1 hX hbl hbA Z.2.2 hl rfl rfl dL_law_650 dL_law_651 dL_law_652 (by decide) dL_law_653 dL_law_654 (by omega) hL ?_
  refine lw_rd (k := 3) S.1 S.2.1 hX hbl hbA Z.2.2 hl rfl rfl dL_law_655 dL_law_656 dL_law_657 (by decide) dL_law_658 dL_law_659 (by omega) hL ?_
  refine lw_rd (k := 4) S.1 S.2.1 hX hbl hbA Z.2.2 hl rfl rfl dL_law_660 dL_law_661 dL_law_662 (by decide) dL_law_663 dL_law_664 (by omega) hL ?_
  refine uc_Vl (As := [.int (xs (i + 1)), .int (xs (i + 2)), .int (xs (i + 3)), .int (xs (i + 4))]) (rest := [.long r1]) S hK hA Z (xr_stop l G M1 z _ _ _ _ (rI_hi s1 hr) ho) (cwV 4 S.2.2.2.2 gL_X12_stop rfl rfl rfl (by decide +kernel) ⟨Nat.le_of_ble_eq_true rfl, Nat.le_of_ble_eq_true rfl⟩) (by decide) rfl rfl rfl hl.1 rfl (Nat.le_of_ble_eq_true rfl) dL_law_665 ⟨Nat.le_of_ble_eq_true rfl, Nat.le_of_ble_eq_true rfl⟩ (fun r2 M2 H locs hp Z => ?_)
  obtain ⟨z2, p2, hr2, s2⟩ := hp
  obtain ⟨e1, e2⟩ := xu_stop p1 p2
  refine W.lcmp S.1 S.2.1 dL_law_668 ?_
  exact lv_if_eq (tgt := 1018) S.1 S.2.1 dL_law_669 (by decide) (fun _ => kk M2 z1 H locs Z (cI_lo s2 hc1) (by rw [e2]; exact hr2) (xo_stop ho p1)) (fun h => absurd ((lg_cmp_eq _ _).mpr e1) h)
theorem k_sells (S : CallFix p m c cL_law 4 s #[Value.ref b] lw_tbl RL) (hK : va_K G.1 vwCl (uTy G) s) (hA : ∀ q, s.heap.size ≤ q → A q) (hX : va_X b L xs s s.heap) (hbl : b < s.heap.size) (hbA : ¬ A b) (hL : L ≤ 384) (Z : uZ G A M s.heap H locs) (hc : cI M z) (hr : rI M z) (ho : oI z) (hi : i + 6 ≤ L) (hl : lv_has ls 4 [(3, .int (nI i)), (2, .ref (G.2.2 71)), (1, .ref (G.2.2 0)), (0, .ref b)])
    (kk : ∀ (M2 : uM) (z2 : sT) (H2 : Heap) (locs2 : List Loc), uZ G A M2 s.heap H2 locs2 → cI M2 z2 → rI M2 z2 → oI z2 → W p l e room_1 s m #[Value.ref b] below meth c H2 locs2 96 9673 Q (F0 m 1018 ls [])) : W p l e room_1 s m #[Value.ref b] below meth c H locs 96 9673 Q (F0 m 674 ls []) := by
  refine lv_aload_n S.1 S.2.1 dL_law_674 rfl (lv_at hl 2 rfl) ?_
  refine lw_rd (k := 1) S.1 S.2.1 hX hbl hbA Z.2.2 hl rfl rfl dL_law_675 dL_law_676 dL_law_677 (by decide) dL_law_678 dL_law_679 (by omega) hL ?_
  refine lw_rd (k := 2) S.1 S.2.1 hX hbl hbA Z.2.2 hl rfl rfl dL_law_680 dL_law_681 dL_law_682 (by decide) dL_law_683 dL_law_684 (by omega) hL ?_
  refine lw_rd (k := 3) S.1 S.2.1 hX hbl hbA Z.2.2 hl rfl rfl dL_law_685 dL_law_686 dL_law_687 (by decide) dL_law_688 dL_law_689 (by omega) hL ?_
  refine uc_Vi (As := [.int (xs (i + 1)), .int (xs (i + 2)), .int (xs (i + 3))]) (rest := []) S hK hA Z (xc_sells l G M z _ _ _ hc ho) (cwV 3 S.2.2.2.2 gL_X11_sells rfl rfl rfl (by decide +kernel) ⟨Nat.le_of_ble_eq_true rfl, Nat.le_of_ble_eq_true rfl⟩) (by decide) rfl rfl rfl hl.1 rfl (Nat.le_of_ble_eq_true rfl) dL_law_690 ⟨Nat.le_of_ble_eq_true rfl, Nat.le_of_ble_eq_true rfl⟩ (fun r1 M1 H locs hp Z => ?_)
  obtain ⟨z1, p1, hc1, s1⟩ := hp
  refine lv_aload_n S.1 S.2.1 dL_law_693 rfl (lv_at hl 1 rfl) ?_
  refine lw_rd (k := 1) S.1 S.2.1 hX hbl hbA Z.2.2 hl rfl rfl dL_law_694 dL_law_695 dL_law_696 (by decide) dL_law_697 dL_law_698 (by omega) hL ?_
  refine lw_rd (k := 2) S.1 S.2.1 hX hbl hbA Z.2.2 hl rfl rfl dL_law_699 dL_law_700 dL_law_701 (by decide) dL_law_702 dL_law_703 (by omega) hL ?_
  refine lw_rd (k := 3) S.1 S.2.1 hX hbl hbA Z.2.2 hl rfl rfl dL_law_704 dL_law_705 dL_law_706 (by decide) dL_law_707 dL_law_708 (by omega) hL ?_
  refine uc_Vi (As := [.int (xs (i + 1)), .int (xs (i + 2)), .int (xs (i + 3))]) (rest := [.int r1]) S hK hA Z (xr_sells l G M1 z _ _ _ (rI_hi s1 hr) ho) (cwV 3 S.2.2.2.2 gL_X12_sells rfl rfl rfl (by decide +kernel) ⟨Nat.le_of_ble_eq_true rfl, Nat.le_of_ble_eq_true rfl⟩) (by decide) rfl rfl rfl hl.1 rfl (Nat.le_of_ble_eq_true rfl) dL_law_709 ⟨Nat.le_of_ble_eq_true rfl, Nat.le_of_ble_eq_true rfl⟩ (fun r2 M2 H locs hp Z => ?_)
  obtain ⟨z2, p2, hr2, s2⟩ := hp
  obtain ⟨e1, e2⟩ := xu_sells p1 p2
  exact lv_icmp_eq (tgt := 1018) S.1 S.2.1 dL_law_712 (by decide) (fun _ => kk M2 z1 H locs Z (cI_lo s2 hc1) (by rw [e2]; exact hr2) (xo_sells ho p1)) (fun h => absurd e1 h)
theorem k_ahead (S : CallFix p m c cL_law 4 s #[Value.ref b] lw_tbl RL) (hK : va_K G.1 vwCl (uTy G) s) (hA : ∀ q, s.heap.size ≤ q → A q) (hX : va_X b L xs s s.heap) (hbl : b < s.heap.size) (hbA : ¬ A b) (hL : L ≤ 384) (Z : uZ G A M s.heap H locs) (hc : cI M z) (hr : rI M z) (ho : oI z) (hi : i + 6 ≤ L) (hl : lv_has ls 4 [(3, .int (nI i)), (2, .ref (G.2.2 71)), (1, .ref (G.2.2 0)), (0, .ref b)])
    (kk : ∀ (M2 : uM) (z2 : sT) (H2 : Heap) (locs2 : List Loc), uZ G A M2 s.heap H2 locs2 → cI M2 z2 → rI M2 z2 → oI z2 → W p l e room_1 s m #[Value.ref b] below meth c H2 locs2 96 9673 Q (F0 m 1018 ls [])) : W p l e room_1 s m #[Value.ref b] below meth c H locs 96 9673 Q (F0 m 717 ls []) := by
  refine lv_aload_n S.1 S.2.1 dL_law_717 rfl (lv_at hl 2 rfl) ?_
  refine lw_rd (k := 1) S.1 S.2.1 hX hbl hbA Z.2.2 hl rfl rfl dL_law_718 dL_law_719 dL_law_720 (by decide) dL_law_721 dL_law_722 (by omega) hL ?_
  refine lw_rd (k := 2) S.1 S.2.1 hX hbl hbA Z.2.2 hl rfl rfl dL_law_723 dL_law_724 dL_law_725 (by decide) dL_law_726 dL_law_727 (by omega) hL ?_
  refine uc_Vi (As := [.int (xs (i + 1)), .int (xs (i + 2))]) (rest := []) S hK hA Z (xc_ahead l G M z _ _ hc ho) (cwV 2 S.2.2.2.2 gL_X11_ahead rfl rfl rfl (by decide +kernel) ⟨Nat.le_of_ble_eq_true rfl, Nat.le_of_ble_eq_true rfl⟩) (by decide) rfl rfl rfl hl.1 rfl (Nat.le_of_ble_eq_true rfl) dL_law_728 ⟨Nat.le_of_ble_eq_true rfl, Nat.le_of_ble_eq_true rfl⟩ (fun r1 M1 H locs hp Z => ?_)
  obtain ⟨z1, p1, hc1, s1⟩ := hp
  refine lv_aload_n S.1 S.2.1 dL_law_731 rfl (lv_at hl 1 rfl) ?_
  refine lw_rd (k := 1) S.1 S.2.1 hX hbl hbA Z.2.2 hl rfl rfl dL_law_732 dL_law_733 dL_law_734 (by decide) dL_law_735 dL_law_736 (by omega) hL ?_
  refine lw_rd (k := 2) S.1 S.2.1 hX hbl hbA Z.2.2 hl rfl rfl dL_law_737 dL_law_738 dL_law_739 (by decide) dL_law_740 dL_law_741 (by omega) hL ?_
  refine uc_Vi (As := [.int (xs (i + 1)), .int (xs (i + 2))]) (rest := [.int r1]) S hK hA Z (xr_ahead l G M1 z _ _ (rI_hi s1 hr) ho) (cwV 2 S.2.2.2.2 gL_X12_ahead rfl rfl rfl (by decide +kernel) ⟨Nat.le_of_ble_eq_true rfl, Nat.le_of_ble_eq_true rfl⟩) (by decide) rfl rfl rfl hl.1 rfl (Nat.le_of_ble_eq_true rfl) dL_law_742 ⟨Nat.le_of_ble_eq_true rfl, Nat.le_of_ble_eq_true rfl⟩ (fun r2 M2 H locs hp Z => ?_)
  obtain ⟨z2, p2, hr2, s2⟩ := hp
  obtain ⟨e1, e2⟩ := xu_ahead p1 p2
  exact lv_icmp_eq (tgt := 1018) S.1 S.2.1 dL_law_745 (by decide) (fun _ => kk M2 z1 H locs Z (cI_lo s2 hc1) (by rw [e2]; exact hr2) (xo_ahead ho p1)) (fun h => absurd e1 h)
theorem k_forget (S : CallFix p m c cL_law 4 s #[Value.ref b] lw_tbl RL) (hK : va_K G.1 vwCl (uTy G) s) (hA : ∀ q, s.heap.size ≤ q → A q) (hX : va_X b L xs s s.heap) (hbl : b < s.heap.size) (hbA : ¬ A b) (hL : L ≤ 384) (Z : uZ G A M s.heap H locs) (hc : cI M z) (hr : rI M z) (ho : oI z) (hi : i + 6 ≤ L) (hl : lv_has ls 4 [(3, .int (nI i)), (2, .ref (G.2.2 71)), (1, .ref (G.2.2 0)), (0, .ref b)])
    (kk : ∀ (M2 : uM) (z2 : sT) (H2 : Heap) (locs2 : List Loc), uZ G A M2 s.heap H2 locs2 → cI M2 z2 → rI M2 z2 → oI z2 → W p l e room_1 s m #[Value.ref b] below meth c H2 locs2 96 9673 Q (F0 m 1018 ls [])) : W p l e room_1 s m #[Value.ref b] below meth c H locs 96 9673 Q (F0 m 750 ls []) := by
  refine lv_aload_n S.1 S.2.1 dL_law_750 rfl (lv_at hl 2 rfl) ?_
  refine uc_Vi (As := []) (rest := []) S hK hA Z (xc_forget l G M z hc ho) (cwV 0 S.2.2.2.2 gL_X11_forget rfl rfl rfl (by decide +kernel) ⟨Nat.le_of_ble_eq_true rfl, Nat.le_of_ble_eq_true rfl⟩) (by decide) rfl rfl rfl hl.1 rfl (Nat.le_of_ble_eq_true rfl) dL_law_751 ⟨Nat.le_of_ble_eq_true rfl, Nat.le_of_ble_eq_true rfl⟩ (fun r1 M1 H locs hp Z => ?_)
  obtain ⟨z1, p1, hc1, s1⟩ := hp
  refine lv_aload_n S.1 S.2.1 dL_law_754 rfl (lv_at hl 1 rfl) ?_
  refine uc_Vi (As := []) (rest := [.int r1]) S hK hA Z (xr_forget l G M1 z (rI_hi s1 hr) ho) (cwV 0 S.2.2.2.2 gL_X12_forget rfl rfl rfl (by decide +kernel) ⟨Nat.le_of_ble_eq_true rfl, Nat.le_of_ble_eq_true rfl⟩) (by decide) rfl rfl rfl hl.1 rfl (Nat.le_of_ble_eq_true rfl) dL_law_755 ⟨Nat.le_of_ble_eq_true rfl, Nat.le_of_ble_eq_true rfl⟩ (fun r2 M2 H locs hp Z => ?_)
  obtain ⟨z2, p2, hr2, s2⟩ := hp
  obtain ⟨e1, e2⟩ := xu_forget p1 p2
  exact lv_icmp_eq (tgt := 1018) S.1 S.2.1 dL_law_758 (by decide) (fun _ => kk M2 z1 H locs Z (cI_lo s2 hc1) (by rw [e2]; exact hr2) (xo_forget ho p1)) (fun h => absurd e1 h)
theorem k_fits (S : CallFix p m c cL_law 4 s #[Value.ref b] lw_tbl RL) (hK : va_K G.1 vwCl (uTy G) s) (hA : ∀ q, s.heap.size ≤ q → A q) (hX : va_X b L xs s s.heap) (hbl : b < s.heap.size) (hbA : ¬ A b) (hL : L ≤ 384) (Z : uZ G A M s.heap H locs) (hc : cI M z) (hr : rI M z) (ho : oI z) (hi : i + 6 ≤ L) (hl : lv_has ls 4 [(3, .int (nI i)), (2, .ref (G.2.2 71)), (1, .ref (G.2.2 0)), (0, .ref b)])
    (kk : ∀ (M2 : uM) (z2 : sT) (H2 : Heap) (locs2 : List Loc), uZ G A M2 s.heap H2 locs2 → cI M2 z2 → rI M2 z2 → oI z2 → W p l e room_1 s m #[Value.ref b] below meth c H2 locs2 96 9673 Q (F0 m 1018 ls [])) : W p l e room_1 s m #[Value.ref b] below meth c H locs 96 9673 Q (F0 m 763 ls []) := by
  refine lv_aload_n S.1 S.2.1 dL_law_763 rfl (lv_at hl 2 rfl) ?_
  refine lw_rd (k := 1) S.1 S.2.1 hX hbl hbA Z.2.2 hl rfl rfl dL_law_764 dL_law_765 dL_law_766 (by decide) dL_law_767 dL_law_768 (by omega) hL ?_
  refine uc_Vi (As := [.int (xs (i + 1))]) (rest := []) S hK hA Z (xc_fits l G M z _ hc ho) (cwV 1 S.2.2.2.2 gL_X11_fits rfl rfl rfl (by decide +kernel) ⟨Nat.le_of_ble_eq_true rfl, Nat.le_of_ble_eq_true rfl⟩) (by decide) rfl rfl rfl hl.1 rfl (Nat.le_of_ble_eq_true rfl) dL_law_769 ⟨Nat.le_of_ble_eq_true rfl, Nat.le_of_ble_eq_true rfl⟩ (fun r1 M1 H locs hp Z => ?_)
  obtain ⟨z1, p1, hc1, s1⟩ := hp
  refine lv_aload_n S.1 S.2.1 dL_law_772 rfl (lv_at hl 1 rfl) ?_
  refine lw_rd (k := 1) S.1 S.2.1 hX hbl hbA Z.2.2 hl rfl rfl dL_law_773 dL_law_774 dL_law_775 (by decide) dL_law_776 dL_law_777 (by omega) hL ?_
  refine uc_Vi (As := [.int (xs (i + 1))]) (rest := [.int r1]) S hK hA Z (xr_fits l G M1 z _ (rI_hi s1 hr) ho) (cwV 1 S.2.2.2.2 gL_X12_fits rfl rfl rfl (by decide +kernel) ⟨Nat.le_of_ble_eq_true rfl, Nat.le_of_ble_eq_true rfl⟩) (by decide) rfl rfl rfl hl.1 rfl (Nat.le_of_ble_eq_true rfl) dL_law_778 ⟨Nat.le_of_ble_eq_true rfl, Nat.le_of_ble_eq_true rfl⟩ (fun r2 M2 H locs hp Z => ?_)
  obtain ⟨z2, p2, hr2, s2⟩ := hp
  obtain ⟨e1, e2⟩ := xu_fits p1 p2
  exact lv_icmp_eq (tgt := 1018) S.1 S.2.1 dL_law_781 (by decide) (fun _ => kk M2 z1 H locs Z (cI_lo s2 hc1) (by rw [e2]; exact hr2) (xo_fits ho p1)) (fun h => absurd e1 h)
theorem k_ask (S : CallFix p m c cL_law 4 s #[Value.ref b] lw_tbl RL) (hK : va_K G.1 vwCl (uTy G) s) (hA : ∀ q, s.heap.size ≤ q → A q) (hX : va_X b L xs s s.heap) (hbl : b < s.heap.size) (hbA : ¬ A b) (hL : L ≤ 384) (Z : uZ G A M s.heap H locs) (hc : cI M z) (hr : rI M z) (ho : oI z) (hi : i + 6 ≤ L) (hl : lv_has ls 4 [(3, .int (nI i)), (2, .ref (G.2.2 71)), (1, .ref (G.2.2 0)), (0, .ref b)])
    (kk : ∀ (M2 : uM) (z2 : sT) (H2 : Heap) (locs2 : List Loc), uZ G A M2 s.heap H2 locs2 → cI M2 z2 → rI M2 z2 → oI z2 → W p l e room_1 s m #[Value.ref b] below meth c H2 locs2 96 9673 Q (F0 m 1018 ls [])) : W p l e room_1 s m #[Value.ref b] below meth c H locs 96 9673 Q (F0 m 786 ls []) := by
  refine lv_aload_n S.1 S.2.1 dL_law_786 rfl (lv_at hl 2 rfl) ?_
  refine lw_rd (k := 1) S.1 S.2.1 hX hbl hbA Z.2.2 hl rfl rfl dL_law_787 dL_law_788 dL_law_789 (by decide) dL_law_790 dL_law_791 (by omega) hL ?_
  refine uc_Vi (As := [.int (xs (i + 1))]) (rest := []) S hK hA Z (xc_ask l G M z _ hc ho) (cwV 1 S.2.2.2.2 gL_X11_ask rfl rfl rfl (by decide +kernel) ⟨Nat.le_of_ble_eq_true rfl, Nat.le_of_ble_eq_true rfl⟩) (by decide) rfl rfl rfl hl.1 rfl (Nat.le_of_ble_eq_true rfl) dL_law_792 ⟨Nat.le_of_ble_eq_true rfl, Nat.le_of_ble_eq_true rfl⟩ (fun r1 M1 H locs hp Z => ?_)
  obtain ⟨z1, p1, hc1, s1⟩ := hp
  refine lv_aload_n S.1 S.2.1 dL_law_795 rfl (lv_at hl 1 rfl) ?_
  refine lw_rd (k := 1) S.1 S.2.1 hX hbl hbA Z.2.2 hl rfl rfl dL_law_796 dL_law_797 dL_law_798 (by decide) dL_law_799 dL_law_800 (by omega) hL ?_
  refine uc_Vi (As := [.int (xs (i + 1))]) (rest := [.int r1]) S hK hA Z (xr_ask l G M1 z _ (rI_hi s1 hr) ho) (cwV 1 S.2.2.2.2 gL_X12_ask rfl rfl rfl (by decide +kernel) ⟨Nat.le_of_ble_eq_true rfl, Nat.le_of_ble_eq_true rfl⟩) (by decide) rfl rfl rfl hl.1 rfl (Nat.le_of_ble_eq_true rfl) dL_law_801 ⟨Nat.le_of_ble_eq_true rfl, Nat.le_of_ble_eq_true rfl⟩ (fun r2 M2 H locs hp Z => ?_)
  obtain ⟨z2, p2, hr2, s2⟩ := hp
  obtain ⟨e1, e2⟩ := xu_ask p1 p2
  exact lv_icmp_eq (tgt := 1018) S.1 S.2.1 dL_law_804 (by decide) (fun _ => kk M2 z1 H locs Z (cI_lo s2 hc1) (by rw [e2]; exact hr2) (xo_ask ho p1)) (fun h => absurd e1 h)
theorem k_shelf (S : CallFix p m c cL_law 4 s #[Value.ref b] lw_tbl RL) (hK : va_K G.1 vwCl (uTy G) s) (hA : ∀ q, s.heap.size ≤ q → A q) (hX : va_X b L xs s s.heap) (hbl : b < s.heap.size) (hbA : ¬ A b) (hL : L ≤ 384) (Z : uZ G A M s.heap H locs) (hc : cI M z) (hr : rI M z) (ho : oI z) (hi : i + 6 ≤ L) (hl : lv_has ls 4 [(3, .int (nI i)), (2, .ref (G.2.2 71)), (1, .ref (G.2.2 0)), (0, .ref b)])
    (kk : ∀ (M2 : uM) (z2 : sT) (H2 : Heap) (locs2 : List Loc), uZ G A M2 s.heap H2 locs2 → cI M2 z2 → rI M2 z2 → oI z2 → W p l e room_1 s m #[Value.ref b] below meth c H2 locs2 96 9673 Q (F0 m 1018 ls [])) : W p l e room_1 s m #[Value.ref b] below meth c H locs 96 9673 Q (F0 m 809 ls []) := by
  refine lv_aload_n S.1 S.2.1 dL_law_809 rfl (lv_at hl 2 rfl) ?_
  refine lw_rd (k := 1) S.1 S.2.1 hX hbl hbA Z.2.2 hl rfl rfl dL_law_810 dL_law_811 dL_law_812 (by decide) dL_law_813 dL_law_814 (by omega) hL ?_
  refine lw_rd (k := 2) S.1 S.2.1 hX hbl hbA Z.2.2 hl rfl rfl dL_law_815 dL_law_816 dL_law_817 (by decide) dL_law_818 dL_law_819 (by omega) hL ?_
  refine lw_rd (k := 3) S.1 S.2.1 hX hbl hbA Z.2.2 hl rfl rfl dL_law_820 dL_law_821 dL_law_822 (by decide) dL_law_823 dL_law_824 (by omega) hL ?_
  refine uc_Vi (As := [.int (xs (i + 1)), .int (xs (i + 2)), .int (xs (i + 3))]) (rest := []) S hK hA Z (xc_shelf l G M z _ _ _ hc ho) (cwV 3 S.2.2.2.2 gL_X11_shelf rfl rfl rfl (by decide +kernel) ⟨Nat.le_of_ble_eq_true rfl, Nat.le_of_ble_eq_true rfl⟩) (by decide) rfl rfl rfl hl.1 rfl (Nat.le_of_ble_eq_true rfl) dL_law_825 ⟨Nat.le_of_ble_eq_true rfl, Nat.le_of_ble_eq_true rfl⟩ (fun r1 M1 H locs hp Z => ?_)
  obtain ⟨z1, p1, hc1, s1⟩ := hp
  refine lv_aload_n S.1 S.2.1 dL_law_828 rfl (lv_at hl 1 rfl) ?_
  refine lw_rd (k := 1) S.1 S.2.1 hX hbl hbA Z.2.2 hl rfl rfl dL_law_829 dL_law_830 dL_law_831 (by decide) dL_law_832 dL_law_833 (by omega) hL ?_
  refine lw_rd (k := 2) S.1 S.2.1 hX hbl hbA Z.2.2 hl rfl rfl dL_law_834 dL_law_835 dL_law_836 (by decide) dL_law_837 dL_law_838 (by omega) hL ?_
  refine lw_rd (k := 3) S.1 S.2.1 hX hbl hbA Z.2.2 hl rfl rfl dL_law_839 dL_law_840 dL_law_841 (by decide) dL_law_842 dL_law_843 (by omega) hL ?_
  refine uc_Vi (As := [.int (xs (i + 1)), .int (xs (i + 2)), .int (xs (i + 3))]) (rest := [.int r1]) S hK hA Z (xr_shelf l G M1 z _ _ _ (rI_hi s1 hr) ho) (cwV 3 S.2.2.2.2 gL_X12_shelf rfl rfl rfl (by decide +kernel) ⟨Nat.le_of_ble_eq_true rfl, Nat.le_of_ble_eq_true rfl⟩) (by decide) rfl rfl rfl hl.1 rfl (Nat.le_of_ble_eq_true rfl) dL_law_844 ⟨Nat.le_of_ble_eq_true rfl, Nat.le_of_ble_eq_true rfl⟩ (fun r2 M2 H locs hp Z => ?_)
  obtain ⟨z2, p2, hr2, s2⟩ := hp
  obtain ⟨e1, e2⟩ := xu_shelf p1 p2
  exact lv_icmp_eq (tgt := 1018) S.1 S.2.1 dL_law_847 (by decide) (fun _ => kk M2 z1 H locs Z (cI_lo s2 hc1) (by rw [e2]; exact hr2) (xo_shelf ho p1)) (fun h => absurd e1 h)
theorem k_doors (S : CallFix p m c cL_law 4 s #[Value.ref b] lw_tbl RL) (hK : va_K G.1 vwCl (uTy G) s) (hA : ∀ q, s.heap.size ≤ q → A q) (hX : va_X b L xs s s.heap) (hbl : b < s.heap.size) (hbA : ¬ A b) (hL : L ≤ 384) (Z : uZ G A M s.heap H locs) (hc : cI M z) (hr : rI M z) (ho : oI z) (hi : i + 6 ≤ L) (hl : lv_has ls 4 [(3, .int (nI i)), (2, .ref (G.2.2 71)), (1, .ref (G.2.2 0)), (0, .ref b)])
    (kk : ∀ (M2 : uM) (z2 : sT) (H2 : Heap) (locs2 : List Loc), uZ G A M2 s.heap H2 locs2 → cI M2 z2 → rI M2 z2 → oI z2 → W p l e room_1 s m #[Value.ref b] below meth c H2 locs2 96 9673 Q (F0 m 1018 ls [])) : W p l e room_1 s m #[Value.ref b] below meth c H locs 96 9673 Q (F0 m 852 ls []) := by
  refine lv_aload_n S.1 S.2.1 dL_law_852 rfl (lv_at hl 2 rfl) ?_
  refine lw_rd (k := 1) S.1 S.2.1 hX hbl hbA Z.2.2 hl rfl rfl dL_law_853 dL_law_854 dL_law_855 (by decide) dL_law_856 dL_law_857 (by omega) hL ?_
  refine lw_rd (k := 2) S.1 S.2.1 hX hbl hbA Z.2.2 hl rfl rfl dL_law_858 dL_law_859 dL_law_860 (by decide) dL_law_861 dL_law_862 (by omega) hL ?_
  refine lw_rd (k := 3) S.1 S.2.1 hX hbl hbA Z.2.2 hl rfl rfl dL_law_863 dL_law_864 dL_law_865 (by decide) dL_law_866 dL_law_867 (by omega) hL ?_
  refine lw_rd (k := 4) S.1 S.2.1 hX hbl hbA Z.2.2 hl rfl rfl dL_law_868 dL_law_869 dL_law_870 (by decide) dL_law_871 dL_law_872 (by omega) hL ?_
  refine uc_Vl (As := [.int (xs (i + 1)), .int (xs (i + 2)), .int (xs (i + 3)), .int (xs (i + 4))]) (rest := []) S hK hA Z (xc_doors l G M z _ _ _ _ hc ho) (cwV 4 S.2.2.2.2 gL_X11_doors rfl rfl rfl (by decide +kernel) ⟨Nat.le_of_ble_eq_true rfl, Nat.le_of_ble_eq_true rfl⟩) (by decide) rfl rfl rfl hl.1 rfl (Nat.le_of_ble_eq_true rfl) dL_law_873 ⟨Nat.le_of_ble_eq_true rfl, Nat.le_of_ble_eq_true rfl⟩ (fun r1 M1 H locs hp Z => ?_)
  obtain ⟨z1, p1, hc1, s1⟩ := hp
  refine lv_aload_n S.1 S.2.1 dL_law_876 rfl (lv_at hl 1 rfl) ?_
  refine lw_rd (k := 1) S.1 S.2.1 hX hbl hbA Z.2.2 hl rfl rfl dL_law_877 dL_law_878 dL_law_879 (by decide) dL_law_880 dL_law_881 (by omega) hL ?_
  refine lw_rd (k := 2) S.1 S.2.1 hX hbl hbA Z.2.2 hl rfl rfl dL_law_882 dL_law_883 dL_law_884 (by decide) dL_law_885 dL_law_886 (by omega) hL ?_
  refine lw_rd (k := 3) S.1 S.2.1 hX hbl hbA Z.2.2 hl rfl rfl dL_law_887 dL_law_888 dL_law_889 (by decide) dL_law_890 dL_law_891 (by omega) hL ?_
  refine lw_rd (k := 4) S.1 S.2.1 hX hbl hbA Z.2.2 hl rfl rfl dL_law_892 dL_law_893 dL_law_894 (by decide) dL_law_895 dL_law_896 (by omega) hL ?_
  refine uc_Vl (As := [.int (xs (i + 1)), .int (xs (i + 2)), .int (xs (i + 3)), .int (xs (i + 4))]) (rest := [.long r1]) S hK hA Z (xr_doors l G M1 z _ _ _ _ (rI_hi s1 hr) ho) (cwV 4 S.2.2.2.2 gL_X12_doors rfl rfl rfl (by decide +kernel) ⟨Nat.le_of_ble_eq_true rfl, Nat.le_of_ble_eq_true rfl⟩) (by decide) rfl rfl rfl hl.1 rfl (Nat.le_of_ble_eq_true rfl) dL_law_897 ⟨Nat.le_of_ble_eq_true rfl, Nat.le_of_ble_eq_true rfl⟩ (fun r2 M2 H locs hp Z => ?_)
  obtain ⟨z2, p2, hr2, s2⟩ := hp
  obtain ⟨e1, e2⟩ := xu_doors p1 p2
  refine W.lcmp S.1 S.2.1 dL_law_900 ?_
  exact lv_if_eq (tgt := 1018) S.1 S.2.1 dL_law_901 (by decide) (fun _ => kk M2 z1 H locs Z (cI_lo s2 hc1) (by rw [e2]; exact hr2) (xo_doors ho p1)) (fun h => absurd ((lg_cmp_eq _ _).mpr e1) h)
theorem k_year (S : CallFix p m c cL_law 4 s #[Value.ref b] lw_tbl RL) (hK : va_K G.1 vwCl (uTy G) s) (hA : ∀ q, s.heap.size ≤ q → A q) (hX : va_X b L xs s s.heap) (hbl : b < s.heap.size) (hbA : ¬ A b) (hL : L ≤ 384) (Z : uZ G A M s.heap H locs) (hc : cI M z) (hr : rI M z) (ho : oI z) (hi : i + 6 ≤ L) (hl : lv_has ls 4 [(3, .int (nI i)), (2, .ref (G.2.2 71)), (1, .ref (G.2.2 0)), (0, .ref b)])
    (kk : ∀ (M2 : uM) (z2 : sT) (H2 : Heap) (locs2 : List Loc), uZ G A M2 s.heap H2 locs2 → cI M2 z2 → rI M2 z2 → oI z2 → W p l e room_1 s m #[Value.ref b] below meth c H2 locs2 96 9673 Q (F0 m 1018 ls [])) : W p l e room_1 s m #[Value.ref b] below meth c H locs 96 9673 Q (F0 m 906 ls []) := by
  refine lv_aload_n S.1 S.2.1 dL_law_906 rfl (lv_at hl 2 rfl) ?_
  refine lw_rd (k := 1) S.1 S.2.1 hX hbl hbA Z.2.2 hl rfl rfl dL_law_907 dL_law_908 dL_law_909 (by decide) dL_law_910 dL_law_911 (by omega) hL ?_
  refine lw_rd (k := 2) S.1 S.2.1 hX hbl hbA Z.2.2 hl rfl rfl dL_law_912 dL_law_913 dL_law_914 (by decide) dL_law_915 dL_law_916 (by omega) hL ?_
  refine lw_rd (k := 3) S.1 S.2.1 hX hbl hbA Z.2.2 hl rfl rfl dL_law_917 dL_law_918 dL_law_919 (by decide) dL_law_920 dL_law_921 (by omega) hL ?_
  refine uc_Vi (As := [.int (xs (i + 1)), .int (xs (i + 2)), .int (xs (i + 3))]) (rest := []) S hK hA Z (xc_year l G M z _ _ _ hc ho) (cwV 3 S.2.2.2.2 gL_X11_year rfl rfl rfl (by decide +kernel) ⟨Nat.le_of_ble_eq_true rfl, Nat.le_of_ble_eq_true rfl⟩) (by decide) rfl rfl rfl hl.1 rfl (Nat.le_of_ble_eq_true rfl) dL_law_922 ⟨Nat.le_of_ble_eq_true rfl, Nat.le_of_ble_eq_true rfl⟩ (fun r1 M1 H locs hp Z => ?_)
  obtain ⟨z1, p1, hc1, s1⟩ := hp
  refine lv_aload_n S.1 S.2.1 dL_law_925 rfl (lv_at hl 1 rfl) ?_
  refine lw_rd (k := 1) S.1 S.2.1 hX hbl hbA Z.2.2 hl rfl rfl dL_law_926 dL_law_927 dL_law_928 (by decide) dL_law_929 dL_law_930 (by omega) hL ?_
  refine lw_rd (k := 2) S.1 S.2.1 hX hbl hbA Z.2.2 hl rfl rfl dL_law_931 dL_law_932 dL_law_933 (by decide) dL_law_934 dL_law_935 (by omega) hL ?_
  refine lw_rd (k := 3) S.1 S.2.1 hX hbl hbA Z.2.2 hl rfl rfl dL_law_936 dL_law_937 dL_law_938 (by decide) dL_law_939 dL_law_940 (by omega) hL ?_
  refine uc_Vi (As := [.int (xs (i + 1)), .int (xs (i + 2)), .int (xs (i + 3))]) (rest := [.int r1]) S hK hA Z (xr_year l G M1 z _ _ _ (rI_hi s1 hr) ho) (cwV 3 S.2.2.2.2 gL_X12_year rfl rfl rfl (by decide +kernel) ⟨Nat.le_of_ble_eq_true rfl, Nat.le_of_ble_eq_true rfl⟩) (by decide) rfl rfl rfl hl.1 rfl (Nat.le_of_ble_eq_true rfl) dL_law_941 ⟨Nat.le_of_ble_eq_true rfl, Nat.le_of_ble_eq_true rfl⟩ (fun r2 M2 H locs hp Z => ?_)
  obtain ⟨z2, p2, hr2, s2⟩ := hp
  obtain ⟨e1, e2⟩ := xu_year p1 p2
  exact lv_icmp_eq (tgt := 1018) S.1 S.2.1 dL_law_944 (by decide) (fun _ => kk M2 z1 H locs Z (cI_lo s2 hc1) (by rw [e2]; exact hr2) (xo_year ho p1)) (fun h => absurd e1 h)
theorem k_image (S : CallFix p m c cL_law 4 s #[Value.ref b] lw_tbl RL) (hK : va_K G.1 vwCl (uTy G) s) (hA : ∀ q, s.heap.size ≤ q → A q) (hX : va_X b L xs s s.heap) (hbl : b < s.heap.size) (hbA : ¬ A b) (hL : L ≤ 384) (Z : uZ G A M s.heap H locs) (hc : cI M z) (hr : rI M z) (ho : oI z) (hi : i + 6 ≤ L) (hl : lv_has ls 4 [(3, .int (nI i)), (2, .ref (G.2.2 71)), (1, .ref (G.2.2 0)), (0, .ref b)])
    (kk : ∀ (M2 : uM) (z2 : sT) (H2 : Heap) (locs2 : List Loc), uZ G A M2 s.heap H2 locs2 → cI M2 z2 → rI M2 z2 → oI z2 → W p l e room_1 s m #[Value.ref b] below meth c H2 locs2 96 9673 Q (F0 m 1018 ls [])) : W p l e room_1 s m #[Value.ref b] below meth c H locs 96 9673 Q (F0 m 949 ls []) := by
  refine lv_aload_n S.1 S.2.1 dL_law_949 rfl (lv_at hl 2 rfl) ?_
  refine lw_rd (k := 1) S.1 S.2.1 hX hbl hbA Z.2.2 hl rfl rfl dL_law_950 dL_law_951 dL_law_952 (by decide) dL_law_953 dL_law_954 (by omega) hL ?_
  refine uc_Vi (As := [.int (xs (i + 1))]) (rest := []) S hK hA Z (xc_image l G M z _ hc ho) (cwV 1 S.2.2.2.2 gL_X11_image rfl rfl rfl (by decide +kernel) ⟨Nat.le_of_ble_eq_true rfl, Nat.le_of_ble_eq_true rfl⟩) (by decide) rfl rfl rfl hl.1 rfl (Nat.le_of_ble_eq_true rfl) dL_law_955 ⟨Nat.le_of_ble_eq_true rfl, Nat.le_of_ble_eq_true rfl⟩ (fun r1 M1 H locs hp Z => ?_)
  obtain ⟨z1, p1, hc1, s1⟩ := hp
  refine lv_aload_n S.1 S.2.1 dL_law_958 rfl (lv_at hl 1 rfl) ?_
  refine lw_rd (k := 1) S.1 S.2.1 hX hbl hbA Z.2.2 hl rfl rfl dL_law_959 dL_law_960 dL_law_961 (by decide) dL_law_962 dL_law_963 (by omega) hL ?_
  refine uc_Vi (As := [.int (xs (i + 1))]) (rest := [.int r1]) S hK hA Z (xr_image l G M1 z _ (rI_hi s1 hr) ho) (cwV 1 S.2.2.2.2 gL_X12_image rfl rfl rfl (by decide +kernel) ⟨Nat.le_of_ble_eq_true rfl, Nat.le_of_ble_eq_true rfl⟩) (by decide) rfl rfl rfl hl.1 rfl (Nat.le_of_ble_eq_true rfl) dL_law_964 ⟨Nat.le_of_ble_eq_true rfl, Nat.le_of_ble_eq_true rfl⟩ (fun r2 M2 H locs hp Z => ?_)
  obtain ⟨z2, p2, hr2, s2⟩ := hp
  obtain ⟨e1, e2⟩ := xu_image p1 p2
  exact lv_icmp_eq (tgt := 1018) S.1 S.2.1 dL_law_967 (by decide) (fun _ => kk M2 z1 H locs Z (cI_lo s2 hc1) (by rw [e2]; exact hr2) (xo_image ho p1)) (fun h => absurd e1 h)
theorem k_restore (S : CallFix p m c cL_law 4 s #[Value.ref b] lw_tbl RL) (hK : va_K G.1 vwCl (uTy G) s) (hA : ∀ q, s.heap.size ≤ q → A q) (hX : va_X b L xs s s.heap) (hbl : b < s.heap.size) (hbA : ¬ A b) (hL : L ≤ 384) (Z : uZ G A M s.heap H locs) (hc : cI M z) (hr : rI M z) (ho : oI z) (hi : i + 6 ≤ L) (hl : lv_has ls 4 [(3, .int (nI i)), (2, .ref (G.2.2 71)), (1, .ref (G.2.2 0)), (0, .ref b)])
    (kk : ∀ (M2 : uM) (z2 : sT) (H2 : Heap) (locs2 : List Loc), uZ G A M2 s.heap H2 locs2 → cI M2 z2 → rI M2 z2 → oI z2 → W p l e room_1 s m #[Value.ref b] below meth c H2 locs2 96 9673 Q (F0 m 1018 ls [])) : W p l e room_1 s m #[Value.ref b] below meth c H locs 96 9673 Q (F0 m 972 ls []) := by
  refine lv_aload_n S.1 S.2.1 dL_law_972 rfl (lv_at hl 2 rfl) ?_
  refine lw_rd (k := 1) S.1 S.2.1 hX hbl hbA Z.2.2 hl rfl rfl dL_law_973 dL_law_974 dL_law_975 (by decide) dL_law_976 dL_law_977 (by omega) hL ?_
  refine uc_Vi (As := [.int (xs (i + 1))]) (rest := []) S hK hA Z (xc_restore l G M z _ hc ho) (cwV 1 S.2.2.2.2 gL_X11_restore rfl rfl rfl (by decide +kernel) ⟨Nat.le_of_ble_eq_true rfl, Nat.le_of_ble_eq_true rfl⟩) (by decide) rfl rfl rfl hl.1 rfl (Nat.le_of_ble_eq_true rfl) dL_law_978 ⟨Nat.le_of_ble_eq_true rfl, Nat.le_of_ble_eq_true rfl⟩ (fun r1 M1 H locs hp Z => ?_)
  obtain ⟨z1, p1, hc1, s1⟩ := hp
  refine lv_aload_n S.1 S.2.1 dL_law_981 rfl (lv_at hl 1 rfl) ?_
  refine lw_rd (k := 1) S.1 S.2.1 hX hbl hbA Z.2.2 hl rfl rfl dL_law_982 dL_law_983 dL_law_984 (by decide) dL_law_985 dL_law_986 (by omega) hL ?_
  refine uc_Vi (As := [.int (xs (i + 1))]) (rest := [.int r1]) S hK hA Z (xr_restore l G M1 z _ (rI_hi s1 hr) ho) (cwV 1 S.2.2.2.2 gL_X12_restore rfl rfl rfl (by decide +kernel) ⟨Nat.le_of_ble_eq_true rfl, Nat.le_of_ble_eq_true rfl⟩) (by decide) rfl rfl rfl hl.1 rfl (Nat.le_of_ble_eq_true rfl) dL_law_987 ⟨Nat.le_of_ble_eq_true rfl, Nat.le_of_ble_eq_true rfl⟩ (fun r2 M2 H locs hp Z => ?_)
  obtain ⟨z2, p2, hr2, s2⟩ := hp
  obtain ⟨e1, e2⟩ := xu_restore p1 p2
  exact lv_icmp_eq (tgt := 1018) S.1 S.2.1 dL_law_990 (by decide) (fun _ => kk M2 z1 H locs Z (cI_lo s2 hc1) (by rw [e2]; exact hr2) (xo_restore ho p1)) (fun h => absurd e1 h)
theorem k_told (S : CallFix p m c cL_law 4 s #[Value.ref b] lw_tbl RL) (hK : va_K G.1 vwCl (uTy G) s) (hA : ∀ q, s.heap.size ≤ q → A q) (hX : va_X b L xs s s.heap) (hbl : b < s.heap.size) (hbA : ¬ A b) (hL : L ≤ 384) (Z : uZ G A M s.heap H locs) (hc : cI M z) (hr : rI M z) (ho : oI z) (hi : i + 6 ≤ L) (hl : lv_has ls 4 [(3, .int (nI i)), (2, .ref (G.2.2 71)), (1, .ref (G.2.2 0)), (0, .ref b)])
    (kk : ∀ (M2 : uM) (z2 : sT) (H2 : Heap) (locs2 : List Loc), uZ G A M2 s.heap H2 locs2 → cI M2 z2 → rI M2 z2 → oI z2 → W p l e room_1 s m #[Value.ref b] below meth c H2 locs2 96 9673 Q (F0 m 1018 ls [])) : W p l e room_1 s m #[Value.ref b] below meth c H locs 96 9673 Q (F0 m 995 ls []) := by
  refine lv_aload_n S.1 S.2.1 dL_law_995 rfl (lv_at hl 2 rfl) ?_
  refine lw_rd (k := 1) S.1 S.2.1 hX hbl hbA Z.2.2 hl rfl rfl dL_law_996 dL_law_997 dL_law_998 (by decide) dL_law_999 dL_law_1000 (by omega) hL ?_
  refine uc_Vi (As := [.int (xs (i + 1))]) (rest := []) S hK hA Z (xc_told l G M z _ hc ho) (cwV 1 S.2.2.2.2 gL_X11_told rfl rfl rfl (by decide +kernel) ⟨Nat.le_of_ble_eq_true rfl, Nat.le_of_ble_eq_true rfl⟩) (by decide) rfl rfl rfl hl.1 rfl (Nat.le_of_ble_eq_true rfl) dL_law_1001 ⟨Nat.le_of_ble_eq_true rfl, Nat.le_of_ble_eq_true rfl⟩ (fun r1 M1 H locs hp Z => ?_)
  obtain ⟨z1, p1, hc1, s1⟩ := hp
  refine lv_aload_n S.1 S.2.1 dL_law_1004 rfl (lv_at hl 1 rfl) ?_
  refine lw_rd (k := 1) S.1 S.2.1 hX hbl hbA Z.2.2 hl rfl rfl dL_law_1005 dL_law_1006 dL_law_1007 (by decide) dL_law_1008 dL_law_1009 (by omega) hL ?_
  refine uc_Vi (As := [.int (xs (i + 1))]) (rest := [.int r1]) S hK hA Z (xr_told l G M1 z _ (rI_hi s1 hr) ho) (cwV 1 S.2.2.2.2 gL_X12_told rfl rfl rfl (by decide +kernel) ⟨Nat.le_of_ble_eq_true rfl, Nat.le_of_ble_eq_true rfl⟩) (by decide) rfl rfl rfl hl.1 rfl (Nat.le_of_ble_eq_true rfl) dL_law_1010 ⟨Nat.le_of_ble_eq_true rfl, Nat.le_of_ble_eq_true rfl⟩ (fun r2 M2 H locs hp Z => ?_)
  obtain ⟨z2, p2, hr2, s2⟩ := hp
  obtain ⟨e1, e2⟩ := xu_told p1 p2
  exact lv_icmp_eq (tgt := 1018) S.1 S.2.1 dL_law_1013 (by decide) (fun _ => kk M2 z1 H locs Z (cI_lo s2 hc1) (by rw [e2]; exact hr2) (xo_told ho p1)) (fun h => absurd e1 h)
theorem lw_lt {L i : Nat} (hL : L ≤ 384) (hi : i ≤ L) (h : ¬ nI L - nI 6 < nI i) : i + 6 ≤ L := by
  by_cases h6 : 6 ≤ L
  · obtain ⟨d, rfl⟩ : ∃ d, L = d + 6 := ⟨L - 6, by omega⟩
    rw [← nI_add, Int32.add_sub_cancel, nI_ltI (by omega) (by omega)] at h
    omega
  · exfalso
    revert h
    have k : ∀ L, L < 6 → ∀ i, i < 6 → nI L - nI 6 < nI i := by decide
    exact fun h => h (k L (by omega) i (by omega))
theorem law_loop (S : CallFix p m c cL_law 4 s #[Value.ref b] lw_tbl RL) (hK : va_K G.1 vwCl (uTy G) s) (hA : ∀ q, s.heap.size ≤ q → A q) (hX : va_X b L xs s s.heap) (hbl : b < s.heap.size) (hbA : ¬ A b) (hL : L ≤ 384) (hA2 : ∀ q, A q → s.heap.size ≤ q) (hend : ∀ (H : Heap) (ls : Array Slot), W p l e room_1 s m #[Value.ref b] below meth c H [] 96 9673 Q (F0 m 1025 ls [.int 1])) : ∀ (n i : Nat), L ≤ i + n → i ≤ L → ∀ (M : uM) (z : sT) (H : Heap) (locs : List Loc) (ls : Array Slot), uZ G A M s.heap H locs → cI M z → rI M z → oI z → lv_has ls 4 [(3, .int (nI i)), (2, .ref (G.2.2 71)), (1, .ref (G.2.2 0)), (0, .ref b)] → W p l e room_1 s m #[Value.ref b] below meth c H locs 96 9673 Q (F0 m 18 ls []) := by
  intro n
  induction n with
  | zero =>
    intro i h0 h1 M z H locs ls Z hc hr ho hl
    refine lv_iload_n S.1 S.2.1 dL_law_18 rfl (lv_at hl 0 rfl) ?_
    refine lv_aload_n S.1 S.2.1 dL_law_19 rfl (lv_at hl 3 rfl) ?_
    refine va_slen S.1 S.2.1 hX hbl hbA Z.2.2 dL_law_20 ?_
    refine lv_bipush (v := nI 6) S.1 S.2.1 dL_law_21 (by decide) ?_
    refine lv_isub S.1 S.2.1 dL_law_23 ?_
    refine lv_icmp_gt (tgt := 1024) S.1 S.2.1 dL_law_24 (by decide) (fun _ => ?_) (fun h => ?_)
    · refine lv_iconst (v := 1) S.1 S.2.1 dL_law_1024 (by decide) ?_
      exact va_forget (fun q hq => hA2 _ (Z.2.2.2.2 q hq)) (hend _ _)
    · exact absurd (lw_lt hL h1 h) (by omega)
  | succ n ih =>
    intro i h0 h1 M z H locs ls Z hc hr ho hl
    refine lv_iload_n S.1 S.2.1 dL_law_18 rfl (lv_at hl 0 rfl) ?_
    refine lv_aload_n S.1 S.2.1 dL_law_19 rfl (lv_at hl 3 rfl) ?_
    refine va_slen S.1 S.2.1 hX hbl hbA Z.2.2 dL_law_20 ?_
    refine lv_bipush (v := nI 6) S.1 S.2.1 dL_law_21 (by decide) ?_
    refine lv_isub S.1 S.2.1 dL_law_23 ?_
    refine lv_icmp_gt (tgt := 1024) S.1 S.2.1 dL_law_24 (by decide) (fun _ => ?_) (fun h => ?_)
    · refine lv_iconst (v := 1) S.1 S.2.1 dL_law_1024 (by decide) ?_
      exact va_forget (fun q hq => hA2 _ (Z.2.2.2.2 q hq)) (hend _ _)
    · have hi : i + 6 ≤ L := lw_lt hL h1 h
      have kk : ∀ (M2 : uM) (z2 : sT) (H2 : Heap) (locs2 : List Loc), uZ G A M2 s.heap H2 locs2 → cI M2 z2 → rI M2 z2 → oI z2 → W p l e room_1 s m #[Value.ref b] below meth c H2 locs2 96 9673 Q (F0 m 1018 ls []) := by
        intro M2 z2 H2 locs2 Z2 hc2 hr2 ho2
        refine lv_iinc (v := nI (i + 6)) (lv' := [(3, .int (nI (i + 6))), (2, .ref (G.2.2 71)), (1, .ref (G.2.2 0)), (0, .ref b)]) S.1 S.2.1 dL_law_1018 hl (k := 0) rfl (by rw [show Int32.ofInt 6 = nI 6 by decide]; exact nI_add i 6) (by decide) rfl (fun ls hl => ?_)
        refine lv_goto (tgt := 18) S.1 S.2.1 dL_law_1021 (by decide) ?_
        exact ih (i + 6) (by omega) hi M2 z2 H2 locs2 ls Z2 hc2 hr2 ho2 hl
      refine lv_aload_n S.1 S.2.1 dL_law_27 rfl (lv_at hl 3 rfl) ?_
      refine lv_iload_n S.1 S.2.1 dL_law_28 rfl (lv_at hl 0 rfl) ?_
      refine va_sld S.1 S.2.1 hX hbl hbA Z.2.2 (vp_in_nI (show i < L by omega) (by omega)) dL_law_29 ?_
      generalize xs (nI i).toNatClampNeg = v
      refine lv_bipush (v := 31) S.1 S.2.1 dL_law_30 (by decide) ?_
      refine lv_iand S.1 S.2.1 dL_law_32 ?_
      generalize v &&& 31 = v
      by_cases ho1 : v.toInt < 0 ∨ 25 < v.toInt
      · exact lv_tableOut (tgt := 1018) S.1 S.2.1 dL_law_33 ho1 (by decide) (kk M z H locs Z hc hr ho)
      · obtain ⟨j, hj, hj25⟩ : ∃ j : Nat, v.toInt = (j : Int) ∧ j ≤ 25 := ⟨v.toInt.toNat, by omega, by omega⟩
        rcases (show j = 0 ∨ j = 1 ∨ j = 2 ∨ j = 3 ∨ j = 4 ∨ j = 5 ∨ j = 6 ∨ j = 7 ∨ j = 8 ∨ j = 9 ∨ j = 10 ∨ j = 11 ∨ j = 12 ∨ j = 13 ∨ j = 14 ∨ j = 15 ∨ j = 16 ∨ j = 17 ∨ j = 18 ∨ j = 19 ∨ j = 20 ∨ j = 21 ∨ j = 22 ∨ j = 23 ∨ j = 24 ∨ j = 25 by omega) with rfl | rfl | rfl | rfl | rfl | rfl | rfl | rfl | rfl | rfl | rfl | rfl | rfl | rfl | rfl | rfl | rfl | rfl | rfl | rfl | rfl | rfl | rfl | rfl | rfl | rfl
        · exact lv_tableIn (off := 119) (tgt := 152) S.1 S.2.1 dL_law_33 (by rw [hj]; decide) (by rw [hj]; decide) (by rw [hj]; rfl) (by decide) (k_thing S hK hA hX hbl hbA hL Z hc hr ho hi hl kk)
        · exact lv_tableIn (off := 182) (tgt := 215) S.1 S.2.1 dL_law_33 (by rw [hj]; decide) (by rw [hj]; decide) (by rw [hj]; rfl) (by decide) (k_one S hK hA hX hbl hbA hL Z hc hr ho hi hl kk)
        · exact lv_tableIn (off := 225) (tgt := 258) S.1 S.2.1 dL_law_33 (by rw [hj]; decide) (by rw [hj]; decide) (by rw [hj]; rfl) (by decide) (k_brothers S hK hA hX hbl hbA hL Z hc hr ho hi hl kk)
        · exact lv_tableIn (off := 284) (tgt := 317) S.1 S.2.1 dL_law_33 (by rw [hj]; decide) (by rw [hj]; decide) (by rw [hj]; rfl) (by decide) (k_say S hK hA hX hbl hbA hL Z hc hr ho hi hl kk)
        · exact lv_tableIn (off := 307) (tgt := 340) S.1 S.2.1 dL_law_33 (by rw [hj]; decide) (by rw [hj]; decide) (by rw [hj]; rfl) (by decide) (k_wipe S hK hA hX hbl hbA hL Z hc hr ho hi hl kk)
        · exact lv_tableIn (off := 320) (tgt := 353) S.1 S.2.1 dL_law_33 (by rw [hj]; decide) (by rw [hj]; decide) (by rw [hj]; rfl) (by decide) (k_fault S hK hA hX hbl hbA hL Z hc hr ho hi hl kk)
        · exact lv_tableIn (off := 333) (tgt := 366) S.1 S.2.1 dL_law_33 (by rw [hj]; decide) (by rw [hj]; decide) (by rw [hj]; rfl) (by decide) (k_judge S hK hA hX hbl hbA hL Z hc hr ho hi hl kk)
        · exact lv_tableIn (off := 356) (tgt := 389) S.1 S.2.1 dL_law_33 (by rw [hj]; decide) (by rw [hj]; decide) (by rw [hj]; rfl) (by decide) (k_behind S hK hA hX hbl hbA hL Z hc hr ho hi hl kk)
        · exact lv_tableIn (off := 389) (tgt := 422) S.1 S.2.1 dL_law_33 (by rw [hj]; decide) (by rw [hj]; decide) (by rw [hj]; rfl) (by decide) (k_purse S hK hA hX hbl hbA hL Z hc hr ho hi hl kk)
        · exact lv_tableIn (off := 422) (tgt := 455) S.1 S.2.1 dL_law_33 (by rw [hj]; decide) (by rw [hj]; decide) (by rw [hj]; rfl) (by decide) (k_sold S hK hA hX hbl hbA hL Z hc hr ho hi hl kk)
        · exact lv_tableIn (off := 445) (tgt := 478) S.1 S.2.1 dL_law_33 (by rw [hj]; decide) (by rw [hj]; decide) (by rw [hj]; rfl) (by decide) (k_done S hK hA hX hbl hbA hL Z hc hr ho hi hl kk)
        · exact lv_tableIn (off := 458) (tgt := 491) S.1 S.2.1 dL_law_33 (by rw [hj]; decide) (by rw [hj]; decide) (by rw [hj]; rfl) (by decide) (k_sack S hK hA hX hbl hbA hL Z hc hr ho hi hl kk)
        · exact lv_tableIn (off := 501) (tgt := 534) S.1 S.2.1 dL_law_33 (by rw [hj]; decide) (by rw [hj]; decide) (by rw [hj]; rfl) (by decide) (k_careers S hK hA hX hbl hbA hL Z hc hr ho hi hl kk)
        · exact lv_tableIn (off := 534) (tgt := 567) S.1 S.2.1 dL_law_33 (by rw [hj]; decide) (by rw [hj]; decide) (by rw [hj]; rfl) (by decide) (k_ring S hK hA hX hbl hbA hL Z hc hr ho hi hl kk)
        · exact lv_tableIn (off := 587) (tgt := 620) S.1 S.2.1 dL_law_33 (by rw [hj]; decide) (by rw [hj]; decide) (by rw [hj]; rfl) (by decide) (k_stop S hK hA hX hbl hbA hL Z hc hr ho hi hl kk)
        · exact lv_tableIn (off := 641) (tgt := 674) S.1 S.2.1 dL_law_33 (by rw [hj]; decide) (by rw [hj]; decide) (by rw [hj]; rfl) (by decide) (k_sells S hK hA hX hbl hbA hL Z hc hr ho hi hl kk)
        · exact lv_tableIn (off := 684) (tgt := 717) S.1 S.2.1 dL_law_33 (by rw [hj]; decide) (by rw [hj]; decide) (by rw [hj]; rfl) (by decide) (k_ahead S hK hA hX hbl hbA hL Z hc hr ho hi hl kk)
        · exact lv_tableIn (off := 717) (tgt := 750) S.1 S.2.1 dL_law_33 (by rw [hj]; decide) (by rw [hj]; decide) (by rw [hj]; rfl) (by decide) (k_forget S hK hA hX hbl hbA hL Z hc hr ho hi hl kk)
        · exact lv_tableIn (off := 730) (tgt := 763) S.1 S.2.1 dL_law_33 (by rw [hj]; decide) (by rw [hj]; decide) (by rw [hj]; rfl) (by decide) (k_fits S hK hA hX hbl hbA hL Z hc hr ho hi hl kk)
        · exact lv_tableIn (off := 753) (tgt := 786) S.1 S.2.1 dL_law_33 (by rw [hj]; decide) (by rw [hj]; decide) (by rw [hj]; rfl) (by decide) (k_ask S hK hA hX hbl hbA hL Z hc hr ho hi hl kk)
        · exact lv_tableIn (off := 776) (tgt := 809) S.1 S.2.1 dL_law_33 (by rw [hj]; decide) (by rw [hj]; decide) (by rw [hj]; rfl) (by decide) (k_shelf S hK hA hX hbl hbA hL Z hc hr ho hi hl kk)
        · exact lv_tableIn (off := 819) (tgt := 852) S.1 S.2.1 dL_law_33 (by rw [hj]; decide) (by rw [hj]; decide) (by rw [hj]; rfl) (by decide) (k_doors S hK hA hX hbl hbA hL Z hc hr ho hi hl kk)
        · exact lv_tableIn (off := 873) (tgt := 906) S.1 S.2.1 dL_law_33 (by rw [hj]; decide) (by rw [hj]; decide) (by rw [hj]; rfl) (by decide) (k_year S hK hA hX hbl hbA hL Z hc hr ho hi hl kk)
        · exact lv_tableIn (off := 916) (tgt := 949) S.1 S.2.1 dL_law_33 (by rw [hj]; decide) (by rw [hj]; decide) (by rw [hj]; rfl) (by decide) (k_image S hK hA hX hbl hbA hL Z hc hr ho hi hl kk)
        · exact lv_tableIn (off := 939) (tgt := 972) S.1 S.2.1 dL_law_33 (by rw [hj]; decide) (by rw [hj]; decide) (by rw [hj]; rfl) (by decide) (k_restore S hK hA hX hbl hbA hL Z hc hr ho hi hl kk)
        · exact lv_tableIn (off := 962) (tgt := 995) S.1 S.2.1 dL_law_33 (by rw [hj]; decide) (by rw [hj]; decide) (by rw [hj]; rfl) (by decide) (k_told S hK hA hX hbl hbA hL Z hc hr ho hi hl kk)
end LW
