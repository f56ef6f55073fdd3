def xC (l : Launch) (G : uG) (y : MethodName) (ws : List Cond) (fr lo : Nat) (av : List Value) (M : uM) (P : Int32 → sT → Prop) : Prop := CTi l G y ws fr lo av M (fun r M2 => ∃ z2, P r z2 ∧ cI M2 z2 ∧ hiS M M2)
def xR (l : Launch) (G : uG) (y : MethodName) (ws : List Cond) (fr lo : Nat) (av : List Value) (M : uM) (P : Int32 → sT → Prop) : Prop := CTi l G y ws fr lo av M (fun r M2 => ∃ z2, P r z2 ∧ rI M2 z2 ∧ loS M M2)
def xCl (l : Launch) (G : uG) (y : MethodName) (ws : List Cond) (fr lo : Nat) (av : List Value) (M : uM) (P : Int64 → sT → Prop) : Prop := CTl l G y ws fr lo av M (fun r M2 => ∃ z2, P r z2 ∧ cI M2 z2 ∧ hiS M M2)
def xRl (l : Launch) (G : uG) (y : MethodName) (ws : List Cond) (fr lo : Nat) (av : List Value) (M : uM) (P : Int64 → sT → Prop) : Prop := CTl l G y ws fr lo av M (fun r M2 => ∃ z2, P r z2 ∧ rI M2 z2 ∧ loS M M2)
theorem hi_rf (M : uM) : hiS M M := fun _ _ => rfl
theorem lo_rf (M : uM) : loS M M := fun _ _ => rfl
/-! a sign more -/
def sayZ (z : sT) (x : Int32) : sT := if spSay z.2.2.1 x = -2 ∨ spSay z.2.2.1 x = -4 then z else (z.1, fu z.2.1 z.2.2.1 x.toNatClampNeg, z.2.2.1 + 1, z.2.2.2)
theorem say_in {n : Nat} {x : Int32} (h : ¬ (spSay n x = -2 ∨ spSay n x = -4)) : n < 60 ∧ ∃ c, 33 ≤ c ∧ c ≤ 126 ∧ x = nI c := by
  unfold spSay at h
  by_cases h1 : ¬ inr x 33 126
  · rw [if_pos h1] at h
    exact absurd (Or.inl rfl) h
  · rw [if_neg h1] at h
    have k1 : inr x 33 126 := Classical.byContradiction fun q => h1 q
    by_cases h2 : 60 ≤ n
    · rw [if_pos h2] at h
      exact absurd (Or.inr rfl) h
    · obtain ⟨c, hc, rfl⟩ := u_rng2 (n := 126) (Int32.le_trans (by decide) k1.1) k1.2 (by decide)
      exact ⟨by omega, c, (nI_leI (a := 33) (b := c) (by decide) (by omega)).mp k1.1, hc, rfl⟩
theorem cI_say {M : uM} {z : sT} (x : Int32) (hc : cI M z) : cI (if spSay z.2.2.1 x = -2 ∨ spSay z.2.2.1 x = -4 then M else u1 (u1 M 22 z.2.2.1 x) 21 1 (nI (z.2.2.1 + 1))) (sayZ z x) := by
  unfold sayZ
  by_cases h : spSay z.2.2.1 x = -2 ∨ spSay z.2.2.1 x = -4
  · rw [if_pos h, if_pos h]
    exact hc
  · rw [if_neg h, if_neg h]
    obtain ⟨hn, c, h1, h2, rfl⟩ := say_in h
    obtain ⟨c1, c2, c3, c4, c5, c6, c7, c8, c9⟩ := hc
    have ho : ∀ a, a ≠ 21 → a ≠ 22 → (u1 (u1 M 22 z.2.2.1 (nI c)) 21 1 (nI (z.2.2.1 + 1))).1 a = M.1 a := fun a e1 e2 => (u1_ne e1).trans (u1_ne e2)
    refine ⟨uRd_sm (fun a h1 h2 => ho a (by omega) (by omega)) c1, ⟨fun i => ?_, ?_⟩, wAt_sm (fun a h1 h2 => ho a (by omega) (by omega)) c3, wAt_sm (fun a h1 h2 => ho a (by omega) (by omega)) c4, shAt_sm (fun a h1 h2 => ho a (by omega) (by omega)) c5, shLn_sm (fun a h1 h2 => ho a (by omega) (by omega)) c6, ?_, uRd_sm (fun a h1 h2 => ho a (by omega) (by omega)) c8, uRd_sm (fun a h1 h2 => ho a (by omega) (by omega)) c9⟩
    · rw [u1_ne (by decide), u1_1]
      show _ = nI (fu z.2.1 z.2.2.1 (nI c).toNatClampNeg i)
      rw [nI_clamp (by omega)]
      unfold fu
      by_cases e : i = z.2.2.1
      · rw [if_pos ⟨rfl, e⟩, if_pos e]
      · rw [if_neg (fun q => e q.2), if_neg e]
        exact c2.1 i
    · rw [u1_1, if_pos ⟨rfl, rfl⟩]
    · rw [ho 0 (by decide) (by decide)]
      exact c7
theorem rI_say {M : uM} {z : sT} (x : Int32) (hr : rI M z) : rI (if spSay z.2.2.1 x = -2 ∨ spSay z.2.2.1 x = -4 then M else u1 (u1 M 80 z.2.2.1 x) 71 12 (nI (z.2.2.1 + 1))) (sayZ z x) := by
  unfold sayZ
  by_cases h : spSay z.2.2.1 x = -2 ∨ spSay z.2.2.1 x = -4
  · rw [if_pos h, if_pos h]
    exact hr
  · rw [if_neg h, if_neg h]
    obtain ⟨hn, c, h1, h2, rfl⟩ := say_in h
    obtain ⟨r1, r2, r3, r4⟩ := hr
    have ho : ∀ a, a ≠ 71 → a ≠ 80 → (u1 (u1 M 80 z.2.2.1 (nI c)) 71 12 (nI (z.2.2.1 + 1))).1 a = M.1 a := fun a e1 e2 => (u1_ne e1).trans (u1_ne e2)
    refine ⟨uMd_in r1 (fun a i q => ?_), fun i => ?_, ?_, kI_sm (ho 94 (by decide) (by decide)) (ho 95 (by decide) (by decide)) r4⟩
    · unfold mO at q
      rw [u1_1, if_neg (by omega), u1_1, if_neg (by omega)]
    · rw [u1_ne (by decide), u1_1]
      show _ = nI (fu z.2.1 z.2.2.1 (nI c).toNatClampNeg i)
      rw [nI_clamp (by omega)]
      unfold fu
      by_cases e : i = z.2.2.1
      · rw [if_pos ⟨rfl, e⟩, if_pos e]
      · rw [if_neg (fun q => e q.2), if_neg e]
        exact r2 i
    · rw [u1_1, if_pos ⟨rfl, rfl⟩]
theorem oI_say {z : sT} (x : Int32) (ho : oI z) : oI (sayZ z x) := by
  unfold sayZ
  by_cases h : spSay z.2.2.1 x = -2 ∨ spSay z.2.2.1 x = -4
  · rw [if_pos h]
    exact ho
  · rw [if_neg h]
    obtain ⟨hn, c, h1, h2, rfl⟩ := say_in h
    obtain ⟨o1, ⟨o2, o3, o4⟩, o5⟩ := ho
    rw [nI_clamp (by omega)]
    refine ⟨o1, ⟨?_, fun i hi => ?_, fun i => ?_⟩, o5⟩
    · show z.2.2.1 + 1 ≤ 60
      omega
    · show fu _ _ _ i = 0
      rw [fu_ne (by omega)]
      exact o3 i hi
    · show fu _ _ _ i < 127
      unfold fu
      split
      · omega
      · exact o4 i
/-! the pad is empty -/
theorem cI_wipe {M : uM} {z : sT} (hc : cI M z) : cI (u1 M 21 1 0) (z.1, z.2.1, 0, z.2.2.2) := by
  obtain ⟨c1, c2, c3, c4, c5, c6, c7, c8, c9⟩ := hc
  have ho : ∀ a, a ≠ 21 → (u1 M 21 1 0).1 a = M.1 a := fun a e1 => u1_ne e1
  refine ⟨uRd_sm (fun a h1 h2 => ho a (by omega)) c1, ⟨fun i => ?_, ?_⟩, wAt_sm (fun a h1 h2 => ho a (by omega)) c3, wAt_sm (fun a h1 h2 => ho a (by omega)) c4, shAt_sm (fun a h1 h2 => ho a (by omega)) c5, shLn_sm (fun a h1 h2 => ho a (by omega)) c6, ?_, uRd_sm (fun a h1 h2 => ho a (by omega)) c8, uRd_sm (fun a h1 h2 => ho a (by omega)) c9⟩
  · rw [ho 22 (by decide)]
    exact c2.1 i
  · rw [u1_1, if_pos ⟨rfl, rfl⟩]
    rfl
  · rw [ho 0 (by decide)]
    exact c7
theorem rI_n {M M2 : uM} {z : sT} {w : Nat → Nat → Nat} {n : Nat} (hr : rI M z) (h1 : uMd M2 w) (h2 : M2.1 71 12 = nI n) (h3 : mOut M M2) : rI M2 (w, z.2.1, n, z.2.2.2) := by
  obtain ⟨r1, r2, r3, r4⟩ := hr
  refine ⟨h1, fun i => ?_, h2, kI_sm (funext fun i => h3 94 i (by omega)) (funext fun i => h3 95 i (by omega)) r4⟩
  rw [h3 80 i (by omega)]
  exact r2 i
theorem rI_wipe {M : uM} {z : sT} (hr : rI M z) : rI (u1 M 71 12 0) (z.1, z.2.1, 0, z.2.2.2) := rI_n hr (uMd_in hr.1 (fun a i q => by
  unfold mO at q
  rw [u1_1, if_neg (by omega)])) (by rw [u1_1, if_pos ⟨rfl, rfl⟩]; rfl) (fun a i q => by rw [u1_1, if_neg (by omega)])
theorem oI_n0 {z : sT} {w : Nat → Nat → Nat} (ho : oI z) (hw : wOk w) : oI (w, z.2.1, 0, z.2.2.2) := by
  obtain ⟨o1, ⟨o2, o3, o4⟩, o5⟩ := ho
  exact ⟨hw, ⟨Nat.zero_le _, o3, o4⟩, o5⟩
theorem lo_out {M M2 : uM} (h : mOut M M2) : loS M M2 := fun a ha => funext fun i => h a i (Or.inl ha)
theorem c_X12_faultG (l : Launch) (G : uG) (s : Nat → Nat) (n : Nat) (M : uM) (hs80 : ∀ i, M.1 80 i = nI (s i)) (hn : M.1 71 12 = nI n) (ho : pdOk s n) : CTi l G yX12_fault wsX12_fault 5 109 [.ref (G.2.2 71)] M (fun r M2 => r = cFault s n ∧ mSm M M2) := by
  obtain ⟨f, A, V, T, Q, hpM, hf12⟩ := pM_ex (M := M) (n := n) hn
  have h9 := c_X12_fault l G s n M f A V T Q hs80 hf12 ho
  change CTi l G yX12_fault wsX12_fault _ _ _ (pM M f A V T Q) _ at h9
  rw [hpM] at h9
  refine CTi_mono h9 (fun r M2 hp => ?_)
  obtain ⟨h1, f2, A2, W2, T2, Q2, rfl, h2, -⟩ := hp
  exact ⟨h1, mSm_pM hpM h2⟩

def p_thing (z : sT) (x o a v g : Int32) (r : Int32) (z2 : sT) : Prop := r = (spThing z.1 x o a v g).1 ∧ z2 = ((spThing z.1 x o a v g).2, z.2)
theorem xc_thing (l : Launch) (G : uG) (M : uM) (z : sT) (x o a v g : Int32) (hc : cI M z) (ho : oI z) : xC l G yX11_thing wsX11_thing 2 42 [.ref (G.2.2 0), .int x, .int o, .int a, .int v, .int g] M (p_thing z x o a v g) := by
  have h := c_X11_thing l G x o a v g M z.1
  rw [uPW_id hc.1] at h
  exact CTi_mono h (fun r M2 hp => ⟨_, ⟨hp.1, rfl⟩, by rw [hp.2]; exact cI_w _ hc, by rw [hp.2]; exact hi_PW _ _ (by decide)⟩)
theorem xr_thing (l : Launch) (G : uG) (M : uM) (z : sT) (x o a v g : Int32) (hr : rI M z) (ho : oI z) : xR l G yX12_thing wsX12_thing 2 45 [.ref (G.2.2 71), .int x, .int o, .int a, .int v, .int g] M (p_thing z x o a v g) := by
  have h := c_X12_thing l G x o a v g M z.1
  rw [show uPM M z.1 = M from hr.1] at h
  exact CTi_mono h (fun r M2 hp => ⟨_, ⟨hp.1, rfl⟩, by rw [hp.2]; exact rI_w _ hr, by rw [hp.2]; exact lo_PM _ _⟩)
theorem xu_thing {z z1 z2 : sT} {x o a v g : Int32} {r1 r2 : Int32} (h1 : p_thing z x o a v g r1 z1) (h2 : p_thing z x o a v g r2 z2) : r1 = r2 ∧ z1 = z2 := ⟨h1.1.trans h2.1.symm, h1.2.trans h2.2.symm⟩
theorem xo_thing {z z2 : sT} {x o a v g : Int32} {r : Int32} (ho : oI z) (h : p_thing z x o a v g r z2) : oI z2 := by
  rw [h.2]
  exact ⟨sp_thing_ok ho.1 x o a v g, ho.2⟩
def p_one (z : sT) (x c d : Int32) (r : Int32) (z2 : sT) : Prop := r = (spOne z.1 x c d).1 ∧ z2 = ((spOne z.1 x c d).2, z.2)
theorem xc_one (l : Launch) (G : uG) (M : uM) (z : sT) (x c d : Int32) (hc : cI M z) (ho : oI z) : xC l G yX11_one wsX11_one 2 42 [.ref (G.2.2 0), .int x, .int c, .int d] M (p_one z x c d) := by
  have h := c_X11_one l G x c d M z.1 ho.1.2.2.1
  rw [uPW_id hc.1] at h
  exact CTi_mono h (fun r M2 hp => ⟨_, ⟨hp.1, rfl⟩, by rw [hp.2]; exact cI_w _ hc, by rw [hp.2]; exact hi_PW _ _ (by decide)⟩)
theorem xr_one (l : Launch) (G : uG) (M : uM) (z : sT) (x c d : Int32) (hr : rI M z) (ho : oI z) : xR l G yX12_one wsX12_one 2 45 [.ref (G.2.2 71), .int x, .int c, .int d] M (p_one z x c d) := by
  have h := c_X12_one l G x c d M z.1 ho.1.2.2.1
  rw [show uPM M z.1 = M from hr.1] at h
  exact CTi_mono h (fun r M2 hp => ⟨_, ⟨hp.1, rfl⟩, by rw [hp.2]; exact rI_w _ hr, by rw [hp.2]; exact lo_PM _ _⟩)
theorem xu_one {z z1 z2 : sT} {x c d : Int32} {r1 r2 : Int32} (h1 : p_one z x c d r1 z1) (h2 : p_one z x c d r2 z2) : r1 = r2 ∧ z1 = z2 := ⟨h1.1.trans h2.1.symm, h1.2.trans h2.2.symm⟩
theorem xo_one {z z2 : sT} {x c d : Int32} {r : Int32} (ho : oI z) (h : p_one z x c d r z2) : oI z2 := by
  rw [h.2]
  exact ⟨sp_one_ok ho.1 x c d, ho.2⟩
def p_brothers1 (z : sT) (x y : Int32) (r : Int32) (z2 : sT) : Prop := r = (spBro z.1 x y 1).1 ∧ z2 = ((spBro z.1 x y 1).2, z.2)
theorem xc_brothers1 (l : Launch) (G : uG) (M : uM) (z : sT) (x y : Int32) (hc : cI M z) (ho : oI z) : xC l G yX11_brothers wsX11_brothers 2 46 [.ref (G.2.2 0), .int x, .int y, .int 1] M (p_brothers1 z x y) := by
  have h := c_X11_brothers1 l G x y M z.1 (fun k hk => (ho.1.2.1 k hk).2.1)
  rw [uPW_id hc.1] at h
  exact CTi_mono h (fun r M2 hp => ⟨_, ⟨hp.1, rfl⟩, by rw [hp.2]; exact cI_w _ hc, by rw [hp.2]; exact hi_PW _ _ (by decide)⟩)
theorem xr_brothers1 (l : Launch) (G : uG) (M : uM) (z : sT) (x y : Int32) (hr : rI M z) (ho : oI z) : xR l G yX12_brothers wsX12_brothers 2 45 [.ref (G.2.2 71), .int x, .int y, .int 1] M (p_brothers1 z x y) := by
  have h := c_X12_brothers1 l G x y M z.1 (fun k hk => (ho.1.2.1 k hk).2.1)
  rw [show uPM M z.1 = M from hr.1] at h
  exact CTi_mono h (fun r M2 hp => ⟨_, ⟨hp.1, rfl⟩, by rw [hp.2]; exact rI_w _ hr, by rw [hp.2]; exact lo_PM _ _⟩)
theorem xu_brothers1 {z z1 z2 : sT} {x y : Int32} {r1 r2 : Int32} (h1 : p_brothers1 z x y r1 z1) (h2 : p_brothers1 z x y r2 z2) : r1 = r2 ∧ z1 = z2 := ⟨h1.1.trans h2.1.symm, h1.2.trans h2.2.symm⟩
theorem xo_brothers1 {z z2 : sT} {x y : Int32} {r : Int32} (ho : oI z) (h : p_brothers1 z x y r z2) : oI z2 := by
  rw [h.2]
  exact ⟨sp_bro_ok ho.1 x y 1, ho.2⟩
def p_brothers0 (z : sT) (x y : Int32) (r : Int32) (z2 : sT) : Prop := r = (spBro z.1 x y 0).1 ∧ z2 = ((spBro z.1 x y 0).2, z.2)
theorem xc_brothers0 (l : Launch) (G : uG) (M : uM) (z : sT) (x y : Int32) (hc : cI M z) (ho : oI z) : xC l G yX11_brothers wsX11_brothers 2 46 [.ref (G.2.2 0), .int x, .int y, .int 0] M (p_brothers0 z x y) := by
  have h := c_X11_brothers0 l G x y M z.1 (fun k hk => (ho.1.2.1 k hk).2.1)
  rw [uPW_id hc.1] at h
  exact CTi_mono h (fun r M2 hp => ⟨_, ⟨hp.1, rfl⟩, by rw [hp.2]; exact cI_w _ hc, by rw [hp.2]; exact hi_PW _ _ (by decide)⟩)
theorem xr_brothers0 (l : Launch) (G : uG) (M : uM) (z : sT) (x y : Int32) (hr : rI M z) (ho : oI z) : xR l G yX12_brothers wsX12_brothers 2 45 [.ref (G.2.2 71), .int x, .int y, .int 0] M (p_brothers0 z x y) := by
  have h := c_X12_brothers0 l G x y M z.1 (fun k hk => (ho.1.2.1 k hk).2.1)
  rw [show uPM M z.1 = M from hr.1] at h
  exact CTi_mono h (fun r M2 hp => ⟨_, ⟨hp.1, rfl⟩, by rw [hp.2]; exact rI_w _ hr, by rw [hp.2]; exact lo_PM _ _⟩)
theorem xu_brothers0 {z z1 z2 : sT} {x y : Int32} {r1 r2 : Int32} (h1 : p_brothers0 z x y r1 z1) (h2 : p_brothers0 z x y r2 z2) : r1 = r2 ∧ z1 = z2 := ⟨h1.1.trans h2.1.symm, h1.2.trans h2.2.symm⟩
theorem xo_brothers0 {z z2 : sT} {x y : Int32} {r : Int32} (ho : oI z) (h : p_brothers0 z x y r z2) : oI z2 := by
  rw [h.2]
  exact ⟨sp_bro_ok ho.1 x y 0, ho.2⟩
def p_ahead (z : sT) (x y : Int32) (r : Int32) (z2 : sT) : Prop := r = (spAhead z.1 x y).1 ∧ z2 = ((spAhead z.1 x y).2, z.2)
theorem xc_ahead (l : Launch) (G : uG) (M : uM) (z : sT) (x y : Int32) (hc : cI M z) (ho : oI z) : xC l G yX11_ahead wsX11_ahead 2 44 [.ref (G.2.2 0), .int x, .int y] M (p_ahead z x y) := by
  have h := c_X11_ahead l G x y M z.1 ho.1.2.2.2.2.1
  rw [uPW_id hc.1] at h
  exact CTi_mono h (fun r M2 hp => ⟨_, ⟨hp.1, rfl⟩, by rw [hp.2]; exact cI_w _ hc, by rw [hp.2]; exact hi_PW _ _ (by decide)⟩)
theorem xr_ahead (l : Launch) (G : uG) (M : uM) (z : sT) (x y : Int32) (hr : rI M z) (ho : oI z) : xR l G yX12_ahead wsX12_ahead 1 25 [.ref (G.2.2 71), .int x, .int y] M (p_ahead z x y) := by
  have h := c_X12_ahead l G x y M z.1 ho.1.2.2.2.2.1
  rw [show uPM M z.1 = M from hr.1] at h
  exact CTi_mono h (fun r M2 hp => ⟨_, ⟨hp.1, rfl⟩, by rw [hp.2]; exact rI_w _ hr, by rw [hp.2]; exact lo_PM _ _⟩)
theorem xu_ahead {z z1 z2 : sT} {x y : Int32} {r1 r2 : Int32} (h1 : p_ahead z x y r1 z1) (h2 : p_ahead z x y r2 z2) : r1 = r2 ∧ z1 = z2 := ⟨h1.1.trans h2.1.symm, h1.2.trans h2.2.symm⟩
theorem xo_ahead {z z2 : sT} {x y : Int32} {r : Int32} (ho : oI z) (h : p_ahead z x y r z2) : oI z2 := by
  rw [h.2]
  exact ⟨sp_ahead_ok ho.1 x y, ho.2⟩
def p_forget (z : sT) (r : Int32) (z2 : sT) : Prop := r = nI (z.1 7 2) ∧ z2 = (wu z.1 7 2 0, z.2)
theorem xc_forget (l : Launch) (G : uG) (M : uM) (z : sT) (hc : cI M z) (ho : oI z) : xC l G yX11_forget wsX11_forget 0 0 [.ref (G.2.2 0)] M (p_forget z) := by
  have h := c_X11_forget l G M z.1
  rw [uPW_id hc.1] at h
  exact CTi_mono h (fun r M2 hp => ⟨_, ⟨hp.1, rfl⟩, by rw [hp.2]; exact cI_w _ hc, by rw [hp.2]; exact hi_PW _ _ (by decide)⟩)
theorem xr_forget (l : Launch) (G : uG) (M : uM) (z : sT) (hr : rI M z) (ho : oI z) : xR l G yX12_forget wsX12_forget 0 0 [.ref (G.2.2 71)] M (p_forget z) := by
  have h := c_X12_forget l G M z.1
  rw [show uPM M z.1 = M from hr.1] at h
  exact CTi_mono h (fun r M2 hp => ⟨_, ⟨hp.1, rfl⟩, by rw [hp.2]; exact rI_w _ hr, by rw [hp.2]; exact lo_PM _ _⟩)
theorem xu_forget {z z1 z2 : sT} {r1 r2 : Int32} (h1 : p_forget z r1 z1) (h2 : p_forget z r2 z2) : r1 = r2 ∧ z1 = z2 := ⟨h1.1.trans h2.1.symm, h1.2.trans h2.2.symm⟩
theorem xo_forget {z z2 : sT} {r : Int32} (ho : oI z) (h : p_forget z r z2) : oI z2 := by
  rw [h.2]
  exact ⟨wOk_72 ho.1 (Nat.zero_le _), ho.2⟩
def p_say (z : sT) (x : Int32) (r : Int32) (z2 : sT) : Prop := r = spSay z.2.2.1 x ∧ z2 = sayZ z x
theorem xc_say (l : Launch) (G : uG) (M : uM) (z : sT) (x : Int32) (hc : cI M z) (ho : oI z) : xC l G yX11_say wsX11_say 2 43 [.ref (G.2.2 0), .int x] M (p_say z x) := by
  exact CTi_mono (c_X11_say l G x M z.2.2.1 hc.2.1.2 ho.2.1.1) (fun r M2 hp => ⟨_, ⟨hp.1, rfl⟩, by rw [hp.2]; exact cI_say x hc, by
    rw [hp.2]
    intro a ha
    split
    · rfl
    · exact (u1_ne (by omega)).trans (u1_ne (by omega))⟩)
theorem xr_say (l : Launch) (G : uG) (M : uM) (z : sT) (x : Int32) (hr : rI M z) (ho : oI z) : xR l G yX12_say wsX12_say 1 25 [.ref (G.2.2 71), .int x] M (p_say z x) := by
  exact CTi_mono (c_X12_say l G x M z.2.2.1 hr.2.2.1 ho.2.1.1) (fun r M2 hp => ⟨_, ⟨hp.1, rfl⟩, by rw [hp.2]; exact rI_say x hr, by
    rw [hp.2]
    intro a ha
    split
    · rfl
    · exact (u1_ne (by omega)).trans (u1_ne (by omega))⟩)
theorem xu_say {z z1 z2 : sT} {x : Int32} {r1 r2 : Int32} (h1 : p_say z x r1 z1) (h2 : p_say z x r2 z2) : r1 = r2 ∧ z1 = z2 := ⟨h1.1.trans h2.1.symm, h1.2.trans h2.2.symm⟩
theorem xo_say {z z2 : sT} {x : Int32} {r : Int32} (ho : oI z) (h : p_say z x r z2) : oI z2 := by
  rw [h.2]
  exact oI_say x ho
def p_wipe (z : sT) (r : Int32) (z2 : sT) : Prop := r = nI z.2.2.1 ∧ z2 = (z.1, z.2.1, 0, z.2.2.2)
theorem xc_wipe (l : Launch) (G : uG) (M : uM) (z : sT) (hc : cI M z) (ho : oI z) : xC l G yX11_wipe wsX11_wipe 0 0 [.ref (G.2.2 0)] M (p_wipe z) := by
  exact CTi_mono (c_X11_wipe l G M z.2.2.1 hc.2.1.2) (fun r M2 hp => ⟨_, ⟨hp.1, rfl⟩, by rw [hp.2]; exact cI_wipe hc, by rw [hp.2]; exact fun a ha => u1_ne (by omega)⟩)
theorem xr_wipe (l : Launch) (G : uG) (M : uM) (z : sT) (hr : rI M z) (ho : oI z) : xR l G yX12_wipe wsX12_wipe 0 0 [.ref (G.2.2 71)] M (p_wipe z) := by
  exact CTi_mono (c_X12_wipe l G M z.2.2.1 hr.2.2.1) (fun r M2 hp => ⟨_, ⟨hp.1, rfl⟩, by rw [hp.2]; exact rI_wipe hr, by rw [hp.2]; exact fun a ha => u1_ne (by omega)⟩)
theorem xu_wipe {z z1 z2 : sT} {r1 r2 : Int32} (h1 : p_wipe z r1 z1) (h2 : p_wipe z r2 z2) : r1 = r2 ∧ z1 = z2 := ⟨h1.1.trans h2.1.symm, h1.2.trans h2.2.symm⟩
theorem xo_wipe {z z2 : sT} {r : Int32} (ho : oI z) (h : p_wipe z r z2) : oI z2 := by
  rw [h.2]
  exact oI_n0 ho ho.1
def p_fault (z : sT) (r : Int32) (z2 : sT) : Prop := r = cFault z.2.1 z.2.2.1 ∧ z2 = z
theorem xc_fault (l : Launch) (G : uG) (M : uM) (z : sT) (hc : cI M z) (ho : oI z) : xC l G yX11_fault wsX11_fault 3 67 [.ref (G.2.2 0)] M (p_fault z) := by
  exact CTi_mono (c_X11_fault l G M z.2.1 z.2.2.1 hc.2.1 ho.2.1) (fun r M2 hp => ⟨_, ⟨hp.1, rfl⟩, by rw [hp.2]; exact hc, by rw [hp.2]; exact hi_rf _⟩)
theorem xr_fault (l : Launch) (G : uG) (M : uM) (z : sT) (hr : rI M z) (ho : oI z) : xR l G yX12_fault wsX12_fault 5 109 [.ref (G.2.2 71)] M (p_fault z) := by
  exact CTi_mono (c_X12_faultG l G z.2.1 z.2.2.1 M hr.2.1 hr.2.2.1 ho.2.1) (fun r M2 hp => ⟨_, ⟨hp.1, rfl⟩, rI_mS hp.2 hr, lo_mS hp.2⟩)
theorem xu_fault {z z1 z2 : sT} {r1 r2 : Int32} (h1 : p_fault z r1 z1) (h2 : p_fault z r2 z2) : r1 = r2 ∧ z1 = z2 := ⟨h1.1.trans h2.1.symm, h1.2.trans h2.2.symm⟩
theorem xo_fault {z z2 : sT} {r : Int32} (ho : oI z) (h : p_fault z r z2) : oI z2 := by
  rw [h.2]
  exact ho
def p_judge (z : sT) (h : Int32) (r : Int32) (z2 : sT) : Prop := SpJudge z.2.1 z.2.2.1 z.1 h r ∧ z2 = z
theorem xc_judge (l : Launch) (G : uG) (M : uM) (z : sT) (h : Int32) (hc : cI M z) (ho : oI z) : xC l G yX11_judge wsX11_judge 6 145 [.ref (G.2.2 0), .int h] M (p_judge z h) := by
  exact CTi_mono (c_X11_judge l G h M z.1 z.2.1 z.2.2.1 hc.1 ho.1 hc.2.1 ho.2.1 hc.2.2.2.1) (fun r M2 hp => ⟨_, ⟨hp.1, rfl⟩, cI_tr hp.2.1 hp.2.2 hc, hi_sm hp.2.1 (by decide)⟩)
theorem xr_judge (l : Launch) (G : uG) (M : uM) (z : sT) (h : Int32) (hr : rI M z) (ho : oI z) : xR l G yX12_judge wsX12_judge 7 151 [.ref (G.2.2 71), .int h] M (p_judge z h) := by
  exact CTi_mono (c_X12_judge l G h M z.1 z.2.1 z.2.2.1 hr.1 ho.1 hr.2.1 hr.2.2.1 ho.2.1) (fun r M2 hp => ⟨_, ⟨hp.1, rfl⟩, rI_mS hp.2 hr, lo_mS hp.2⟩)
theorem xu_judge {z z1 z2 : sT} {h : Int32} {r1 r2 : Int32} (h1 : p_judge z h r1 z1) (h2 : p_judge z h r2 z2) : r1 = r2 ∧ z1 = z2 := ⟨SpJudge_1 h1.1 h2.1, h1.2.trans h2.2.symm⟩
theorem xo_judge {z z2 : sT} {h : Int32} {r : Int32} (ho : oI z) (h : p_judge z h r z2) : oI z2 := by
  rw [h.2]
  exact ho
def p_behind (z : sT) (t h : Int32) (r : Int32) (z2 : sT) : Prop := SpBehind z.2.1 z.2.2.1 z.1 t h r ∧ z2 = z
theorem xc_behind (l : Launch) (G : uG) (M : uM) (z : sT) (t h : Int32) (hc : cI M z) (ho : oI z) : xC l G yX11_behind wsX11_behind 6 145 [.ref (G.2.2 0), .int t, .int h] M (p_behind z t h) := by
  exact CTi_mono (c_X11_behind l G t h M z.1 z.2.1 z.2.2.1 hc.1 ho.1 hc.2.1 ho.2.1 hc.2.2.2.1) (fun r M2 hp => ⟨_, ⟨hp.1, rfl⟩, cI_tr hp.2.1 hp.2.2 hc, hi_sm hp.2.1 (by decide)⟩)
theorem xr_behind (l : Launch) (G : uG) (M : uM) (z : sT) (t h : Int32) (hr : rI M z) (ho : oI z) : xR l G yX12_behind wsX12_behind 7 151 [.ref (G.2.2 71), .int t, .int h] M (p_behind z t h) := by
  exact CTi_mono (c_X12_behind l G t h M z.1 z.2.1 z.2.2.1 hr.1 ho.1 hr.2.1 hr.2.2.1 ho.2.1) (fun r M2 hp => ⟨_, ⟨hp.1, rfl⟩, rI_mS hp.2 hr, lo_mS hp.2⟩)
theorem xu_behind {z z1 z2 : sT} {t h : Int32} {r1 r2 : Int32} (h1 : p_behind z t h r1 z1) (h2 : p_behind z t h r2 z2) : r1 = r2 ∧ z1 = z2 := ⟨SpBehind_1 h1.1 h2.1, h1.2.trans h2.2.symm⟩
theorem xo_behind {z z2 : sT} {t h : Int32} {r : Int32} (ho : oI z) (h : p_behind z t h r z2) : oI z2 := by
  rw [h.2]
  exact ho
def p_purse (z : sT) (k h : Int32) (r : Int32) (z2 : sT) : Prop := SpPurse z.2.1 z.2.2.1 z.1 k h r ∧ z2 = z
theorem xc_purse (l : Launch) (G : uG) (M : uM) (z : sT) (k h : Int32) (hc : cI M z) (ho : oI z) : xC l G yX11_purse wsX11_purse 6 145 [.ref (G.2.2 0), .int k, .int h] M (p_purse z k h) := by
  exact CTi_mono (c_X11_purse l G k h M z.1 z.2.1 z.2.2.1 hc.1 ho.1 hc.2.1 ho.2.1 hc.2.2.2.1) (fun r M2 hp => ⟨_, ⟨hp.1, rfl⟩, cI_tr hp.2.1 hp.2.2 hc, hi_sm hp.2.1 (by decide)⟩)
theorem xr_purse (l : Launch) (G : uG) (M : uM) (z : sT) (k h : Int32) (hr : rI M z) (ho : oI z) : xR l G yX12_purse wsX12_purse 7 151 [.ref (G.2.2 71), .int k, .int h] M (p_purse z k h) := by
  exact CTi_mono (c_X12_purse l G k h M z.1 z.2.1 z.2.2.1 hr.1 ho.1 hr.2.1 hr.2.2.1 ho.2.1) (fun r M2 hp => ⟨_, ⟨hp.1, rfl⟩, rI_mS hp.2 hr, lo_mS hp.2⟩)
theorem xu_purse {z z1 z2 : sT} {k h : Int32} {r1 r2 : Int32} (h1 : p_purse z k h r1 z1) (h2 : p_purse z k h r2 z2) : r1 = r2 ∧ z1 = z2 := ⟨SpPurse_1 h1.1 h2.1, h1.2.trans h2.2.symm⟩
theorem xo_purse {z z2 : sT} {k h : Int32} {r : Int32} (ho : oI z) (h : p_purse z k h r z2) : oI z2 := by
  rw [h.2]
  exact ho
def p_sold (z : sT) (h : Int32) (r : Int32) (z2 : sT) : Prop := SpSold z.2.1 z.2.2.1 z.1 h r ∧ z2 = z
theorem xc_sold (l : Launch) (G : uG) (M : uM) (z : sT) (h : Int32) (hc : cI M z) (ho : oI z) : xC l G yX11_sold wsX11_sold 6 145 [.ref (G.2.2 0), .int h] M (p_sold z h) := by
  exact CTi_mono (c_X11_sold l G h M z.1 z.2.1 z.2.2.1 hc.1 ho.1 hc.2.1 ho.2.1 hc.2.2.2.1) (fun r M2 hp => ⟨_, ⟨hp.1, rfl⟩, cI_tr hp.2.1 hp.2.2 hc, hi_sm hp.2.1 (by decide)⟩)
theorem xr_sold (l : Launch) (G : uG) (M : uM) (z : sT) (h : Int32) (hr : rI M z) (ho : oI z) : xR l G yX12_sold wsX12_sold 7 151 [.ref (G.2.2 71), .int h] M (p_sold z h) := by
  exact CTi_mono (c_X12_sold l G h M z.1 z.2.1 z.2.2.1 hr.1 ho.1 hr.2.1 hr.2.2.1 ho.2.1) (fun r M2 hp => ⟨_, ⟨hp.1, rfl⟩, rI_mS hp.2 hr, lo_mS hp.2⟩)
theorem xu_sold {z z1 z2 : sT} {h : Int32} {r1 r2 : Int32} (h1 : p_sold z h r1 z1) (h2 : p_sold z h r2 z2) : r1 = r2 ∧ z1 = z2 := ⟨SpSold_1 h1.1 h2.1, h1.2.trans h2.2.symm⟩
theorem xo_sold {z z2 : sT} {h : Int32} {r : Int32} (ho : oI z) (h : p_sold z h r z2) : oI z2 := by
  rw [h.2]
  exact ho
def p_done (z : sT) (r : Int32) (z2 : sT) : Prop := (¬ cFault z.2.1 z.2.2.1 = -6 ∧ r = -5 ∧ z2 = z) ∨ (∃ x, rnOf z.2.1 z.2.2.1 z.1 (-3) x ∧ r = -3 ∧ z2 = z) ∨ (∃ x, rnOf z.2.1 z.2.2.1 z.1 0 x ∧ r = nI x.2.1 ∧ z2 = (x.1, z.2.1, 0, z.2.2.2))
theorem xc_done (l : Launch) (G : uG) (M : uM) (z : sT) (hc : cI M z) (ho : oI z) : xC l G yX11_done wsX11_done 6 145 [.ref (G.2.2 0)] M (p_done z) := by
  refine CTi_mono (c_X11_done l G M z.1 z.2.1 z.2.2.1 hc.1 ho.1 hc.2.1 ho.2.1 hc.2.2.2.1) (fun r M2 hp => ?_)
  rcases hp with ⟨h1, h2, rfl⟩ | ⟨x, h1, h2, rfl⟩ | ⟨x, h1, h2, rfl⟩
  · exact ⟨z, Or.inl ⟨h1, h2, rfl⟩, hc, hi_rf _⟩
  · exact ⟨z, Or.inr (Or.inl ⟨x, h1, h2, rfl⟩), cI_tr (uSm_tM M x) (wAt_tM (rnOf_ok ho.2.1 ho.1 h1)) hc, hi_sm (uSm_tM M x) (by decide)⟩
  · have hc2 := cI_w x.1 (cI_tr (uSm_tM M x) (wAt_tM (rnOf_ok ho.2.1 ho.1 h1)) hc)
    refine ⟨_, Or.inr (Or.inr ⟨x, h1, h2, rfl⟩), cI_wipe hc2, fun a ha => ?_⟩
    rw [u1_ne (by omega), PW_out _ _ _ (by omega)]
    exact hi_sm (uSm_tM M x) (by decide) a ha
theorem xr_done (l : Launch) (G : uG) (M : uM) (z : sT) (hr : rI M z) (ho : oI z) : xR l G yX12_done wsX12_done 7 151 [.ref (G.2.2 71)] M (p_done z) := by
  refine CTi_mono (c_X12_done l G M z.1 z.2.1 z.2.2.1 hr.1 ho.1 hr.2.1 hr.2.2.1 ho.2.1) (fun r M2 hp => ?_)
  rcases hp with ⟨h1, h2, h3⟩ | ⟨x, h1, h2, h3⟩ | ⟨x, h1, h2, h3, h4, h5⟩
  · exact ⟨z, Or.inl ⟨h1, h2, rfl⟩, rI_mS h3 hr, lo_mS h3⟩
  · exact ⟨z, Or.inr (Or.inl ⟨x, h1, h2, rfl⟩), rI_mS h3 hr, lo_mS h3⟩
  · exact ⟨_, Or.inr (Or.inr ⟨x, h1, h2, rfl⟩), rI_n hr h3 h4 h5, lo_out h5⟩
theorem xu_done {z z1 z2 : sT} {r1 r2 : Int32} (h1 : p_done z r1 z1) (h2 : p_done z r2 z2) : r1 = r2 ∧ z1 = z2 := by
  rcases h1 with ⟨a1, a2, a3⟩ | ⟨x, a1, a2, a3⟩ | ⟨x, a1, a2, a3⟩ <;> rcases h2 with ⟨b1, b2, b3⟩ | ⟨x', b1, b2, b3⟩ | ⟨x', b1, b2, b3⟩
  · exact ⟨a2.trans b2.symm, a3.trans b3.symm⟩
  · exact absurd b1.1 a1
  · exact absurd b1.1 a1
  · exact absurd a1.1 b1
  · exact ⟨a2.trans b2.symm, a3.trans b3.symm⟩
  · exact absurd (rnOf_1 a1 b1).1 (by decide)
  · exact absurd a1.1 b1
  · exact absurd (rnOf_1 a1 b1).1 (by decide)
  · obtain ⟨-, e⟩ := rnOf_1 a1 b1
    subst e
    exact ⟨a2.trans b2.symm, a3.trans b3.symm⟩
theorem xo_done {z z2 : sT} {r : Int32} (ho : oI z) (h : p_done z r z2) : oI z2 := by
  rcases h with ⟨-, -, e⟩ | ⟨x, -, -, e⟩ | ⟨x, h1, -, e⟩
  · rw [e]; exact ho
  · rw [e]; exact ho
  · rw [e]; exact oI_n0 ho (rnOf_ok ho.2.1 ho.1 h1)
def p_sack (z : sT) (x c h : Int32) (r : Int32) (z2 : sT) : Prop := r = spSack z.1 x c h ∧ z2 = z
theorem xc_sack (l : Launch) (G : uG) (M : uM) (z : sT) (x c h : Int32) (hc : cI M z) (ho : oI z) : xC l G yX11_sack wsX11_sack 3 72 [.ref (G.2.2 0), .int x, .int c, .int h] M (p_sack z x c h) := by
  exact CTi_mono (c_X11_sack l G x c h M z.1 hc.1 ho.1) (fun r M2 hp => ⟨_, ⟨hp.1, rfl⟩, cI_sc hp.2 (by decide) (by decide) hc, hi_sm hp.2 (by decide)⟩)
theorem xr_sack (l : Launch) (G : uG) (M : uM) (z : sT) (x c h : Int32) (hr : rI M z) (ho : oI z) : xR l G yX12_sack wsX12_sack 2 45 [.ref (G.2.2 71), .int x, .int c, .int h] M (p_sack z x c h) := by
  exact CTi_mono (c_X12_sack l G x c h M z.1 hr.1 ho.1) (fun r M2 hp => ⟨_, ⟨hp.1, rfl⟩, by rw [hp.2]; exact hr, by rw [hp.2]; exact lo_rf _⟩)
theorem xu_sack {z z1 z2 : sT} {x c h : Int32} {r1 r2 : Int32} (h1 : p_sack z x c h r1 z1) (h2 : p_sack z x c h r2 z2) : r1 = r2 ∧ z1 = z2 := ⟨h1.1.trans h2.1.symm, h1.2.trans h2.2.symm⟩
theorem xo_sack {z z2 : sT} {x c h : Int32} {r : Int32} (ho : oI z) (h : p_sack z x c h r z2) : oI z2 := by
  rw [h.2]
  exact ho
def p_careers (z : sT) (n e : Int32) (r : Int32) (z2 : sT) : Prop := r = spCareers z.1 n e ∧ z2 = z
theorem xc_careers (l : Launch) (G : uG) (M : uM) (z : sT) (n e : Int32) (hc : cI M z) (ho : oI z) : xC l G yX11_careers wsX11_careers 2 47 [.ref (G.2.2 0), .int n, .int e] M (p_careers z n e) := by
  exact CTi_mono (c_X11_careers l G n e M z.1 hc.1 ho.1) (fun r M2 hp => ⟨_, ⟨hp.1, rfl⟩, by rw [hp.2]; exact hc, by rw [hp.2]; exact hi_rf _⟩)
theorem xr_careers (l : Launch) (G : uG) (M : uM) (z : sT) (n e : Int32) (hr : rI M z) (ho : oI z) : xR l G yX12_careers wsX12_careers 1 25 [.ref (G.2.2 71), .int n, .int e] M (p_careers z n e) := by
  exact CTi_mono (c_X12_careers l G n e M z.1 hr.1 ho.1) (fun r M2 hp => ⟨_, ⟨hp.1, rfl⟩, by rw [hp.2]; exact hr, by rw [hp.2]; exact lo_rf _⟩)
theorem xu_careers {z z1 z2 : sT} {n e : Int32} {r1 r2 : Int32} (h1 : p_careers z n e r1 z1) (h2 : p_careers z n e r2 z2) : r1 = r2 ∧ z1 = z2 := ⟨h1.1.trans h2.1.symm, h1.2.trans h2.2.symm⟩
theorem xo_careers {z z2 : sT} {n e : Int32} {r : Int32} (ho : oI z) (h : p_careers z n e r z2) : oI z2 := by
  rw [h.2]
  exact ho
def p_ring (z : sT) (x y m h : Int32) (r : Int32) (z2 : sT) : Prop := SpRing x y m h r ∧ z2 = z
theorem xc_ring (l : Launch) (G : uG) (M : uM) (z : sT) (x y m h : Int32) (hc : cI M z) (ho : oI z) : xC l G yX11_ring wsX11_ring 3 69 [.ref (G.2.2 0), .int x, .int y, .int m, .int h] M (p_ring z x y m h) := by
  exact CTi_mono (c_X11_ring l G x y m h M) (fun r M2 hp => ⟨_, ⟨hp.1, rfl⟩, cI_sc hp.2 (by decide) (by decide) hc, hi_sm hp.2 (by decide)⟩)
theorem xr_ring (l : Launch) (G : uG) (M : uM) (z : sT) (x y m h : Int32) (hr : rI M z) (ho : oI z) : xR l G yX12_ring wsX12_ring 2 45 [.ref (G.2.2 71), .int x, .int y, .int m, .int h] M (p_ring z x y m h) := by
  exact CTi_mono (c_X12_ring l G x y m h M) (fun r M2 hp => ⟨_, ⟨hp.1, rfl⟩, rI_mS hp.2 hr, lo_mS hp.2⟩)
theorem xu_ring {z z1 z2 : sT} {x y m h : Int32} {r1 r2 : Int32} (h1 : p_ring z x y m h r1 z1) (h2 : p_ring z x y m h r2 z2) : r1 = r2 ∧ z1 = z2 := ⟨SpRing_1 h1.1 h2.1, h1.2.trans h2.2.symm⟩
theorem xo_ring {z z2 : sT} {x y m h : Int32} {r : Int32} (ho : oI z) (h : p_ring z x y m h r z2) : oI z2 := by
  rw [h.2]
  exact ho
def p_stop (z : sT) (x n t p : Int32) (r : Int64) (z2 : sT) : Prop := SpStop x n t p r ∧ z2 = z
theorem xc_stop (l : Launch) (G : uG) (M : uM) (z : sT) (x n t p : Int32) (hc : cI M z) (ho : oI z) : xCl l G yX11_stop wsX11_stop 3 68 [.ref (G.2.2 0), .int x, .int n, .int t, .int p] M (p_stop z x n t p) := by
  exact CTl_mono (c_X11_stop l G x n t p M) (fun r M2 hp => ⟨_, ⟨hp.1, rfl⟩, cI_sc hp.2 (by decide) (by decide) hc, hi_sm hp.2 (by decide)⟩)
theorem xr_stop (l : Launch) (G : uG) (M : uM) (z : sT) (x n t p : Int32) (hr : rI M z) (ho : oI z) : xRl l G yX12_stop wsX12_stop 3 72 [.ref (G.2.2 71), .int x, .int n, .int t, .int p] M (p_stop z x n t p) := by
  exact CTl_mono (c_X12_stop l G x n t p M) (fun r M2 hp => ⟨_, ⟨hp.1, rfl⟩, rI_mS hp.2 hr, lo_mS hp.2⟩)
theorem xu_stop {z z1 z2 : sT} {x n t p : Int32} {r1 r2 : Int64} (h1 : p_stop z x n t p r1 z1) (h2 : p_stop z x n t p r2 z2) : r1 = r2 ∧ z1 = z2 := ⟨SpStop_1 h1.1 h2.1, h1.2.trans h2.2.symm⟩
theorem xo_stop {z z2 : sT} {x n t p : Int32} {r : Int64} (ho : oI z) (h : p_stop z x n t p r z2) : oI z2 := by
  rw [h.2]
  exact ho
def p_sells (z : sT) (x n t : Int32) (r : Int32) (z2 : sT) : Prop := SpSells x n t r ∧ z2 = z
theorem xc_sells (l : Launch) (G : uG) (M : uM) (z : sT) (x n t : Int32) (hc : cI M z) (ho : oI z) : xC l G yX11_sells wsX11_sells 3 68 [.ref (G.2.2 0), .int x, .int n, .int t] M (p_sells z x n t) := by
  exact CTi_mono (c_X11_sells l G x n t M) (fun r M2 hp => ⟨_, ⟨hp.1, rfl⟩, cI_sc hp.2 (by decide) (by decide) hc, hi_sm hp.2 (by decide)⟩)
theorem xr_sells (l : Launch) (G : uG) (M : uM) (z : sT) (x n t : Int32) (hr : rI M z) (ho : oI z) : xR l G yX12_sells wsX12_sells 3 72 [.ref (G.2.2 71), .int x, .int n, .int t] M (p_sells z x n t) := by
  exact CTi_mono (c_X12_sells l G x n t M) (fun r M2 hp => ⟨_, ⟨hp.1, rfl⟩, rI_mS hp.2 hr, lo_mS hp.2⟩)
theorem xu_sells {z z1 z2 : sT} {x n t : Int32} {r1 r2 : Int32} (h1 : p_sells z x n t r1 z1) (h2 : p_sells z x n t r2 z2) : r1 = r2 ∧ z1 = z2 := ⟨SpSells_1 h1.1 h2.1, h1.2.trans h2.2.symm⟩
theorem xo_sells {z z2 : sT} {x n t : Int32} {r : Int32} (ho : oI z) (h : p_sells z x n t r z2) : oI z2 := by
  rw [h.2]
  exact ho
def p_fits (z : sT) (x : Int32) (r : Int32) (z2 : sT) : Prop := SpFits z.1 x r ∧ z2 = z
theorem xc_fits (l : Launch) (G : uG) (M : uM) (z : sT) (x : Int32) (hc : cI M z) (ho : oI z) : xC l G yX11_fits wsX11_fits 4 93 [.ref (G.2.2 0), .int x] M (p_fits z x) := by
  exact CTi_mono (c_X11_fits l G x M z.1 hc.1 ho.1) (fun r M2 hp => ⟨_, ⟨hp.1, rfl⟩, cI_sc hp.2 (by decide) (by decide) hc, hi_sm hp.2 (by decide)⟩)
theorem xr_fits (l : Launch) (G : uG) (M : uM) (z : sT) (x : Int32) (hr : rI M z) (ho : oI z) : xR l G yX12_fits wsX12_fits 3 68 [.ref (G.2.2 71), .int x] M (p_fits z x) := by
  exact CTi_mono (c_X12_fits l G x M z.1 hr.1 ho.1) (fun r M2 hp => ⟨_, ⟨hp.1, rfl⟩, rI_mS hp.2 hr, lo_mS hp.2⟩)
theorem xu_fits {z z1 z2 : sT} {x : Int32} {r1 r2 : Int32} (h1 : p_fits z x r1 z1) (h2 : p_fits z x r2 z2) : r1 = r2 ∧ z1 = z2 := ⟨SpFits_1 h1.1 h2.1, h1.2.trans h2.2.symm⟩
theorem xo_fits {z z2 : sT} {x : Int32} {r : Int32} (ho : oI z) (h : p_fits z x r z2) : oI z2 := by
  rw [h.2]
  exact ho
def p_ask (z : sT) (x : Int32) (r : Int32) (z2 : sT) : Prop := r = spAsk z.1 x ∧ z2 = z
theorem xc_ask (l : Launch) (G : uG) (M : uM) (z : sT) (x : Int32) (hc : cI M z) (ho : oI z) : xC l G yX11_ask wsX11_ask 5 116 [.ref (G.2.2 0), .int x] M (p_ask z x) := by
  exact CTi_mono (c_X11_ask l G x M z.1 hc.1 ho.1) (fun r M2 hp => ⟨_, ⟨hp.1, rfl⟩, cI_sc hp.2 (by decide) (by decide) hc, hi_sm hp.2 (by decide)⟩)
theorem xr_ask (l : Launch) (G : uG) (M : uM) (z : sT) (x : Int32) (hr : rI M z) (ho : oI z) : xR l G yX12_ask wsX12_ask 3 68 [.ref (G.2.2 71), .int x] M (p_ask z x) := by
  exact CTi_mono (c_X12_ask l G x M z.1 hr.1 ho.1) (fun r M2 hp => ⟨_, ⟨hp.1, rfl⟩, rI_mS hp.2 hr, lo_mS hp.2⟩)
theorem xu_ask {z z1 z2 : sT} {x : Int32} {r1 r2 : Int32} (h1 : p_ask z x r1 z1) (h2 : p_ask z x r2 z2) : r1 = r2 ∧ z1 = z2 := ⟨h1.1.trans h2.1.symm, h1.2.trans h2.2.symm⟩
theorem xo_ask {z z2 : sT} {x : Int32} {r : Int32} (ho : oI z) (h : p_ask z x r z2) : oI z2 := by
  rw [h.2]
  exact ho
def p_shelf (z : sT) (h w x : Int32) (r : Int32) (z2 : sT) : Prop := r = spShelf h w x ∧ z2 = z
theorem xc_shelf (l : Launch) (G : uG) (M : uM) (z : sT) (h w x : Int32) (hc : cI M z) (ho : oI z) : xC l G yX11_shelf wsX11_shelf 5 113 [.ref (G.2.2 0), .int h, .int w, .int x] M (p_shelf z h w x) := by
  exact CTi_mono (c_X11_shelf l G h w x M hc.2.2.2.2.1 hc.2.2.2.2.2.1) (fun r M2 hp => ⟨_, ⟨hp.1, rfl⟩, cI_sh hp.2.1 hp.2.2.1 hp.2.2.2 hc, hi_sm hp.2.1 (by decide)⟩)
theorem xr_shelf (l : Launch) (G : uG) (M : uM) (z : sT) (h w x : Int32) (hr : rI M z) (ho : oI z) : xR l G yX12_shelf wsX12_shelf 2 47 [.ref (G.2.2 71), .int h, .int w, .int x] M (p_shelf z h w x) := by
  exact CTi_mono (c_X12_shelf l G h w x M) (fun r M2 hp => ⟨_, ⟨hp.1, rfl⟩, rI_mS hp.2 hr, lo_mS hp.2⟩)
theorem xu_shelf {z z1 z2 : sT} {h w x : Int32} {r1 r2 : Int32} (h1 : p_shelf z h w x r1 z1) (h2 : p_shelf z h w x r2 z2) : r1 = r2 ∧ z1 = z2 := ⟨h1.1.trans h2.1.symm, h1.2.trans h2.2.symm⟩
theorem xo_shelf {z z2 : sT} {h w x : Int32} {r : Int32} (ho : oI z) (h : p_shelf z h w x r z2) : oI z2 := by
  rw [h.2]
  exact ho
def p_doors (z : sT) (n d h p : Int32) (r : Int64) (z2 : sT) : Prop := r = spDoors n d h p ∧ z2 = z
theorem xc_doors (l : Launch) (G : uG) (M : uM) (z : sT) (n d h p : Int32) (hc : cI M z) (ho : oI z) : xCl l G yX11_doors wsX11_doors 2 58 [.ref (G.2.2 0), .int n, .int d, .int h, .int p] M (p_doors z n d h p) := by
  exact CTl_mono (c_X11_doors l G n d h p M) (fun r M2 hp => ⟨_, ⟨hp.1, rfl⟩, cI_lo (fun a _ => by rw [hp.2]) hc, fun a _ => by rw [hp.2]⟩)
theorem xr_doors (l : Launch) (G : uG) (M : uM) (z : sT) (n d h p : Int32) (hr : rI M z) (ho : oI z) : xRl l G yX12_doors wsX12_doors 1 30 [.ref (G.2.2 71), .int n, .int d, .int h, .int p] M (p_doors z n d h p) := by
  exact CTl_mono (c_X12_doors l G n d h p M) (fun r M2 hp => ⟨_, ⟨hp.1, rfl⟩, rI_mS hp.2 hr, lo_mS hp.2⟩)
theorem xu_doors {z z1 z2 : sT} {n d h p : Int32} {r1 r2 : Int64} (h1 : p_doors z n d h p r1 z1) (h2 : p_doors z n d h p r2 z2) : r1 = r2 ∧ z1 = z2 := ⟨h1.1.trans h2.1.symm, h1.2.trans h2.2.symm⟩
theorem xo_doors {z z2 : sT} {n d h p : Int32} {r : Int64} (ho : oI z) (h : p_doors z n d h p r z2) : oI z2 := by
  rw [h.2]
  exact ho
def p_year (z : sT) (h n x : Int32) (r : Int32) (z2 : sT) : Prop := r = spYear z.1 h n x ∧ z2 = z
theorem xc_year (l : Launch) (G : uG) (M : uM) (z : sT) (h n x : Int32) (hc : cI M z) (ho : oI z) : xC l G yX11_year wsX11_year 5 118 [.ref (G.2.2 0), .int h, .int n, .int x] M (p_year z h n x) := by
  obtain ⟨v, hv, hvz⟩ := hc.2.2.1
  refine CTi_mono (c_X11_year l G h n x M z.1 v hc.1 ho.1 hv hvz) (fun r M2 hp => ?_)
  obtain ⟨h1, v2, rfl, h2⟩ := hp
  refine ⟨_, ⟨h1, rfl⟩, cI_mk hc (fun a ha => PW_out _ _ _ (by omega)) ⟨v2, uPW_rd _ _ _, h2⟩ (wAt_sm (fun a h1 h2 => PW_out _ _ _ (by omega)) hc.2.2.2.1) (shAt_sm (fun a h1 h2 => PW_out _ _ _ (by omega)) hc.2.2.2.2.1) (shLn_sm (fun a h1 h2 => PW_out _ _ _ (by omega)) hc.2.2.2.2.2.1), hi_PW _ _ (by decide)⟩
theorem xr_year (l : Launch) (G : uG) (M : uM) (z : sT) (h n x : Int32) (hr : rI M z) (ho : oI z) : xR l G yX12_year wsX12_year 3 71 [.ref (G.2.2 71), .int h, .int n, .int x] M (p_year z h n x) := by
  exact CTi_mono (c_X12_year l G h n x M z.1 hr.1 ho.1) (fun r M2 hp => ⟨_, ⟨hp.1, rfl⟩, rI_mS hp.2 hr, lo_mS hp.2⟩)
theorem xu_year {z z1 z2 : sT} {h n x : Int32} {r1 r2 : Int32} (h1 : p_year z h n x r1 z1) (h2 : p_year z h n x r2 z2) : r1 = r2 ∧ z1 = z2 := ⟨h1.1.trans h2.1.symm, h1.2.trans h2.2.symm⟩
theorem xo_year {z z2 : sT} {h n x : Int32} {r : Int32} (ho : oI z) (h : p_year z h n x r z2) : oI z2 := by
  rw [h.2]
  exact ho
def p_told (z : sT) (x : Int32) (r : Int32) (z2 : sT) : Prop := r = spTold z.1 z.2.2.1 x ∧ z2 = z
theorem xc_told (l : Launch) (G : uG) (M : uM) (z : sT) (x : Int32) (hc : cI M z) (ho : oI z) : xC l G yX11_told wsX11_told 3 64 [.ref (G.2.2 0), .int x] M (p_told z x) := by
  exact CTi_mono (c_X11_told l G x M z.1 z.2.2.1 hc.1 hc.2.1.2) (fun r M2 hp => ⟨_, ⟨hp.1, rfl⟩, by rw [hp.2]; exact hc, by rw [hp.2]; exact hi_rf _⟩)
theorem xr_told (l : Launch) (G : uG) (M : uM) (z : sT) (x : Int32) (hr : rI M z) (ho : oI z) : xR l G yX12_told wsX12_told 1 25 [.ref (G.2.2 71), .int x] M (p_told z x) := by
  exact CTi_mono (c_X12_told l G x M z.1 z.2.2.1 hr.1 hr.2.2.1) (fun r M2 hp => ⟨_, ⟨hp.1, rfl⟩, by rw [hp.2]; exact hr, by rw [hp.2]; exact lo_rf _⟩)
theorem xu_told {z z1 z2 : sT} {x : Int32} {r1 r2 : Int32} (h1 : p_told z x r1 z1) (h2 : p_told z x r2 z2) : r1 = r2 ∧ z1 = z2 := ⟨h1.1.trans h2.1.symm, h1.2.trans h2.2.symm⟩
theorem xo_told {z z2 : sT} {x : Int32} {r : Int32} (ho : oI z) (h : p_told z x r z2) : oI z2 := by
  rw [h.2]
  exact ho
theorem kp_or : ∀ kp, kp < 4 → (kp ||| 1) < 4 ∧ (kp ||| 2) < 4 ∧ ¬ (kp ||| 1) / 2 ^ 0 % 2 = 0 ∧ ¬ (kp ||| 2) / 2 ^ 1 % 2 = 0 ∧ (kp ||| 1) / 2 ^ 1 % 2 = kp / 2 ^ 1 % 2 ∧ (kp ||| 2) / 2 ^ 0 % 2 = kp / 2 ^ 0 % 2 := by decide
theorem kpW_sm {K K2 : Nat → Nat} {po : Nat} {v : Nat → Nat → Nat} (h : ∀ i, po ≤ i → i < po + 83 → K2 i = K i) (hk : kpW K po v) : kpW K2 po v := by
  obtain ⟨k1, k2, k3, k4, k5, k6, k7, k8, k9, k10, k11⟩ := hk
  refine ⟨?_, ?_, ?_, fun c hc => ?_, fun c hc => ?_, fun c hc => ?_, fun c hc => ?_, fun c hc => ?_, fun c hc => ?_, fun c hc => ?_, fun c hc => ?_⟩
  · rw [h _ (by omega) (by omega)]; exact k1
  · rw [h _ (by omega) (by omega)]; exact k2
  · rw [h _ (by omega) (by omega)]; exact k3
  · rw [h _ (by omega) (by omega)]; exact k4 c hc
  · rw [h _ (by omega) (by omega)]; exact k5 c hc
  · rw [h _ (by omega) (by omega)]; exact k6 c hc
  · rw [h _ (by omega) (by omega)]; exact k7 c hc
  · rw [h _ (by omega) (by omega)]; exact k8 c hc
  · rw [h _ (by omega) (by omega)]; exact k9 c hc
  · rw [h _ (by omega) (by omega)]; exact k10 c hc
  · rw [h _ (by omega) (by omega)]; exact k11 c hc

def p_image (z : sT) (x : Int32) (r : Int32) (z2 : sT) : Prop := (¬ inr x 0 1 ∧ r = -2 ∧ z2 = z) ∨ (x = 0 ∧ r = 1 ∧ z2 = (z.1, z.2.1, z.2.2.1, z.2.2.2.1 ||| 1, z.1, z.2.2.2.2.2)) ∨ (x = 1 ∧ r = 1 ∧ z2 = (z.1, z.2.1, z.2.2.1, z.2.2.2.1 ||| 2, z.2.2.2.2.1, z.1))
theorem xc_image (l : Launch) (G : uG) (M : uM) (z : sT) (x : Int32) (hc : cI M z) (ho : oI z) : xC l G yX11_image wsX11_image 4 85 [.ref (G.2.2 0), .int x] M (p_image z x) := by
  by_cases hx : inr x 0 1
  · rcases in2 hx with rfl | rfl
    · have h9 := c_X11_image0 l G M z.1 z.2.2.2.2.1 z.2.2.2.1 hc.1 (wOk_z ho.1) hc.2.2.2.2.2.2.2.1 (wOk_z ho.2.2.2.1) hc.2.2.2.2.2.2.1 ho.2.2.1
      refine CTi_mono h9 (fun r M2 hp => ?_)
      obtain ⟨h1, rfl⟩ := hp
      obtain ⟨c1, c2, c3, c4, c5, c6, c7, c8, c9⟩ := hc
      have ho2 : ∀ a, a ≠ 0 → (a < 51 ∨ 61 ≤ a) → (u1 (uPW M 51 z.1) 0 12 (nI (z.2.2.2.1 ||| 1))).1 a = M.1 a := fun a e1 e2 => (u1_ne e1).trans (PW_out _ _ _ (by omega))
      refine ⟨(z.1, z.2.1, z.2.2.1, z.2.2.2.1 ||| 1, z.1, z.2.2.2.2.2), Or.inr (Or.inl ⟨rfl, h1, rfl⟩), ⟨uRd_sm (fun a h1 h2 => ho2 a (by omega) (by omega)) c1, pdAt_sm (ho2 22 (by decide) (by decide)) (ho2 21 (by decide) (by decide)) c2, wAt_sm (fun a h1 h2 => ho2 a (by omega) (by omega)) c3, wAt_sm (fun a h1 h2 => ho2 a (by omega) (by omega)) c4, shAt_sm (fun a h1 h2 => ho2 a (by omega) (by omega)) c5, shLn_sm (fun a h1 h2 => ho2 a (by omega) (by omega)) c6, by rw [u1_1, if_pos ⟨rfl, rfl⟩], fun j hj i => by
        rw [u1_ne (by omega)]
        exact uPW_g _ _ _ _ hj, uRd_sm (fun a h1 h2 => ho2 a (by omega) (by omega)) c9⟩, fun a ha => ho2 a (by omega) (by omega)⟩
    · have h9 := c_X11_image1 l G M z.1 z.2.2.2.2.2 z.2.2.2.1 hc.1 (wOk_z ho.1) hc.2.2.2.2.2.2.2.2 (wOk_z ho.2.2.2.2) hc.2.2.2.2.2.2.1 ho.2.2.1
      refine CTi_mono h9 (fun r M2 hp => ?_)
      obtain ⟨h1, rfl⟩ := hp
      obtain ⟨c1, c2, c3, c4, c5, c6, c7, c8, c9⟩ := hc
      have ho2 : ∀ a, a ≠ 0 → (a < 61 ∨ 71 ≤ a) → (u1 (uPW M 61 z.1) 0 12 (nI (z.2.2.2.1 ||| 2))).1 a = M.1 a := fun a e1 e2 => (u1_ne e1).trans (PW_out _ _ _ (by omega))
      refine ⟨(z.1, z.2.1, z.2.2.1, z.2.2.2.1 ||| 2, z.2.2.2.2.1, z.1), Or.inr (Or.inr ⟨rfl, h1, rfl⟩), ⟨uRd_sm (fun a h1 h2 => ho2 a (by omega) (by omega)) c1, pdAt_sm (ho2 22 (by decide) (by decide)) (ho2 21 (by decide) (by decide)) c2, wAt_sm (fun a h1 h2 => ho2 a (by omega) (by omega)) c3, wAt_sm (fun a h1 h2 => ho2 a (by omega) (by omega)) c4, shAt_sm (fun a h1 h2 => ho2 a (by omega) (by omega)) c5, shLn_sm (fun a h1 h2 => ho2 a (by omega) (by omega)) c6, by rw [u1_1, if_pos ⟨rfl, rfl⟩], uRd_sm (fun a h1 h2 => ho2 a (by omega) (by omega)) c8, fun j hj i => by
        rw [u1_ne (by omega)]
        exact uPW_g _ _ _ _ hj⟩, fun a ha => ho2 a (by omega) (by omega)⟩
  · exact CTi_mono (c_X11_imageB l G x hx M) (fun r M2 hp => ⟨z, Or.inl ⟨hx, hp.1, rfl⟩, by rw [hp.2]; exact hc, by rw [hp.2]; exact hi_rf _⟩)
theorem xr_image (l : Launch) (G : uG) (M : uM) (z : sT) (x : Int32) (hr : rI M z) (ho : oI z) : xR l G yX12_image wsX12_image 3 65 [.ref (G.2.2 71), .int x] M (p_image z x) := by
  by_cases hx : inr x 0 1
  · rcases in2 hx with rfl | rfl
    · obtain ⟨r1, r2, r3, K, k94, k0, k1⟩ := hr
      refine CTi_mono (c_X12_image0 l G M z.1 K r1 k94) (fun r M2 hp => ?_)
      obtain ⟨h1, h2, ⟨K2, h3, h6, h7⟩, ⟨h4, h5⟩, h8⟩ := hp
      refine ⟨(z.1, z.2.1, z.2.2.1, z.2.2.2.1 ||| 1, z.1, z.2.2.2.2.2), Or.inr (Or.inl ⟨rfl, h1, rfl⟩), ⟨h2, fun i => (h8 80 i (by omega)).trans (r2 i), (h8 71 12 (by omega)).trans r3, K2, h3, Or.inr ⟨h4, (kp_or _ ho.2.2.1).2.2.1, h6⟩, (k1.elim (fun q => Or.inl ⟨h5.trans q.1, (kp_or _ ho.2.2.1).2.2.2.2.1.trans q.2⟩) (fun q => Or.inr ⟨h5.trans q.1, fun y => q.2.1 ((kp_or _ ho.2.2.1).2.2.2.2.1.symm.trans y), kpW_sm (fun i a b => h7 i (by omega)) q.2.2⟩))⟩, fun a ha => funext fun i => h8 a i (by omega)⟩
    · obtain ⟨r1, r2, r3, K, k94, k0, k1⟩ := hr
      refine CTi_mono (c_X12_image1 l G M z.1 K r1 k94) (fun r M2 hp => ?_)
      obtain ⟨h1, h2, ⟨K2, h3, h6, h7⟩, ⟨h4, h5⟩, h8⟩ := hp
      refine ⟨(z.1, z.2.1, z.2.2.1, z.2.2.2.1 ||| 2, z.2.2.2.2.1, z.1), Or.inr (Or.inr ⟨rfl, h1, rfl⟩), ⟨h2, fun i => (h8 80 i (by omega)).trans (r2 i), (h8 71 12 (by omega)).trans r3, K2, h3, (k0.elim (fun q => Or.inl ⟨h5.trans q.1, (kp_or _ ho.2.2.1).2.2.2.2.2.trans q.2⟩) (fun q => Or.inr ⟨h5.trans q.1, fun y => q.2.1 ((kp_or _ ho.2.2.1).2.2.2.2.2.symm.trans y), kpW_sm (fun i a b => h7 i (by omega)) q.2.2⟩)), Or.inr ⟨h4, (kp_or _ ho.2.2.1).2.2.2.1, h6⟩⟩, fun a ha => funext fun i => h8 a i (by omega)⟩
  · exact CTi_mono (c_X12_imageB l G x hx M) (fun r M2 hp => ⟨z, Or.inl ⟨hx, hp.1, rfl⟩, by rw [hp.2]; exact hr, by rw [hp.2]; exact lo_rf _⟩)
theorem xu_image {z z1 z2 : sT} {x : Int32} {r1 r2 : Int32} (h1 : p_image z x r1 z1) (h2 : p_image z x r2 z2) : r1 = r2 ∧ z1 = z2 := by
  rcases h1 with ⟨a1, a2, a3⟩ | ⟨a1, a2, a3⟩ | ⟨a1, a2, a3⟩ <;> rcases h2 with ⟨b1, b2, b3⟩ | ⟨b1, b2, b3⟩ | ⟨b1, b2, b3⟩
  · exact ⟨a2.trans b2.symm, a3.trans b3.symm⟩
  · exact absurd (show inr x 0 1 by rw [b1]; exact ⟨by decide, by decide⟩) a1
  · exact absurd (show inr x 0 1 by rw [b1]; exact ⟨by decide, by decide⟩) a1
  · exact absurd (show inr x 0 1 by rw [a1]; exact ⟨by decide, by decide⟩) b1
  · exact ⟨a2.trans b2.symm, a3.trans b3.symm⟩
  · exact absurd (a1.symm.trans b1) (by decide)
  · exact absurd (show inr x 0 1 by rw [a1]; exact ⟨by decide, by decide⟩) b1
  · exact absurd (a1.symm.trans b1) (by decide)
  · exact ⟨a2.trans b2.symm, a3.trans b3.symm⟩
theorem xo_image {z z2 : sT} {x : Int32} {r : Int32} (ho : oI z) (h : p_image z x r z2) : oI z2 := by
  obtain ⟨o1, o2, o3, o4, o5⟩ := ho
  rcases h with ⟨-, -, e⟩ | ⟨-, -, e⟩ | ⟨-, -, e⟩
  · rw [e]; exact ⟨o1, o2, o3, o4, o5⟩
  · rw [e]; exact ⟨o1, o2, (kp_or _ o3).1, o1, o5⟩
  · rw [e]; exact ⟨o1, o2, (kp_or _ o3).2.1, o4, o1⟩
def p_restore (z : sT) (x : Int32) (r : Int32) (z2 : sT) : Prop := (¬ inr x 0 1 ∧ r = -2 ∧ z2 = z) ∨ (x = 0 ∧ ((z.2.2.2.1 / 2 ^ 0 % 2 = 0 ∧ r = -3 ∧ z2 = z) ∨ (¬ z.2.2.2.1 / 2 ^ 0 % 2 = 0 ∧ r = 1 ∧ z2 = (z.2.2.2.2.1, z.2)))) ∨ (x = 1 ∧ ((z.2.2.2.1 / 2 ^ 1 % 2 = 0 ∧ r = -3 ∧ z2 = z) ∨ (¬ z.2.2.2.1 / 2 ^ 1 % 2 = 0 ∧ r = 1 ∧ z2 = (z.2.2.2.2.2, z.2))))
theorem xc_restore (l : Launch) (G : uG) (M : uM) (z : sT) (x : Int32) (hc : cI M z) (ho : oI z) : xC l G yX11_restore wsX11_restore 4 85 [.ref (G.2.2 0), .int x] M (p_restore z x) := by
  by_cases hx : inr x 0 1
  · rcases in2 hx with rfl | rfl
    · refine CTi_mono (c_X11_restore0 l G M z.1 z.2.2.2.2.1 z.2.2.2.1 hc.1 (wOk_z ho.1) hc.2.2.2.2.2.2.2.1 (wOk_z ho.2.2.2.1) hc.2.2.2.2.2.2.1 ho.2.2.1) (fun r M2 hp => ?_)
      rcases hp with ⟨h1, h2, rfl⟩ | ⟨h1, h2, rfl⟩
      · exact ⟨z, Or.inr (Or.inl ⟨rfl, Or.inl ⟨h1, h2, rfl⟩⟩), hc, hi_rf _⟩
      · exact ⟨_, Or.inr (Or.inl ⟨rfl, Or.inr ⟨h1, h2, rfl⟩⟩), cI_w _ hc, hi_PW _ _ (by decide)⟩
    · refine CTi_mono (c_X11_restore1 l G M z.1 z.2.2.2.2.2 z.2.2.2.1 hc.1 (wOk_z ho.1) hc.2.2.2.2.2.2.2.2 (wOk_z ho.2.2.2.2) hc.2.2.2.2.2.2.1 ho.2.2.1) (fun r M2 hp => ?_)
      rcases hp with ⟨h1, h2, rfl⟩ | ⟨h1, h2, rfl⟩
      · exact ⟨z, Or.inr (Or.inr ⟨rfl, Or.inl ⟨h1, h2, rfl⟩⟩), hc, hi_rf _⟩
      · exact ⟨_, Or.inr (Or.inr ⟨rfl, Or.inr ⟨h1, h2, rfl⟩⟩), cI_w _ hc, hi_PW _ _ (by decide)⟩
  · exact CTi_mono (c_X11_restoreB l G x hx M) (fun r M2 hp => ⟨z, Or.inl ⟨hx, hp.1, rfl⟩, by rw [hp.2]; exact hc, by rw [hp.2]; exact hi_rf _⟩)
theorem xr_restore (l : Launch) (G : uG) (M : uM) (z : sT) (x : Int32) (hr : rI M z) (ho : oI z) : xR l G yX12_restore wsX12_restore 3 65 [.ref (G.2.2 71), .int x] M (p_restore z x) := by
  by_cases hx : inr x 0 1
  · rcases in2 hx with rfl | rfl
    · obtain ⟨r1, r2, r3, K, k94, k0, k1⟩ := id hr
      rcases id k0 with ⟨q1, q2⟩ | ⟨q1, q2, q3⟩
      · exact CTi_mono (c_X12_restoreN0 l G M q1) (fun r M2 hp => ⟨z, Or.inr (Or.inl ⟨rfl, Or.inl ⟨q2, hp.1, rfl⟩⟩), by rw [hp.2]; exact hr, by rw [hp.2]; exact lo_rf _⟩)
      · refine CTi_mono (c_X12_restoreY0 l G M z.1 K r1 k94 z.2.2.2.2.1 q1 q3 (wOk_z ho.1) (wOk_z ho.2.2.2.1)) (fun r M2 hp => ?_)
        obtain ⟨h1, h2, h3, h4, h5⟩ := hp
        exact ⟨_, Or.inr (Or.inl ⟨rfl, Or.inr ⟨q2, h1, rfl⟩⟩), ⟨h2, fun i => (h5 80 i (by omega)).trans (r2 i), (h5 71 12 (by omega)).trans r3, K, h3, by rw [h4]; exact k0, by rw [h4]; exact k1⟩, fun a ha => funext fun i => h5 a i (by omega)⟩
    · obtain ⟨r1, r2, r3, K, k94, k0, k1⟩ := id hr
      rcases id k1 with ⟨q1, q2⟩ | ⟨q1, q2, q3⟩
      · exact CTi_mono (c_X12_restoreN1 l G M q1) (fun r M2 hp => ⟨z, Or.inr (Or.inr ⟨rfl, Or.inl ⟨q2, hp.1, rfl⟩⟩), by rw [hp.2]; exact hr, by rw [hp.2]; exact lo_rf _⟩)
      · refine CTi_mono (c_X12_restoreY1 l G M z.1 K r1 k94 z.2.2.2.2.2 q1 q3 (wOk_z ho.1) (wOk_z ho.2.2.2.2)) (fun r M2 hp => ?_)
        obtain ⟨h1, h2, h3, h4, h5⟩ := hp
        exact ⟨_, Or.inr (Or.inr ⟨rfl, Or.inr ⟨q2, h1, rfl⟩⟩), ⟨h2, fun i => (h5 80 i (by omega)).trans (r2 i), (h5 71 12 (by omega)).trans r3, K, h3, by rw [h4]; exact k0, by rw [h4]; exact k1⟩, fun a ha => funext fun i => h5 a i (by omega)⟩
  · exact CTi_mono (c_X12_restoreB l G x hx M) (fun r M2 hp => ⟨z, Or.inl ⟨hx, hp.1, rfl⟩, by rw [hp.2]; exact hr, by rw [hp.2]; exact lo_rf _⟩)
theorem xu_restore {z z1 z2 : sT} {x : Int32} {r1 r2 : Int32} (h1 : p_restore z x r1 z1) (h2 : p_restore z x r2 z2) : r1 = r2 ∧ z1 = z2 := by
  rcases h1 with ⟨a1, a2, a3⟩ | ⟨a1, a2⟩ | ⟨a1, a2⟩ <;> rcases h2 with ⟨b1, b2, b3⟩ | ⟨b1, b2⟩ | ⟨b1, b2⟩
  · exact ⟨a2.trans b2.symm, a3.trans b3.symm⟩
  · exact absurd (show inr x 0 1 by rw [b1]; exact ⟨by decide, by decide⟩) a1
  · exact absurd (show inr x 0 1 by rw [b1]; exact ⟨by decide, by decide⟩) a1
  · exact absurd (show inr x 0 1 by rw [a1]; exact ⟨by decide, by decide⟩) b1
  · rcases a2 with ⟨c1, c2, c3⟩ | ⟨c1, c2, c3⟩ <;> rcases b2 with ⟨d1, d2, d3⟩ | ⟨d1, d2, d3⟩
    · exact ⟨c2.trans d2.symm, c3.trans d3.symm⟩
    · exact absurd c1 d1
    · exact absurd d1 c1
    · exact ⟨c2.trans d2.symm, c3.trans d3.symm⟩
  · exact absurd (a1.symm.trans b1) (by decide)
  · exact absurd (show inr x 0 1 by rw [a1]; exact ⟨by decide, by decide⟩) b1
  · exact absurd (a1.symm.trans b1) (by decide)
  · rcases a2 with ⟨c1, c2, c3⟩ | ⟨c1, c2, c3⟩ <;> rcases b2 with ⟨d1, d2, d3⟩ | ⟨d1, d2, d3⟩
    · exact ⟨c2.trans d2.symm, c3.trans d3.symm⟩
    · exact absurd c1 d1
    · exact absurd d1 c1
    · exact ⟨c2.trans d2.symm, c3.trans d3.symm⟩
theorem xo_restore {z z2 : sT} {x : Int32} {r : Int32} (ho : oI z) (h : p_restore z x r z2) : oI z2 := by
  rcases h with ⟨-, -, e⟩ | ⟨-, ⟨-, -, e⟩ | ⟨-, -, e⟩⟩ | ⟨-, ⟨-, -, e⟩ | ⟨-, -, e⟩⟩
  · rw [e]; exact ho
  · rw [e]; exact ho
  · rw [e]; exact ⟨ho.2.2.2.1, ho.2⟩
  · rw [e]; exact ho
  · rw [e]; exact ⟨ho.2.2.2.2, ho.2⟩
