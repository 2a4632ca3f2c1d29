/-! Each call, whatever its arguments: the wrapper and the reference go the same way. -/
def vN (_ : Nat → Int64) (_ : Int32) : Prop := True
def vI (G : Nat → Int64) (b : Int32) : Prop := G 0 = b.toInt64
def vB (G : Nat → Int64) (b : Int32) : Prop := (b = nI 0 ∨ b = nI 1) ∧ G 0 = b.toInt64
def Op (V : (Nat → Int64) → Int32 → Prop) (l : Launch) (D : va_G) (ca : Nat → ClassId) (x oq h : Nat) (v ad : Nat → Nat) (yW : MethodName) (wsW : List Cond) (avW : List Value) (yM : MethodName) (wsM : List Cond) (rmM : Room) (avM : List Value) (rvm : Int32 → Option Value) (co : Nat) (C : CS_) (G : Nat → Int64) (M : Nat → Nat → Nat) : Prop :=
  ∃ (κ : Nat) (b : Int32) (C' : CS_) (G' : Nat → Int64) (M' : Nat → Nat → Nat), κ < 4 ∧ CoW (S := Unit) l yW wsW { frames := 9, cells := 1, slots := 6, locals := 288 } D ca avW (sysO x v ca oq C G) (fun _ => some (.int (nI κ))) (fun _ => True) (fun _ => sysO x v ca oq C' G') 1 6 ∧
    Co (S := Unit) l yM wsM rmM D ca avM (mW h ad ca co M) (fun _ => rvm b) (fun _ => True) (fun _ => mW h ad ca κ M') 0 0 ∧ RR C' M' ∧ (κ = 0 → V G' b)
theorem upd0 {G : Nat → Int64} {a : Int64} : vp_updL G 0 a 0 = a := by unfold vp_updL; simp
theorem vI.mk {G : Nat → Int64} {a b : Int32} (h : a = b) : vI (vp_updL G 0 a.toInt64) b := by unfold vI; rw [upd0, h]
theorem vI.neg {G : Nat → Int64} : vI (vp_updL G 0 (Int.toInt64 (-1))) (-1) := by unfold vI; rw [upd0]; decide
theorem vB.mk1 {G : Nat → Int64} : vB (vp_updL G 0 1) (nI 1) := ⟨Or.inr rfl, by rw [upd0]; decide⟩
theorem vB.mk0 {G : Nat → Int64} : vB (vp_updL G 0 0) (nI 0) := ⟨Or.inl rfl, by rw [upd0]; decide⟩
theorem ix2 (x : Int32) : ((x < 0 ∨ nI 2 ≤ x) ∧ ¬ x = 0 ∧ ¬ x = nI 1) ∨ ∃ s : Nat, s < 2 ∧ x = nI s := by
  rcases pk_ix x (n := 2) (by decide) with h | h | ⟨j, hj, e⟩
  · refine Or.inl ⟨Or.inl h, fun e => ?_, fun e => ?_⟩
    · subst e; exact absurd h (by decide)
    · subst e; exact absurd h (by decide)
  · refine Or.inl ⟨Or.inr h, fun e => ?_, fun e => ?_⟩
    · subst e; exact absurd h (by decide)
    · subst e; exact absurd h (by decide)
  · exact Or.inr ⟨j, hj, e⟩
theorem ixN (x : Int32) {n : Nat} (hn : n < 2 ^ 31) : (x < 0 ∨ nI n ≤ x) ∨ ∃ s : Nat, s < n ∧ x = nI s := by
  rcases pk_ix x hn with h | h | h
  · exact Or.inl (Or.inl h)
  · exact Or.inl (Or.inr h)
  · exact Or.inr h
theorem ixW (x : Int32) {n m : Nat} (hn : n < 2 ^ 31) (hm : n = m + 1) : (x.toInt < 0 ∨ (m : Int) < x.toInt) ∨ ∃ s : Nat, s < n ∧ x = nI s := by
  rcases pk_ix x hn with h | h | h
  · exact Or.inl (Or.inl (Int32.lt_iff_toInt_lt.mp h))
  · have h1 : (nI n).toInt ≤ x.toInt := Int32.le_iff_toInt_le.mp h
    rw [nI_toInt hn] at h1
    exact Or.inl (Or.inr (by omega))
  · exact Or.inr h
theorem ixR {x : Int32} {a b : Nat} (ha : a < 2 ^ 31) (hb : b < 2 ^ 31) (h1 : ¬ x < nI a) (h2 : ¬ nI b < x) : ∃ j : Nat, a ≤ j ∧ j ≤ b ∧ x = nI j := by
  rw [Int32.lt_iff_toInt_lt, nI_toInt ha] at h1
  rw [Int32.lt_iff_toInt_lt, nI_toInt hb] at h2
  have h0 : ¬ x < 0 := by
    rw [Int32.lt_iff_toInt_lt]
    show ¬ x.toInt < 0
    omega
  obtain ⟨j, hj, rfl⟩ := nI_of h0
  rw [nI_toInt hj] at h1 h2
  exact ⟨j, by omega, by omega, rfl⟩
set_option maxRecDepth 100000 in
theorem o_open (l : Launch) (hlT : l.stackTraces = false) (D : va_G) (ca : Nat → ClassId) (x oq h : Nat) (v ad : Nat → Nat) (co : Nat) (C : CS_) (G : Nat → Int64) (M : Nat → Nat → Nat) (hR : RR C M) (x₀ : Int32) : Op vN l D ca x oq h v ad yLw_open (Cond.codeWith yLw_open cLw_open 3 (some FieldType.int) [(0, 5, 8, 13)] :: tb_) [.ref x, .int x₀] yMo_open (Cond.code yMo_open cMo_open 2 none :: tb_) { frames := 3, cells := 0, slots := 0, locals := 96 } [.ref h, .int x₀] (fun _ => none) co C G M := by
  rcases ix2 x₀ with hx | ⟨s, hs, rfl⟩
  · exact ⟨1, nI 0, C, G, M, by decide, fr2 (w_open_s l hlT D ca x (v 6) (fsV v) x₀ hx.1), c_Mo_openX l D ca h ad co M x₀ hx.2.1 hx.2.2, hR, fun z => absurd z (by decide)⟩
  have hX := hR.rx hs
  have hb := hX.bn
  have hu := hX.bnd.2.2.2.2.2.2.2.2.2.2.2.2
  obtain ⟨a1, a2, a3, a4, a5, a6⟩ := id hX.2.1.1
  have a17 : M 17 s = (C.2.1 s).2 := hX.2.1.2.1.1
  have a0 : M 1 s = (C.2.2.2 s).2 := hX.2.2.1.1
  refine ⟨0, nI 0, _, _, _, by decide, vw_in hs (v_open l hlT D ca x oq v hs _ _ _ G hb), c_Mo_open l D ca h ad co M s hR.1 hs, hR.step hs (Keep.rf.setUp) (hX.setUp hs), fun _ => trivial⟩
set_option maxRecDepth 100000 in
theorem o_expire (l : Launch) (hlT : l.stackTraces = false) (D : va_G) (ca : Nat → ClassId) (x oq h : Nat) (v ad : Nat → Nat) (co : Nat) (C : CS_) (G : Nat → Int64) (M : Nat → Nat → Nat) (hR : RR C M) (x₀ : Int32) : Op vI l D ca x oq h v ad yLw_expire (Cond.codeWith yLw_expire cLw_expire 4 (some FieldType.int) [(0, 9, 12, 13), (0, 9, 15, 19)] :: tb_) [.ref x, .int x₀, .ref oq] yMo_expire (Cond.code yMo_expire cMo_expire 3 (some FieldType.int) :: tb_) { frames := 3, cells := 0, slots := 0, locals := 96 } [.ref h, .int x₀] (fun b => some (.int b)) co C G M := by
  rcases ix2 x₀ with hx | ⟨s, hs, rfl⟩
  · exact ⟨1, nI 0, C, G, M, by decide, fr3 (w_expire_s l hlT D ca x (v 6) (fsV v) x₀ hx.1 oq G), c_Mo_expireX l D ca h ad co M x₀ hx.2.1 hx.2.2, hR, fun z => absurd z (by decide)⟩
  have hX := hR.rx hs
  have hb := hX.bn
  have hu := hX.bnd.2.2.2.2.2.2.2.2.2.2.2.2
  obtain ⟨a1, a2, a3, a4, a5, a6⟩ := id hX.2.1.1
  have a17 : M 17 s = (C.2.1 s).2 := hX.2.1.2.1.1
  have a0 : M 1 s = (C.2.2.2 s).2 := hX.2.2.1.1
  by_cases hw : (C.1 s).1 = 1 ∨ ((C.1 s).1 = 2 ∧ 0 < ds (C.1 s).2.2.1 (C.1 s).2.1)
  · refine ⟨0, nI (M 14 s + 1), _, _, _, by decide, vw_in hs (v_expire l hlT D ca x oq v hs _ _ _ G hb hw), c_Mo_expire l D ca h ad co M s hR.1 hs (by rw [a5]; exact hb.2.2.2.2.1) (by rw [a1, hu]; exact hw), hR.step hs (Keep.exp) (exp_rel hs hX), fun _ => vI.mk (by rw [a5])⟩
  · refine ⟨2, nI 0, C, _, M, by decide, vw_id hs (v_expire_e l hlT D ca x oq v hs _ _ _ G hb hw), c_Mo_expireE l D ca h ad co M s hR.1 hs (by rw [a1, hu]; exact hw), hR, fun z => absurd z (by decide)⟩
set_option maxRecDepth 100000 in
theorem o_deliver (l : Launch) (hlT : l.stackTraces = false) (D : va_G) (ca : Nat → ClassId) (x oq h : Nat) (v ad : Nat → Nat) (co : Nat) (C : CS_) (G : Nat → Int64) (M : Nat → Nat → Nat) (hR : RR C M) (x₀ : Int32) : Op vI l D ca x oq h v ad yLw_deliver (Cond.codeWith yLw_deliver cLw_deliver 4 (some FieldType.int) [(0, 9, 12, 13), (0, 9, 15, 24)] :: tb_) [.ref x, .int x₀, .ref oq] yMo_deliver (Cond.code yMo_deliver cMo_deliver 11 (some FieldType.int) :: tb_) { frames := 7, cells := 0, slots := 0, locals := 224 } [.ref h, .int x₀] (fun b => some (.int b)) co C G M := by
  rcases ix2 x₀ with hx | ⟨s, hs, rfl⟩
  · exact ⟨1, nI 0, C, G, M, by decide, fr3 (w_deliver_s l hlT D ca x (v 6) (fsV v) x₀ hx.1 oq G), c_Mo_deliverX l D ca h ad co M x₀ hx.2.1 hx.2.2, hR, fun z => absurd z (by decide)⟩
  have hX := hR.rx hs
  have hb := hX.bn
  have hu := hX.bnd.2.2.2.2.2.2.2.2.2.2.2.2
  obtain ⟨a1, a2, a3, a4, a5, a6⟩ := id hX.2.1.1
  have a17 : M 17 s = (C.2.1 s).2 := hX.2.1.2.1.1
  have a0 : M 1 s = (C.2.2.2 s).2 := hX.2.2.1.1
  by_cases h0 : (C.2.2.2 s).2 = 0
  · refine ⟨2, nI 0, C, _, M, by decide, vw_id hs (v_deliver_e l hlT D ca x oq v hs _ _ _ G hb h0), c_Mo_deliverE l D ca h ad co M s hs (a0.trans h0), hR, fun z => absurd z (by decide)⟩
  have h0 : 0 < (C.2.2.2 s).2 := by omega
  obtain ⟨f1, f2, f3, f4, f5, f6, f7, f8, b4, b6, b8⟩ := hX.2.2.1.first h0
  have f1 : fKind ((C.2.2.2 s).1 0) = M 2 (12 * s) := f1
  refine ⟨0, nI (M 2 (12 * s)), _, _, _, by decide, vw_in hs (v_deliver l hlT D ca x oq v hs _ _ _ G hb h0 (fun _ => by rw [f5]; exact b6)), c_Mo_deliver l D ca h ad co M s hR.1 hs (by rw [a0]; exact h0) (by rw [hu, a17]; exact hb.2.2.2.2.2.2.2.2.2.1) hR.dt b4 b6 b8, hR.step hs (Keep.deliv hR.1 b6 hR.dt hs) (deliv_rel hs hX h0), fun _ => vI.mk (by rw [f1])⟩
set_option maxRecDepth 100000 in
theorem o_lose (l : Launch) (hlT : l.stackTraces = false) (D : va_G) (ca : Nat → ClassId) (x oq h : Nat) (v ad : Nat → Nat) (co : Nat) (C : CS_) (G : Nat → Int64) (M : Nat → Nat → Nat) (hR : RR C M) (x₀ : Int32) : Op vI l D ca x oq h v ad yLw_lose (Cond.codeWith yLw_lose cLw_lose 4 (some FieldType.int) [(0, 9, 12, 13), (0, 9, 15, 24)] :: tb_) [.ref x, .int x₀, .ref oq] yMo_lose (Cond.code yMo_lose cMo_lose 2 (some FieldType.int) :: tb_) { frames := 1, cells := 0, slots := 0, locals := 32 } [.ref h, .int x₀] (fun b => some (.int b)) co C G M := by
  rcases ix2 x₀ with hx | ⟨s, hs, rfl⟩
  · exact ⟨1, nI 0, C, G, M, by decide, fr3 (w_lose_s l hlT D ca x (v 6) (fsV v) x₀ hx.1 oq G), c_Mo_loseX l D ca h ad co M x₀ hx.2.1 hx.2.2, hR, fun z => absurd z (by decide)⟩
  have hX := hR.rx hs
  have hb := hX.bn
  have hu := hX.bnd.2.2.2.2.2.2.2.2.2.2.2.2
  obtain ⟨a1, a2, a3, a4, a5, a6⟩ := id hX.2.1.1
  have a17 : M 17 s = (C.2.1 s).2 := hX.2.1.2.1.1
  have a0 : M 1 s = (C.2.2.2 s).2 := hX.2.2.1.1
  by_cases h0 : (C.2.2.2 s).2 = 0
  · refine ⟨2, nI 0, C, _, M, by decide, vw_id hs (v_lose_e l hlT D ca x oq v hs _ _ _ G hb h0), c_Mo_loseE l D ca h ad co M s hs (a0.trans h0), hR, fun z => absurd z (by decide)⟩
  have h0 : 0 < (C.2.2.2 s).2 := by omega
  obtain ⟨f1, f2, f3, f4, f5, f6, f7, f8, b4, b6, b8⟩ := hX.2.2.1.first h0
  have f1 : fKind ((C.2.2.2 s).1 0) = M 2 (12 * s) := f1
  refine ⟨0, nI (M 2 (12 * s)), _, _, _, by decide, vw_in hs (v_lose l hlT D ca x oq v hs _ _ _ G hb h0), c_Mo_lose l D ca h ad co M s hR.1 hs (by rw [a0]; exact h0), hR.step hs (Keep.take) (hX.take hs h0), fun _ => vI.mk (by rw [f1])⟩
set_option maxRecDepth 100000 in
theorem o_hand (l : Launch) (hlT : l.stackTraces = false) (D : va_G) (ca : Nat → ClassId) (x oq h : Nat) (v ad : Nat → Nat) (co : Nat) (C : CS_) (G : Nat → Int64) (M : Nat → Nat → Nat) (hR : RR C M) (x₀ y₀ k₁ n₁ a₁ : Int32) : Op vB l D ca x oq h v ad yLw_hand (Cond.codeWith yLw_hand cLw_hand 8 (some FieldType.int) [(0, 23, 26, 13)] :: tb_) [.ref x, .int x₀, .int y₀, .int k₁, .int n₁, .int a₁, .ref oq] yMo_hand (Cond.code yMo_hand cMo_hand 6 (some FieldType.boolean) :: tb_) { frames := 6, cells := 0, slots := 0, locals := 192 } [.ref h, .int x₀, .int y₀, .int k₁, .int n₁, .int a₁] (fun b => some (.int b)) co C G M := by
  rcases ix2 x₀ with hx | ⟨s, hs, rfl⟩
  · exact ⟨1, nI 0, C, G, M, by decide, fr3 (w_hand_s l hlT D ca x (v 6) (fsV v) x₀ hx.1 y₀ k₁ n₁ a₁ oq G), c_Mo_handX l D ca h ad co M x₀ hx.2.1 hx.2.2 y₀ k₁ n₁ a₁, hR, fun z => absurd z (by decide)⟩
  have hX := hR.rx hs
  have hb := hX.bn
  have hu := hX.bnd.2.2.2.2.2.2.2.2.2.2.2.2
  obtain ⟨a1, a2, a3, a4, a5, a6⟩ := id hX.2.1.1
  have a17 : M 17 s = (C.2.1 s).2 := hX.2.1.2.1.1
  have a0 : M 1 s = (C.2.2.2 s).2 := hX.2.2.1.1
  rcases ixN y₀ (n := 3) (by decide) with hy | ⟨c, hc, rfl⟩
  · exact ⟨1, nI 0, C, G, M, by decide, fr3 (w_hand_c l hlT D ca x (v 6) (fsV v) s hs (v s) (fsV_at hs) y₀ hy k₁ n₁ a₁ oq G), c_Mo_handC l D ca h ad co M s hs y₀ hy k₁ n₁ a₁, hR, fun z => absurd z (by decide)⟩
  obtain ⟨k1, k2, k3, k4, k5, k6, k7, k8, k9, k10, -, hk2, hk3, hk4, hk5⟩ := id (hX.2.1.2.2.1 c hc)
  by_cases hbad : k₁ < nI 1 ∨ nI 8 < k₁ ∨ n₁ < 0 ∨ nI 7 < n₁ ∨ a₁ < 0 ∨ nI 7 < a₁
  · exact ⟨0, nI 0, C, _, M, by decide, fr3 (w_handN l hlT D ca x (v 6) (fsV v) s hs (v s) (fsV_at hs) c hc k₁ n₁ a₁ hbad oq G), c_Mo_handN l D ca h ad co M s c hs hc k₁ n₁ a₁ hbad, hR, fun _ => vB.mk0⟩
  obtain ⟨kd, z1, z2, rfl⟩ := ixR (x := k₁) (a := 1) (b := 8) (by decide) (by decide) (fun z => hbad (Or.inl z)) (fun z => hbad (Or.inr (Or.inl z)))
  obtain ⟨nb, -, z3, rfl⟩ := ixR (x := n₁) (a := 0) (b := 7) (by decide) (by decide) (fun z => hbad (Or.inr (Or.inr (Or.inl z)))) (fun z => hbad (Or.inr (Or.inr (Or.inr (Or.inl z)))))
  obtain ⟨ak, -, z4, rfl⟩ := ixR (x := a₁) (a := 0) (b := 7) (by decide) (by decide) (fun z => hbad (Or.inr (Or.inr (Or.inr (Or.inr (Or.inl z)))))) (fun z => hbad (Or.inr (Or.inr (Or.inr (Or.inr (Or.inr z))))))
  have hd := hR.dt (3 * s + c) (by omega)
  refine ⟨0, nI 1, _, _, _, by decide, vw_in hs (v_hand l hlT D ca x oq v hs _ _ _ G hb hc kd nb ak z1 (by omega) (by omega) (by omega)), c_Mo_hand l D ca h ad co M s c hR.1 hs hc kd nb ak z1 (by omega) (by omega) (by omega) hd, hR.step hs (Keep.rf.hear hc hd) ((hear_rel hs hX hc z1 (by omega) (by omega) (by omega) (by decide)).1), fun _ => vB.mk1⟩
set_option maxRecDepth 100000 in
theorem o_call (l : Launch) (hlT : l.stackTraces = false) (D : va_G) (ca : Nat → ClassId) (x oq h : Nat) (v ad : Nat → Nat) (co : Nat) (C : CS_) (G : Nat → Int64) (M : Nat → Nat → Nat) (hR : RR C M) (x₀ y₀ : Int32) : Op vN l D ca x oq h v ad yLw_call (Cond.codeWith yLw_call cLw_call 4 (some FieldType.int) [(0, 6, 9, 13), (0, 6, 12, 19)] :: tb_) [.ref x, .int x₀, .int y₀] yMo_call (Cond.code yMo_call cMo_call 3 none :: tb_) { frames := 5, cells := 0, slots := 0, locals := 160 } [.ref h, .int x₀, .int y₀] (fun _ => none) co C G M := by
  rcases ix2 x₀ with hx | ⟨s, hs, rfl⟩
  · exact ⟨1, nI 0, C, G, M, by decide, fr2 (w_call_s l hlT D ca x (v 6) (fsV v) x₀ hx.1 y₀), c_Mo_callX l D ca h ad co M x₀ hx.2.1 hx.2.2 y₀, hR, fun z => absurd z (by decide)⟩
  have hX := hR.rx hs
  have hb := hX.bn
  have hu := hX.bnd.2.2.2.2.2.2.2.2.2.2.2.2
  obtain ⟨a1, a2, a3, a4, a5, a6⟩ := id hX.2.1.1
  have a17 : M 17 s = (C.2.1 s).2 := hX.2.1.2.1.1
  have a0 : M 1 s = (C.2.2.2 s).2 := hX.2.2.1.1
  rcases ixN y₀ (n := 3) (by decide) with hy | ⟨c, hc, rfl⟩
  · exact ⟨1, nI 0, C, G, M, by decide, fr2 (w_call_c l hlT D ca x (v 6) (fsV v) s hs (v s) (fsV_at hs) y₀ hy), c_Mo_callC l D ca h ad co M s hs y₀ hy, hR, fun z => absurd z (by decide)⟩
  obtain ⟨k1, k2, k3, k4, k5, k6, k7, k8, k9, k10, -, hk2, hk3, hk4, hk5⟩ := id (hX.2.1.2.2.1 c hc)
  by_cases hup : (C.1 s).1 = 2 ∧ (C.2.1 s).2 ≤ 9
  · have hmu : M 10 s = 2 ∧ M 17 s ≤ 9 := by rw [a1, a17]; exact hup
    by_cases hst : (C.2.2.1 s c).1 = 0
    · refine ⟨0, nI 0, _, _, _, by decide, vw_in hs (v_call l hlT D ca x oq v hs _ _ _ G hb hc hup.1 hup.2 hst), c_Mo_call l D ca h ad co M s c hR.1 hs hc hmu (by rw [k1]; exact hst), hR.step hs (Keep.bec hc) (bec_rel hs hX hc (by decide) (by decide) (by decide) _), fun _ => trivial⟩
    · refine ⟨2, nI 0, C, _, M, by decide, vw_id hs (v_call_t l hlT D ca x oq v hs _ _ _ G hb hc hup hst), c_Mo_callS l D ca h ad co M s c hR.1 hs hc hmu (by rw [k1]; exact hst), hR, fun z => absurd z (by decide)⟩
  · refine ⟨2, nI 0, C, _, M, by decide, vw_id hs (v_call_u l hlT D ca x oq v hs _ _ _ G hb hc hup), c_Mo_callU l D ca h ad co M s c hR.1 hs hc (by rw [a1, a17]; exact hup), hR, fun z => absurd z (by decide)⟩
set_option maxRecDepth 100000 in
theorem o_accept (l : Launch) (hlT : l.stackTraces = false) (D : va_G) (ca : Nat → ClassId) (x oq h : Nat) (v ad : Nat → Nat) (co : Nat) (C : CS_) (G : Nat → Int64) (M : Nat → Nat → Nat) (hR : RR C M) (x₀ y₀ : Int32) : Op vN l D ca x oq h v ad yLw_accept (Cond.codeWith yLw_accept cLw_accept 4 (some FieldType.int) [(0, 6, 9, 13), (0, 6, 12, 19)] :: tb_) [.ref x, .int x₀, .int y₀] yMo_accept (Cond.code yMo_accept cMo_accept 3 none :: tb_) { frames := 5, cells := 0, slots := 0, locals := 160 } [.ref h, .int x₀, .int y₀] (fun _ => none) co C G M := by
  rcases ix2 x₀ with hx | ⟨s, hs, rfl⟩
  · exact ⟨1, nI 0, C, G, M, by decide, fr2 (w_accept_s l hlT D ca x (v 6) (fsV v) x₀ hx.1 y₀), c_Mo_acceptX l D ca h ad co M x₀ hx.2.1 hx.2.2 y₀, hR, fun z => absurd z (by decide)⟩
  have hX := hR.rx hs
  have hb := hX.bn
  have hu := hX.bnd.2.2.2.2.2.2.2.2.2.2.2.2
  obtain ⟨a1, a2, a3, a4, a5, a6⟩ := id hX.2.1.1
  have a17 : M 17 s = (C.2.1 s).2 := hX.2.1.2.1.1
  have a0 : M 1 s = (C.2.2.2 s).2 := hX.2.2.1.1
  rcases ixN y₀ (n := 3) (by decide) with hy | ⟨c, hc, rfl⟩
  · exact ⟨1, nI 0, C, G, M, by decide, fr2 (w_accept_c l hlT D ca x (v 6) (fsV v) s hs (v s) (fsV_at hs) y₀ hy), c_Mo_acceptC l D ca h ad co M s hs y₀ hy, hR, fun z => absurd z (by decide)⟩
  obtain ⟨k1, k2, k3, k4, k5, k6, k7, k8, k9, k10, -, hk2, hk3, hk4, hk5⟩ := id (hX.2.1.2.2.1 c hc)
  by_cases hup : (C.1 s).1 = 2 ∧ (C.2.1 s).2 ≤ 9
  · have hmu : M 10 s = 2 ∧ M 17 s ≤ 9 := by rw [a1, a17]; exact hup
    by_cases hst : (C.2.2.1 s c).1 = 2
    · refine ⟨0, nI 0, _, _, _, by decide, vw_in hs (v_accept l hlT D ca x oq v hs _ _ _ G hb hc hup.1 hup.2 hst), c_Mo_accept l D ca h ad co M s c hR.1 hs hc hmu (by rw [k1]; exact hst), hR.step hs (Keep.bec hc) (bec_rel hs hX hc (by decide) (by decide) (by decide) _), fun _ => trivial⟩
    · refine ⟨2, nI 0, C, _, M, by decide, vw_id hs (v_accept_t l hlT D ca x oq v hs _ _ _ G hb hc hup hst), c_Mo_acceptS l D ca h ad co M s c hR.1 hs hc hmu (by rw [k1]; exact hst), hR, fun z => absurd z (by decide)⟩
  · refine ⟨2, nI 0, C, _, M, by decide, vw_id hs (v_accept_u l hlT D ca x oq v hs _ _ _ G hb hc hup), c_Mo_acceptU l D ca h ad co M s c hR.1 hs hc (by rw [a1, a17]; exact hup), hR, fun z => absurd z (by decide)⟩
set_option maxRecDepth 100000 in
theorem o_clear (l : Launch) (hlT : l.stackTraces = false) (D : va_G) (ca : Nat → ClassId) (x oq h : Nat) (v ad : Nat → Nat) (co : Nat) (C : CS_) (G : Nat → Int64) (M : Nat → Nat → Nat) (hR : RR C M) (x₀ y₀ : Int32) : Op vN l D ca x oq h v ad yLw_clear (Cond.codeWith yLw_clear cLw_clear 4 (some FieldType.int) [(0, 6, 9, 13), (0, 6, 12, 19)] :: tb_) [.ref x, .int x₀, .int y₀] yMo_clear (Cond.code yMo_clear cMo_clear 3 none :: tb_) { frames := 5, cells := 0, slots := 0, locals := 160 } [.ref h, .int x₀, .int y₀] (fun _ => none) co C G M := by
  rcases ix2 x₀ with hx | ⟨s, hs, rfl⟩
  · exact ⟨1, nI 0, C, G, M, by decide, fr2 (w_clear_s l hlT D ca x (v 6) (fsV v) x₀ hx.1 y₀), c_Mo_clearX l D ca h ad co M x₀ hx.2.1 hx.2.2 y₀, hR, fun z => absurd z (by decide)⟩
  have hX := hR.rx hs
  have hb := hX.bn
  have hu := hX.bnd.2.2.2.2.2.2.2.2.2.2.2.2
  obtain ⟨a1, a2, a3, a4, a5, a6⟩ := id hX.2.1.1
  have a17 : M 17 s = (C.2.1 s).2 := hX.2.1.2.1.1
  have a0 : M 1 s = (C.2.2.2 s).2 := hX.2.2.1.1
  rcases ixN y₀ (n := 3) (by decide) with hy | ⟨c, hc, rfl⟩
  · exact ⟨1, nI 0, C, G, M, by decide, fr2 (w_clear_c l hlT D ca x (v 6) (fsV v) s hs (v s) (fsV_at hs) y₀ hy), c_Mo_clearC l D ca h ad co M s hs y₀ hy, hR, fun z => absurd z (by decide)⟩
  obtain ⟨k1, k2, k3, k4, k5, k6, k7, k8, k9, k10, -, hk2, hk3, hk4, hk5⟩ := id (hX.2.1.2.2.1 c hc)
  by_cases hup : (C.1 s).1 = 2 ∧ (C.2.1 s).2 ≤ 9
  · have hmu : M 10 s = 2 ∧ M 17 s ≤ 9 := by rw [a1, a17]; exact hup
    by_cases hst : (C.2.2.1 s c).1 ≠ 0 ∧ (C.2.2.1 s c).1 ≠ 4
    · refine ⟨0, nI 0, _, _, _, by decide, vw_in hs (v_clear l hlT D ca x oq v hs _ _ _ G hb hc hup.1 hup.2 hst), c_Mo_clear l D ca h ad co M s c hR.1 hs hc hmu (by rw [k1]; exact hst), hR.step hs (Keep.bec hc) (bec_rel hs hX hc (by decide) (by decide) (by decide) _), fun _ => trivial⟩
    · refine ⟨2, nI 0, C, _, M, by decide, vw_id hs (v_clear_t l hlT D ca x oq v hs _ _ _ G hb hc hup (by omega)), c_Mo_clearS l D ca h ad co M s c hR.1 hs hc hmu (by rw [k1]; exact hst), hR, fun z => absurd z (by decide)⟩
  · refine ⟨2, nI 0, C, _, M, by decide, vw_id hs (v_clear_u l hlT D ca x oq v hs _ _ _ G hb hc hup), c_Mo_clearU l D ca h ad co M s c hR.1 hs hc (by rw [a1, a17]; exact hup), hR, fun z => absurd z (by decide)⟩
set_option maxRecDepth 100000 in
theorem o_reset (l : Launch) (hlT : l.stackTraces = false) (D : va_G) (ca : Nat → ClassId) (x oq h : Nat) (v ad : Nat → Nat) (co : Nat) (C : CS_) (G : Nat → Int64) (M : Nat → Nat → Nat) (hR : RR C M) (x₀ y₀ : Int32) : Op vN l D ca x oq h v ad yLw_reset (Cond.codeWith yLw_reset cLw_reset 4 (some FieldType.int) [(0, 6, 9, 13), (0, 6, 12, 19)] :: tb_) [.ref x, .int x₀, .int y₀] yMo_reset (Cond.code yMo_reset cMo_reset 3 none :: tb_) { frames := 5, cells := 0, slots := 0, locals := 160 } [.ref h, .int x₀, .int y₀] (fun _ => none) co C G M := by
  rcases ix2 x₀ with hx | ⟨s, hs, rfl⟩
  · exact ⟨1, nI 0, C, G, M, by decide, fr2 (w_reset_s l hlT D ca x (v 6) (fsV v) x₀ hx.1 y₀), c_Mo_resetX l D ca h ad co M x₀ hx.2.1 hx.2.2 y₀, hR, fun z => absurd z (by decide)⟩
  have hX := hR.rx hs
  have hb := hX.bn
  have hu := hX.bnd.2.2.2.2.2.2.2.2.2.2.2.2
  obtain ⟨a1, a2, a3, a4, a5, a6⟩ := id hX.2.1.1
  have a17 : M 17 s = (C.2.1 s).2 := hX.2.1.2.1.1
  have a0 : M 1 s = (C.2.2.2 s).2 := hX.2.2.1.1
  rcases ixN y₀ (n := 3) (by decide) with hy | ⟨c, hc, rfl⟩
  · exact ⟨1, nI 0, C, G, M, by decide, fr2 (w_reset_c l hlT D ca x (v 6) (fsV v) s hs (v s) (fsV_at hs) y₀ hy), c_Mo_resetC l D ca h ad co M s hs y₀ hy, hR, fun z => absurd z (by decide)⟩
  obtain ⟨k1, k2, k3, k4, k5, k6, k7, k8, k9, k10, -, hk2, hk3, hk4, hk5⟩ := id (hX.2.1.2.2.1 c hc)
  by_cases hup : (C.1 s).1 = 2 ∧ (C.2.1 s).2 ≤ 9
  · have hmu : M 10 s = 2 ∧ M 17 s ≤ 9 := by rw [a1, a17]; exact hup
    by_cases hst : (C.2.2.1 s c).1 = 3
    · refine ⟨0, nI 0, _, _, _, by decide, vw_in hs (v_reset l hlT D ca x oq v hs _ _ _ G hb hc hup.1 hup.2 hst), c_Mo_reset l D ca h ad co M s c hR.1 hs hc hmu (by rw [k1]; exact hst), hR.step hs (Keep.bec hc) (bec_rel hs hX hc (by decide) (by decide) (by decide) _), fun _ => trivial⟩
    · refine ⟨2, nI 0, C, _, M, by decide, vw_id hs (v_reset_t l hlT D ca x oq v hs _ _ _ G hb hc hup hst), c_Mo_resetS l D ca h ad co M s c hR.1 hs hc hmu (by rw [k1]; exact hst), hR, fun z => absurd z (by decide)⟩
  · refine ⟨2, nI 0, C, _, M, by decide, vw_id hs (v_reset_u l hlT D ca x oq v hs _ _ _ G hb hc hup), c_Mo_resetU l D ca h ad co M s c hR.1 hs hc (by rw [a1, a17]; exact hup), hR, fun z => absurd z (by decide)⟩
set_option maxRecDepth 100000 in
theorem o_send (l : Launch) (hlT : l.stackTraces = false) (D : va_G) (ca : Nat → ClassId) (x oq h : Nat) (v ad : Nat → Nat) (co : Nat) (C : CS_) (G : Nat → Int64) (M : Nat → Nat → Nat) (hR : RR C M) (x₀ y₀ v₁ : Int32) (mo : Nat) (hmo : mo < 2) : Op vB l D ca x oq h v ad yLw_send (Cond.codeWith yLw_send cLw_send 7 (some FieldType.int) [(0, 21, 24, 13), (0, 21, 28, 50), (0, 21, 32, 19)] :: tb_) [.ref x, .int x₀, .int y₀, .int v₁, .int (nI mo), .ref oq] yMo_send (Cond.code yMo_send cMo_send 6 (some FieldType.boolean) :: tb_) { frames := 5, cells := 0, slots := 0, locals := 160 } [.ref h, .int x₀, .int y₀, .int v₁, .int (nI mo)] (fun b => some (.int b)) co C G M := by
  rcases ix2 x₀ with hx | ⟨s, hs, rfl⟩
  · exact ⟨1, nI 0, C, G, M, by decide, fr3 (w_send_s l hlT D ca x (v 6) (fsV v) x₀ hx.1 y₀ v₁ (nI mo) oq G), c_Mo_sendX l D ca h ad co M x₀ hx.2.1 hx.2.2 y₀ v₁ mo, hR, fun z => absurd z (by decide)⟩
  have hX := hR.rx hs
  have hb := hX.bn
  have hu := hX.bnd.2.2.2.2.2.2.2.2.2.2.2.2
  obtain ⟨a1, a2, a3, a4, a5, a6⟩ := id hX.2.1.1
  have a17 : M 17 s = (C.2.1 s).2 := hX.2.1.2.1.1
  have a0 : M 1 s = (C.2.2.2 s).2 := hX.2.2.1.1
  rcases ixN y₀ (n := 3) (by decide) with hy | ⟨c, hc, rfl⟩
  · exact ⟨1, nI 0, C, G, M, by decide, fr3 (w_send_c l hlT D ca x (v 6) (fsV v) s hs (v s) (fsV_at hs) y₀ hy v₁ (nI mo) oq G), c_Mo_sendC l D ca h ad co M s hs y₀ hy v₁ mo, hR, fun z => absurd z (by decide)⟩
  obtain ⟨k1, k2, k3, k4, k5, k6, k7, k8, k9, k10, -, hk2, hk3, hk4, hk5⟩ := id (hX.2.1.2.2.1 c hc)
  by_cases hv : v₁ < 0 ∨ nI 255 < v₁
  · refine ⟨2, nI 0, C, _, M, by decide, vw_id hs (v_send_v l hlT D ca x oq v hs _ _ _ G hb hc v₁ (nI mo) hv), c_Mo_sendV l D ca h ad co M s c hR.1 hs hc v₁ mo hv, hR, fun z => absurd z (by decide)⟩
  obtain ⟨vl, -, z, rfl⟩ := ixR (x := v₁) (a := 0) (b := 255) (by decide) (by decide) (fun z => hv (Or.inl z)) (fun z => hv (Or.inr z))
  have hvl : vl < 256 := by omega
  by_cases hup : (C.1 s).1 = 2 ∧ (C.2.1 s).2 ≤ 9
  · have hmu : M 10 s = 2 ∧ M 17 s ≤ 9 := by rw [a1, a17]; exact hup
    by_cases hst : (C.2.2.1 s c).1 = 3
    · by_cases hw : ds (C.2.2.1 s c).2.2.1 (C.2.2.1 s c).2.1 < 2
      · refine ⟨0, nI 1, _, _, _, by decide, vw_in hs (v_send l hlT D ca x oq v hs _ _ _ G hb hc vl mo hvl hmo hup.1 hup.2 hst hw), c_Mo_send l D ca h ad co M s c hR.1 hs hc vl mo hvl hmo hmu (k1.trans hst) (by rw [k2, k3]; exact hw), hR.step hs (Keep.send hc) (send_rel hs hX hc (by split <;> omega) hst hw), fun _ => vB.mk1⟩
      · refine ⟨0, nI 0, C, _, M, by decide, vw_id hs (v_sendNo l hlT D ca x oq v hs _ _ _ G hb hc vl mo hvl hup.1 hup.2 hst (by omega)), c_Mo_sendNo l D ca h ad co M s c hR.1 hs hc vl mo hvl hmo hmu (k1.trans hst) (by rw [k2, k3]; omega), hR, fun _ => vB.mk0⟩
    · refine ⟨3, nI 0, C, _, M, by decide, vw_id hs (v_send_t l hlT D ca x oq v hs _ _ _ G hb hc vl mo hvl hup hst), c_Mo_sendS l D ca h ad co M s c hR.1 hs hc vl mo hvl hmo hmu (by rw [k1]; exact hst), hR, fun z => absurd z (by decide)⟩
  · refine ⟨3, nI 0, C, _, M, by decide, vw_id hs (v_send_u l hlT D ca x oq v hs _ _ _ G hb hc vl mo hvl hup), c_Mo_sendU l D ca h ad co M s c hR.1 hs hc vl mo hvl hmo (by rw [a1, a17]; exact hup), hR, fun z => absurd z (by decide)⟩
set_option maxRecDepth 100000 in
theorem o_receive (l : Launch) (hlT : l.stackTraces = false) (D : va_G) (ca : Nat → ClassId) (x oq h : Nat) (v ad : Nat → Nat) (co : Nat) (C : CS_) (G : Nat → Int64) (M : Nat → Nat → Nat) (hR : RR C M) (x₀ y₀ : Int32) : Op vI l D ca x oq h v ad yLw_receive (Cond.codeWith yLw_receive cLw_receive 5 (some FieldType.int) [(0, 10, 13, 13), (0, 10, 17, 19), (0, 10, 21, 24)] :: tb_) [.ref x, .int x₀, .int y₀, .ref oq] yMo_receive (Cond.code yMo_receive cMo_receive 5 (some FieldType.int) :: tb_) { frames := 5, cells := 0, slots := 0, locals := 160 } [.ref h, .int x₀, .int y₀] (fun b => some (.int b)) co C G M := by
  rcases ix2 x₀ with hx | ⟨s, hs, rfl⟩
  · exact ⟨1, nI 0, C, G, M, by decide, fr3 (w_receive_s l hlT D ca x (v 6) (fsV v) x₀ hx.1 y₀ oq G), c_Mo_receiveX l D ca h ad co M x₀ hx.2.1 hx.2.2 y₀, hR, fun z => absurd z (by decide)⟩
  have hX := hR.rx hs
  have hb := hX.bn
  have hu := hX.bnd.2.2.2.2.2.2.2.2.2.2.2.2
  obtain ⟨a1, a2, a3, a4, a5, a6⟩ := id hX.2.1.1
  have a17 : M 17 s = (C.2.1 s).2 := hX.2.1.2.1.1
  have a0 : M 1 s = (C.2.2.2 s).2 := hX.2.2.1.1
  rcases ixN y₀ (n := 3) (by decide) with hy | ⟨c, hc, rfl⟩
  · exact ⟨1, nI 0, C, G, M, by decide, fr3 (w_receive_c l hlT D ca x (v 6) (fsV v) s hs (v s) (fsV_at hs) y₀ hy oq G), c_Mo_receiveC l D ca h ad co M s hs y₀ hy, hR, fun z => absurd z (by decide)⟩
  obtain ⟨k1, k2, k3, k4, k5, k6, k7, k8, k9, k10, -, hk2, hk3, hk4, hk5⟩ := id (hX.2.1.2.2.1 c hc)
  have hz : M 26 (3 * s + c) = M 27 (3 * s + c) ↔ (C.2.2.1 s c).2.2.2.2.2.2 = 0 := by rw [k4, k5, k6]; exact (ds_0 hk5 hk4).symm
  by_cases hup : (C.1 s).1 = 2 ∧ (C.2.1 s).2 ≤ 9
  · have hmu : M 10 s = 2 ∧ M 17 s ≤ 9 := by rw [a1, a17]; exact hup
    by_cases hst : (C.2.2.1 s c).1 = 3
    · by_cases h0 : (C.2.2.1 s c).2.2.2.2.2.2 = 0
      · refine ⟨3, nI 0, C, _, M, by decide, vw_id hs (v_receive_e l hlT D ca x oq v hs _ _ _ G hb hc hup hst h0), c_Mo_receiveE l D ca h ad co M s c hR.1 hs hc hmu (k1.trans hst) (hz.mpr h0), hR, fun z => absurd z (by decide)⟩
      · have e28 : M 28 (2 * (3 * s + c)) = (C.2.2.1 s c).2.2.2.2.2.1 0 := (k8 0 (by omega)).1
        refine ⟨0, nI (M 28 (2 * (3 * s + c))), _, _, _, by decide, vw_in hs (v_receive l hlT D ca x oq v hs _ _ _ G hb hc hup.1 hup.2 hst (by omega)), c_Mo_receive l D ca h ad co M s c hR.1 hs hc hmu (k1.trans hst) (fun z => h0 (hz.mp z)), hR.step hs (Keep.recv hc) (recv_rel hs hX hc hst (by omega)), fun _ => vI.mk (by rw [e28])⟩
    · refine ⟨2, nI 0, C, _, M, by decide, vw_id hs (v_receive_t l hlT D ca x oq v hs _ _ _ G hb hc hup hst), c_Mo_receiveS l D ca h ad co M s c hR.1 hs hc hmu (by rw [k1]; exact hst), hR, fun z => absurd z (by decide)⟩
  · refine ⟨2, nI 0, C, _, M, by decide, vw_id hs (v_receive_u l hlT D ca x oq v hs _ _ _ G hb hc hup), c_Mo_receiveU l D ca h ad co M s c hR.1 hs hc (by rw [a1, a17]; exact hup), hR, fun z => absurd z (by decide)⟩
set_option maxRecDepth 100000 in
theorem o_link (l : Launch) (hlT : l.stackTraces = false) (D : va_G) (ca : Nat → ClassId) (x oq h : Nat) (v ad : Nat → Nat) (co : Nat) (C : CS_) (G : Nat → Int64) (M : Nat → Nat → Nat) (hR : RR C M) (x₀ w₁ : Int32) : Op vI l D ca x oq h v ad yLw_link (Cond.codeWith yLw_link cLw_link 5 (some FieldType.int) [(0, 10, 13, 13)] :: tb_) [.ref x, .int x₀, .int w₁, .ref oq] yMo_link (Cond.code yMo_link cMo_link 3 (some FieldType.int) :: tb_) { frames := 1, cells := 0, slots := 0, locals := 32 } [.ref h, .int x₀, .int w₁] (fun b => some (.int b)) co C G M := by
  rcases ix2 x₀ with hx | ⟨s, hs, rfl⟩
  · exact ⟨1, nI 0, C, G, M, by decide, fr3 (w_link_s l hlT D ca x (v 6) (fsV v) x₀ hx.1 w₁ oq G), c_Mo_linkX l D ca h ad co M x₀ hx.2.1 hx.2.2 w₁, hR, fun z => absurd z (by decide)⟩
  have hX := hR.rx hs
  have hb := hX.bn
  have hu := hX.bnd.2.2.2.2.2.2.2.2.2.2.2.2
  obtain ⟨a1, a2, a3, a4, a5, a6⟩ := id hX.2.1.1
  have a17 : M 17 s = (C.2.1 s).2 := hX.2.1.2.1.1
  have a0 : M 1 s = (C.2.2.2 s).2 := hX.2.2.1.1
  rcases ixW w₁ (n := 8) (m := 7) (by decide) rfl with hw | ⟨w₀, hw, rfl⟩
  · refine ⟨0, -1, C, _, M, by decide, vw_id hs (v_linkX l hlT D ca x oq v hs _ _ _ G hb w₁ hw), c_Mo_linkW l D ca h ad co M s hs w₁ hw, hR, fun _ => vI.neg⟩
  · refine ⟨0, _, C, _, M, by decide, vw_id hs (v_link l hlT D ca x oq v hs _ _ _ G hb w₀ hw), c_Mo_link l D ca h ad co M s hR.1 hs w₀ hw, hR, fun _ => vI.mk (by rw [a1, a2, a3, a4, a5, a6, a17, a0])⟩
set_option maxRecDepth 100000 in
theorem o_channel (l : Launch) (hlT : l.stackTraces = false) (D : va_G) (ca : Nat → ClassId) (x oq h : Nat) (v ad : Nat → Nat) (co : Nat) (C : CS_) (G : Nat → Int64) (M : Nat → Nat → Nat) (hR : RR C M) (x₀ y₀ w₁ : Int32) : Op vI l D ca x oq h v ad yLw_channel (Cond.codeWith yLw_channel cLw_channel 6 (some FieldType.int) [(0, 12, 15, 13)] :: tb_) [.ref x, .int x₀, .int y₀, .int w₁, .ref oq] yMo_channel (Cond.code yMo_channel cMo_channel 5 (some FieldType.int) :: tb_) { frames := 2, cells := 0, slots := 0, locals := 64 } [.ref h, .int x₀, .int y₀, .int w₁] (fun b => some (.int b)) co C G M := by
  rcases ix2 x₀ with hx | ⟨s, hs, rfl⟩
  · exact ⟨1, nI 0, C, G, M, by decide, fr3 (w_channel_s l hlT D ca x (v 6) (fsV v) x₀ hx.1 y₀ w₁ oq G), c_Mo_channelX l D ca h ad co M x₀ hx.2.1 hx.2.2 y₀ w₁, hR, fun z => absurd z (by decide)⟩
  have hX := hR.rx hs
  have hb := hX.bn
  have hu := hX.bnd.2.2.2.2.2.2.2.2.2.2.2.2
  obtain ⟨a1, a2, a3, a4, a5, a6⟩ := id hX.2.1.1
  have a17 : M 17 s = (C.2.1 s).2 := hX.2.1.2.1.1
  have a0 : M 1 s = (C.2.2.2 s).2 := hX.2.2.1.1
  rcases ixN y₀ (n := 3) (by decide) with hy | ⟨c, hc, rfl⟩
  · exact ⟨1, nI 0, C, G, M, by decide, fr3 (w_channel_c l hlT D ca x (v 6) (fsV v) s hs (v s) (fsV_at hs) y₀ hy w₁ oq G), c_Mo_channelC l D ca h ad co M s hs y₀ hy w₁, hR, fun z => absurd z (by decide)⟩
  obtain ⟨k1, k2, k3, k4, k5, k6, k7, k8, k9, k10, -, hk2, hk3, hk4, hk5⟩ := id (hX.2.1.2.2.1 c hc)
  rcases ixW w₁ (n := 5) (m := 4) (by decide) rfl with hw | ⟨w₀, hw, rfl⟩
  · refine ⟨0, -1, C, _, M, by decide, vw_id hs (v_channelX l hlT D ca x oq v hs _ _ _ G hb hc w₁ hw), c_Mo_channelW l D ca h ad co M s c hs hc w₁ hw, hR, fun _ => vI.neg⟩
  · refine ⟨0, _, C, _, M, by decide, vw_id hs (v_channel l hlT D ca x oq v hs _ _ _ G hb hc w₀ hw), c_Mo_channel l D ca h ad co M s c hs hc w₀ hw, hR, fun _ => vI.mk (by rw [k1, k2, k3, k4, k5])⟩
set_option maxRecDepth 100000 in
theorem o_frame (l : Launch) (hlT : l.stackTraces = false) (D : va_G) (ca : Nat → ClassId) (x oq h : Nat) (v ad : Nat → Nat) (co : Nat) (C : CS_) (G : Nat → Int64) (M : Nat → Nat → Nat) (hR : RR C M) (x₀ k₁ w₁ : Int32) : Op vI l D ca x oq h v ad yLw_frame (Cond.codeWith yLw_frame cLw_frame 6 (some FieldType.int) [(0, 12, 15, 13)] :: tb_) [.ref x, .int x₀, .int k₁, .int w₁, .ref oq] yMo_frame (Cond.code yMo_frame cMo_frame 5 (some FieldType.int) :: tb_) { frames := 1, cells := 0, slots := 0, locals := 32 } [.ref h, .int x₀, .int k₁, .int w₁] (fun b => some (.int b)) co C G M := by
  rcases ix2 x₀ with hx | ⟨s, hs, rfl⟩
  · exact ⟨1, nI 0, C, G, M, by decide, fr3 (w_frame_s l hlT D ca x (v 6) (fsV v) x₀ hx.1 k₁ w₁ oq G), c_Mo_frameX l D ca h ad co M x₀ hx.2.1 hx.2.2 k₁ w₁, hR, fun z => absurd z (by decide)⟩
  have hX := hR.rx hs
  have hb := hX.bn
  have hu := hX.bnd.2.2.2.2.2.2.2.2.2.2.2.2
  obtain ⟨a1, a2, a3, a4, a5, a6⟩ := id hX.2.1.1
  have a17 : M 17 s = (C.2.1 s).2 := hX.2.1.2.1.1
  have a0 : M 1 s = (C.2.2.2 s).2 := hX.2.2.1.1
  rcases ixN k₁ (n := (C.2.2.2 s).2) (Nat.lt_of_le_of_lt hb.2.2.2.2.2.2.2.2.1 (by decide)) with hk | ⟨k₀, hk, rfl⟩
  · refine ⟨0, -1, C, _, M, by decide, vw_id hs (v_frameN l hlT D ca x oq v hs _ _ _ G hb k₁ w₁ hk), c_Mo_frameN l D ca h ad co M s hs k₁ w₁ (by rw [a0]; exact hk), hR, fun _ => vI.neg⟩
  have hmk : k₀ < M 1 s := by rw [a0]; exact hk
  rcases ixW w₁ (n := 8) (m := 7) (by decide) rfl with hw | ⟨w₀, hw, rfl⟩
  · refine ⟨0, -1, C, _, M, by decide, vw_id hs (v_frameX l hlT D ca x oq v hs _ _ _ G hb k₀ hk w₁ hw), c_Mo_frameW l D ca h ad co M s k₀ hR.1 hs hmk w₁ hw, hR, fun _ => vI.neg⟩
  · obtain ⟨f1, f2, f3, f4, f5, f6, f7, f8, -⟩ := hX.2.2.1.first hk
    refine ⟨0, _, C, _, M, by decide, vw_id hs (v_frame l hlT D ca x oq v hs _ _ _ G hb k₀ hk w₀ hw), c_Mo_frame l D ca h ad co M s k₀ hR.1 hs hmk w₀ hw, hR, fun _ => vI.mk (by rw [f1, f2, f3, f4, f5, f6, f7, f8])⟩
set_option maxRecDepth 100000 in
theorem o_peek (l : Launch) (hlT : l.stackTraces = false) (D : va_G) (ca : Nat → ClassId) (x oq h : Nat) (v ad : Nat → Nat) (co : Nat) (C : CS_) (G : Nat → Int64) (M : Nat → Nat → Nat) (hR : RR C M) (x₀ y₀ : Int32) : Op vI l D ca x oq h v ad yLw_peek (Cond.codeWith yLw_peek cLw_peek 5 (some FieldType.int) [(0, 10, 13, 13)] :: tb_) [.ref x, .int x₀, .int y₀, .ref oq] yMo_peek (Cond.code yMo_peek cMo_peek 4 (some FieldType.int) :: tb_) { frames := 2, cells := 0, slots := 0, locals := 64 } [.ref h, .int x₀, .int y₀] (fun b => some (.int b)) co C G M := by
  rcases ix2 x₀ with hx | ⟨s, hs, rfl⟩
  · exact ⟨1, nI 0, C, G, M, by decide, fr3 (w_peek_s l hlT D ca x (v 6) (fsV v) x₀ hx.1 y₀ oq G), c_Mo_peekX l D ca h ad co M x₀ hx.2.1 hx.2.2 y₀, hR, fun z => absurd z (by decide)⟩
  have hX := hR.rx hs
  have hb := hX.bn
  have hu := hX.bnd.2.2.2.2.2.2.2.2.2.2.2.2
  obtain ⟨a1, a2, a3, a4, a5, a6⟩ := id hX.2.1.1
  have a17 : M 17 s = (C.2.1 s).2 := hX.2.1.2.1.1
  have a0 : M 1 s = (C.2.2.2 s).2 := hX.2.2.1.1
  rcases ixN y₀ (n := 3) (by decide) with hy | ⟨c, hc, rfl⟩
  · exact ⟨1, nI 0, C, G, M, by decide, fr3 (w_peek_c l hlT D ca x (v 6) (fsV v) s hs (v s) (fsV_at hs) y₀ hy oq G), c_Mo_peekC l D ca h ad co M s hs y₀ hy, hR, fun z => absurd z (by decide)⟩
  obtain ⟨k1, k2, k3, k4, k5, k6, k7, k8, k9, k10, -, hk2, hk3, hk4, hk5⟩ := id (hX.2.1.2.2.1 c hc)
  have hz : M 26 (3 * s + c) = M 27 (3 * s + c) ↔ (C.2.2.1 s c).2.2.2.2.2.2 = 0 := by rw [k4, k5, k6]; exact (ds_0 hk5 hk4).symm
  by_cases h0 : (C.2.2.1 s c).2.2.2.2.2.2 = 0
  · refine ⟨0, -1, C, _, M, by decide, vw_id hs (v_peekN l hlT D ca x oq v hs _ _ _ G hb hc h0), c_Mo_peekN l D ca h ad co M s c hR.1 hs hc (hz.mpr h0), hR, fun _ => vI.neg⟩
  · have e28 : M 28 (2 * (3 * s + c)) = (C.2.2.1 s c).2.2.2.2.2.1 0 := (k8 0 (by omega)).1
    refine ⟨0, _, C, _, M, by decide, vw_id hs (v_peek l hlT D ca x oq v hs _ _ _ G hb hc (by omega)), c_Mo_peek l D ca h ad co M s c hR.1 hs hc (fun z => h0 (hz.mp z)), hR, fun _ => vI.mk (by rw [e28])⟩
