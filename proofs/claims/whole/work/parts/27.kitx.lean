/-! What throws: contracts of methods that throw, wrappers that catch. -/
def cdW : Cond → Bool
  | .castable _ _ => true
  | .declares _ => true
  | _ => false
def nx2_ : List Cond := lw_tbl.filter cdW
theorem nx2_in {w : Cond} (h : w ∈ lw_tbl) (g : cdW w = true) : w ∈ nx2_ := List.mem_filter.mpr ⟨h, g⟩
theorem cd_warm {w : Cond} (g : cdW w = true) {s U : State} (hW : s.WarmedH U.vm) (h : va_Nw w s) : va_Nw w U := by
  unfold cdW at g
  split at g
  · exact va_Nw.warmC hW h
  · exact va_Nw.warmD hW h
  · cases g
theorem cd_tabs {w : Cond} (g : cdW w = true) : w.onTables = true := by
  unfold cdW at g
  split at g
  · rfl
  · rfl
  · cases g
/-- no exception of one kind is one of another -/
def Nz (U : State) : Prop := va_Nc "java/lang/IllegalStateException" "java/lang/IndexOutOfBoundsException" U ∧ va_Nc "java/util/NoSuchElementException" "java/lang/IndexOutOfBoundsException" U ∧ va_Nc "java/lang/IllegalArgumentException" "java/lang/IndexOutOfBoundsException" U ∧ va_Nc "java/lang/IllegalStateException" "java/lang/IllegalArgumentException" U ∧ va_Nc "java/util/NoSuchElementException" "java/lang/IllegalStateException" U
theorem Nz.moved {u U : State} (hvm : u.vm.Alike U.vm) (h : Nz u) : Nz U := ⟨h.1.moved hvm, h.2.1.moved hvm, h.2.2.1.moved hvm, h.2.2.2.1.moved hvm, h.2.2.2.2.moved hvm⟩
/-- what a throw needs besides the environment: Throwable's two statics outside A, the texts, a few words more -/
def Zx (A : Nat → Prop) (U : State) (H : Heap) : Prop := vx_Zq Bundle.tN "UNASSIGNED_STACK" Bundle.steD A U H ∧ vx_Zq Bundle.tN "SUPPRESSED_SENTINEL" Bundle.listD A U H ∧ (∀ w ∈ nx2_, va_Nw w U) ∧
  (∃ a, vk_R RCl 177 "no such station" a U) ∧ (∃ a, vk_R RCl 189 "no such channel" a U) ∧ (∃ a, vk_R RCl 193 "a value is 0 .. 255" a U) ∧ (∃ a, vk_R RCl 198 "not in this state" a U) ∧ (∃ a, vk_R RCl 203 "nothing is there" a U) ∧ Nz U
theorem Zx.warm {A : Nat → Prop} {s U : State} {H : Heap} (h : Zx A s H) (hW : s.WarmedH U.vm) : Zx A U H := by
  obtain ⟨h1, h2, h3, ⟨a1, g1⟩, ⟨a2, g2⟩, ⟨a3, g3⟩, ⟨a4, g4⟩, ⟨a5, g5⟩, hn⟩ := h
  exact ⟨h1.moved hW.alike, h2.moved hW.alike, fun w hw => cd_warm (List.mem_filter.mp hw).2 hW (h3 w hw), ⟨a1, g1.warm hW⟩, ⟨a2, g2.warm hW⟩, ⟨a3, g3.warm hW⟩, ⟨a4, g4.warm hW⟩, ⟨a5, g5.warm hW⟩, hn.moved hW.alike⟩
theorem Zx.calling {A : Nat → Prop} {U : State} {H : Heap} (g : JFrame) (mk : MethodId) (a : Array Value) (h : Zx A U H) : Zx A (U.calling g mk a) H := by
  obtain ⟨h1, h2, h3, ⟨a1, g1⟩, ⟨a2, g2⟩, ⟨a3, g3⟩, ⟨a4, g4⟩, ⟨a5, g5⟩, hn⟩ := h
  exact ⟨vx_Zq.moved (u := U) (U := U.calling g mk a) (Vm.Alike.refl U.vm) h1, vx_Zq.moved (u := U) (U := U.calling g mk a) (Vm.Alike.refl U.vm) h2, fun w hw => va_Nw.same (cd_tabs (List.mem_filter.mp hw).2) (u := U) (U := U.calling g mk a) rfl (h3 w hw),
    ⟨a1, vk_R.same (u := U) (U := U.calling g mk a) rfl g1⟩, ⟨a2, vk_R.same (u := U) (U := U.calling g mk a) rfl g2⟩, ⟨a3, vk_R.same (u := U) (U := U.calling g mk a) rfl g3⟩, ⟨a4, vk_R.same (u := U) (U := U.calling g mk a) rfl g4⟩, ⟨a5, vk_R.same (u := U) (U := U.calling g mk a) rfl g5⟩, Nz.moved (u := U) (U := U.calling g mk a) (Vm.Alike.refl U.vm) hn⟩
theorem Zx.kept {A : Nat → Prop} {U : State} {H H1 : Heap} (h : Zx A U H) (hq : ∀ a : Nat, a < H.size → ¬ A a → H1[a]? = H[a]?) : Zx A U H1 := ⟨h.1.kept hq, h.2.1.kept hq, h.2.2⟩
theorem Zx.narrow {A B : Nat → Prop} {U : State} {H : Heap} (h : Zx A U H) (hAB : ∀ q, B q → A q) : Zx B U H := ⟨h.1.narrow hAB, h.2.1.narrow hAB, h.2.2⟩
def CoXP (D : va_G) (ca : Nat → ClassId) (wc : va_W) (sz : Nat) : State → Prop := fun U => CoP D ca wc sz U ∧ Zx (va_A wc sz) U U.heap
def XCo (D : va_G) (E : String) (wc : va_W) (A : Nat → Prop) : String → State → State → Prop := fun E' st t => E' = E ∧ va_P D cls_ wc t.heap ∧ va_D A wc ∧ va_F A st t
abbrev QNo : Array Value → State → Outcome → State → Prop := fun _ _ _ _ => False
/-- a method that throws E and leaves its cells as they were -/
def CoX (l : Launch) (y : MethodName) (ws : List Cond) (rm : Room) (D : va_G) (ca : Nat → ClassId) (av : List Value) (wc : va_W) (E : String) (mc ms : Nat) : Prop :=
  ∀ sz : Nat, vx_Met l y ws rm (va_Pc av (CoXP D ca wc sz)) QNo (XCo D E wc (va_A wc sz)) mc ms (va_A wc sz)
theorem CoXP.blind {D : va_G} {ca : Nat → ClassId} {av : List Value} {wc : va_W} {sz : Nat} : FrameBlind (va_Pc av (CoXP D ca wc sz)) := fun a U g mk h => ⟨h.1, ⟨h.2.1.1, h.2.1.2.1, Ev.calling g mk a h.2.1.2.2.1, h.2.1.2.2.2⟩, Zx.calling g mk a h.2.2⟩
theorem CoX.of {l : Launch} {y : MethodName} {ws' : List Cond} {rm : Room} {D : va_G} {ca : Nat → ClassId} {av : List Value} {wc : va_W} {E : String} {mc ms : Nat} (cc : ByteArray) (maxL : Nat) (ret : Option FieldType) (hy : plainName y.cls = true) (hlen : (lg_sl av).length ≤ maxL)
    (body : ∀ (p : Program) (e : Env) (s : State) (m : MethodId) (args : Array Value) (below : List Frame) (meth : Method) (c : Code) (A : Nat → Prop) (ls : Array Slot), CallFix p m c cc maxL s args (Cond.code y cc maxL ret :: ws') y.cls → meth.sig.returnType = ret → meth.locks = false → (∀ x ∈ c.exceptionTable.toList, False) → Ev D ca s → Zx A s s.heap → va_P D cls_ wc s.heap → va_D A wc → va_S A s.heap s.heap [] → (∀ q : Nat, s.heap.size ≤ q → A q) → lv_has ls maxL (lv_args 0 av) →
      W p l e rm s m args below meth c s.heap [] 0 0 (vx_MQ below QNo (XCo D E wc A) args s mc ms A) (F0 m 0 ls [])) :
    CoX l y (Cond.code y cc maxL ret :: ws') rm D ca av wc E mc ms := by
  intro sz
  refine vx_ofW (cc := cc) (maxL := maxL) (ret := ret) hy rfl ?_
  intro p e s m args below meth c s₁ B hml hnt hv
  obtain ⟨rfl, ⟨rfl, hP, hE, hD⟩, hZ⟩ := hv
  rw [lg_entry_eq]
  exact body p e s m _ below meth c _ _ ⟨B.exec, B.bytes, hml, findClass_of_methodNamed B.named, atoms_spec B.pre⟩ B.returns B.notSynchronized hnt hE hZ hP hD.self va_S.rf (fun q h => Or.inr h) (lv_entry av hlen)
/-- a wrapper with a table of its own, that returns -/
def CoW {S : Type} (l : Launch) (y : MethodName) (ws : List Cond) (rm : Room) (D : va_G) (ca : Nat → ClassId) (av : List Value) (wc : va_W) (rv : S → Option Value) (post : S → Prop) (w1 : S → va_W) (mc ms : Nat) : Prop :=
  ∀ sz : Nat, Met l y ws rm (va_Pc av (CoXP D ca wc sz)) (CoQ D rv post w1 (va_A wc sz)) mc ms (va_A wc sz)
theorem CoW.of {S : Type} {l : Launch} {y : MethodName} {ws' : List Cond} {rm : Room} {D : va_G} {ca : Nat → ClassId} {av : List Value} {wc : va_W} {rv : S → Option Value} {post : S → Prop} {w1 : S → va_W} {mc ms : Nat} (cc : ByteArray) (maxL : Nat) (ret : Option FieldType) (hh : List (Nat × Nat × Nat × Nat)) (hy : plainName y.cls = true) (hlen : (lg_sl av).length ≤ maxL)
    (body : ∀ (p : Program) (e : Env) (s : State) (m : MethodId) (args : Array Value) (below : List Frame) (meth : Method) (c : Code) (A : Nat → Prop) (ls : Array Slot), CallFix p m c cc maxL s args (Cond.codeWith y cc maxL ret hh :: ws') y.cls → meth.sig.returnType = ret → meth.locks = false → c.exceptionTable.toList = tableOf hh → Ev D ca s → Zx A s s.heap → va_P D cls_ wc s.heap → va_D A wc → va_S A s.heap s.heap [] → (∀ q : Nat, s.heap.size ≤ q → A q) → lv_has ls maxL (lv_args 0 av) →
      W p l e rm s m args below meth c s.heap [] 0 0 (MQ below (CoQ D rv post w1 A) args s mc ms A) (F0 m 0 ls [])) :
    CoW l y (Cond.codeWith y cc maxL ret hh :: ws') rm D ca av wc rv post w1 mc ms := by
  intro sz
  refine MetFree.of_bodyS (code := cc) (maxLocals := maxL) (ret := ret) hy ?_ ?_
  · intro args s m h hn
    obtain ⟨m9, meth, c, hn9, h1, h2, h3, h4, -, h5, h6, -⟩ := Cond.codeWith_spec (atoms_spec (ws := Cond.codeWith y cc maxL ret hh :: ws') h _ List.mem_cons_self)
    cases hn.symm.trans hn9
    exact ⟨meth, c, h1, h2, h3, h4, h5, h6⟩
  · intro p e s m args below meth c s₁ B hml hv _
    have hh0 : s₁.heap = s.heap := by rw [B.state]; rfl
    have htab := vx_table (x := y) B (atoms_spec (ws := Cond.codeWith y cc maxL ret hh :: ws') B.pre _ List.mem_cons_self)
    have X0 := Stand.of_body B
    obtain ⟨rfl, ⟨rfl, hP, hE, hD⟩, hZ⟩ := hv
    have K := body p e s m _ below meth c _ _ ⟨B.exec, B.bytes, hml, findClass_of_methodNamed B.named, atoms_spec B.pre⟩ B.returns B.notSynchronized htab hE hZ hP hD.self va_S.rf (fun q h => Or.inr h) (lv_entry av hlen)
    rw [← lg_entry_eq] at K
    obtain ⟨t, a1, o, b1, b2, b3⟩ := K s₁ hh0 X0
    exact ⟨t, o, a1, b1, b2, ⟨b3.1, b3.2⟩⟩
section KX
variable {p : Program} {l : Launch} {e : Env} {R : Room} {s : State} {m : MethodId} {args : Array Value} {below : List Frame} {meth : Method} {c : Code} {H : Heap} {locs : List Loc} {cells slots : Nat} {Q : State → Prop}
variable {cc : ByteArray} {pc : Nat} {ls : Array Slot} {rest st0 : List Value} {D : va_G} {ca : Nat → ClassId} {A : Nat → Prop} {mc ms : Nat} {H0 : Heap} {wx wc : va_W} {a : Array Value} {E : String}
theorem kX (hr : vx_Run p l e R s m args below meth c H locs cells slots mc ms (F0 m pc ls st0) rest (QNo a) (XCo D E wc (va_A wc H.size)) (va_A wc H.size)) (hP : va_P D cls_ wx H) (hD : va_D A wx) (hS : va_S A H0 H locs) (hA : ∀ q : Nat, H0.size ≤ q → A q) (isC isR : List Nat) (hC : isC.map (fun i => wx[i]?) = wc.map some) (hR : isR.map (fun i => wx[i]?) = (isR.filterMap (fun i => wx[i]?)).map some) (hn : va_nd isR = true) (hdis : ∀ i ∈ isR, i ∉ isC)
    (kk : ∀ (ce : Cell) (q : Addr) (H1 : Heap) (locs1 : List Loc), va_P D cls_ (isR.filterMap (fun i => wx[i]?) ++ wc) H1 → va_D A (isR.filterMap (fun i => wx[i]?) ++ wc) → va_S A H0 H1 locs1 → H1[q]? = some ce → ce.vm = .none → s.vm.findClass E = some ce.cls → vx_W p l e R s m args below meth c H1 locs1 (cells + mc) (slots + ms) Q (F0 m pc ls rest) q) : W p l e R s m args below meth c H locs cells slots Q (F0 m pc ls st0) := by
  have hF := va_free hD hS hA isC hC
  intro T hT X
  rcases hr T hT X with ⟨v, st₀, t, T', L, h0, X', hL, e1, e2, hq, st⟩ | ⟨q, st₀, t, T', L, E', ce, h0, X', hL, e1, e2, hq, hce, hcv, hcl, st⟩
  · exact hq.elim
  · obtain ⟨rfl, hP1, hD1, hFr⟩ := hq
    obtain ⟨k1, k2, k3⟩ := vx_keep h0 e1 hS (fun q _ h => hF q h) hF hL hFr
    rw [← e1] at hP1
    obtain ⟨hP2, hD2⟩ := va_join hP hD isC isR hC hR hn hdis k2 hF hP1 hD1
    obtain ⟨t2, a1, b1⟩ := kk ce q T'.heap (locs ++ L) hP2 hD2 k3 (by rw [e1]; exact hce) hcv hcl T' rfl X'
    exact ⟨t2, st.trans a1, b1⟩
theorem xout {q : Addr} {ce : Cell} (hnt : ∀ x ∈ c.exceptionTable.toList, False) (hlk : meth.locks = false) (hcell : H[q]? = some ce) (hv : ce.vm = .none) (hcl : s.vm.findClass E = some ce.cls) (hP : va_P D cls_ wc H) (hD : va_D A wc) (hS : va_S A s.heap H locs) (hc : cells ≤ mc) (hs : slots ≤ ms) :
    vx_W p l e R s m args below meth c H locs cells slots (vx_MQ below QNo (XCo D E wc A) args s mc ms A) (F0 m pc ls rest) q :=
  vx_out (fun x hx => (hnt x hx).elim) hlk hcell hv hcl (fun t ht _ => ⟨rfl, by rw [ht]; exact hP, hD, hS.F ht⟩) hS.2.2 hc hs
variable {y : MethodName} {bytes : ByteArray} {maxL nL n index : Nat} {ret : Option FieldType} {ws Ts : List Cond} {rm : Room} {own C : String} {av As : List Value} {b : Addr}
theorem cox_pre (hE : Ev D ca s) (hZ : Zx A s s.heap) (hP : va_P D cls_ wx H) (hD : va_D A wx) (hS : va_S A s.heap H locs) (hA : ∀ q : Nat, s.heap.size ≤ q → A q) (isC : List Nat) (hC : isC.map (fun i => wx[i]?) = wc.map some) (hnC : va_nd isC = true) : ∀ U : State, U.heap = H → s.WarmedH U.vm → va_Pc av (CoXP D ca wc H.size) av.toArray U := fun U hU hW =>
  ⟨rfl, (co_pre (av := av) hE hP hD isC hC hnC U hU hW).2, by rw [hU]; exact ((hZ.kept hS.2.1).narrow (va_free hD hS hA isC hC)).warm hW⟩
theorem xS (fx : CallFix p m c cc nL s args Ts own) (hM : CoX l y ws rm D ca av wc E mc ms) (cw : CallB R s args own index y bytes maxL ret ws rm mc ms n ∧ (Cond.static y).before args s = true) (hE : Ev D ca s) (hZ : Zx A s s.heap) (hP : va_P D cls_ wx H) (hD : va_D A wx) (hS : va_S A s.heap H locs) (hA : ∀ q : Nat, s.heap.size ≤ q → A q) (isC : List Nat) (hC : isC.map (fun i => wx[i]?) = wc.map some) (hnC : va_nd isC = true) (hn : av.length = n) (hsz : ls.size = nL) (hst : st0 = av.reverse ++ rest) (hW : (rest.map fun v => v.category).sum ≤ 8) (hdg : decode cc pc = .ok (.invokestatic index, 3)) (hf : cells + mc ≤ R.cells ∧ slots + ms ≤ R.slots) :
    vx_Run p l e R s m args below meth c H locs cells slots mc ms (F0 m pc ls st0) rest (QNo av.toArray) (XCo D E wc (va_A wc H.size)) (va_A wc H.size) :=
  vx_runS fx (hM H.size) cw ⟨CoXP.blind, cox_pre hE hZ hP hD hS hA isC hC hnC⟩ rfl hn hsz hst (lv_room hW) hdg hf
theorem xV (fx : CallFix p m c cc nL s args Ts own) (hM : CoX l y ws rm D ca (.ref b :: As) wc E mc ms) (cw : CallW R s args own C index y bytes maxL ret ws rm mc ms n) (hE : Ev D ca s) (hZ : Zx A s s.heap) (hP : va_P D cls_ wx H) (hD : va_D A wx) (hS : va_S A s.heap H locs) (hA : ∀ q : Nat, s.heap.size ≤ q → A q) (q0 : Nat) {ci : Nat} {fs : List Value} {q : vw_C} (he : wx[q0]? = some (b, .inr (ci, fs))) (hc : cls_[ci]? = some q) (hqC : q.1 = C) (isC : List Nat) (hC : isC.map (fun i => wx[i]?) = wc.map some) (hnC : va_nd isC = true) (hn : As.length = n) (hsz : ls.size = nL) (hst : st0 = As.reverse ++ .ref b :: rest) (hW : (rest.map fun v => v.category).sum ≤ 8) (hdg : decode cc pc = .ok (.invokevirtual index, 3)) (hf : cells + mc ≤ R.cells ∧ slots + ms ≤ R.slots) :
    vx_Run p l e R s m args below meth c H locs cells slots mc ms (F0 m pc ls st0) rest (QNo (Value.ref b :: As).toArray) (XCo D E wc (va_A wc H.size)) (va_A wc H.size) :=
  vx_runV fx (hM H.size) cw ⟨CoXP.blind, hqC ▸ va_recv hE.1 hP hc he, cox_pre hE hZ hP hD hS hA isC hC hnC⟩ rfl hn hsz hst (lv_room hW) hdg hf
/-- a wrapper's call, as the law makes it -/
theorem rW {S : Type} {rv : S → Option Value} {post : S → Prop} {w1 : S → va_W} {hh : List (Nat × Nat × Nat × Nat)} (fx : CallFix p m c cc nL s args Ts own) (hM : CoW l y ws rm D ca av wc rv post w1 mc ms) (cw : vx_CSW R s args own index y bytes maxL ret hh ws rm mc ms n) (hE : Ev D ca s) (hZ : Zx A s s.heap) (hP : va_P D cls_ wx H) (hD : va_D A wx) (hS : va_S A s.heap H locs) (hA : ∀ q : Nat, s.heap.size ≤ q → A q) (isC : List Nat) (hC : isC.map (fun i => wx[i]?) = wc.map some) (hnC : va_nd isC = true) (hn : av.length = n) (hsz : ls.size = nL) (hst : st0 = av.reverse ++ rest) (hW : (rest.map fun v => v.category).sum ≤ 8) (hdg : decode cc pc = .ok (.invokestatic index, 3)) (hf : cells + mc ≤ R.cells ∧ slots + ms ≤ R.slots) :
    va_Run p l e R s m args below meth c H locs cells slots mc ms (F0 m pc ls st0) rest (CoQ D rv post w1 (va_A wc H.size) av.toArray) (va_A wc H.size) :=
  vx_runSW fx (hM H.size) cw ⟨CoXP.blind, cox_pre hE hZ hP hD hS hA isC hC hnC⟩ rfl hn hsz hst (lv_room hW) hdg hf
/-- the words of a throw out of the tables -/
theorem atS_of {L : List Cond} {args : Array Value} {s : State} (hL : L.all (fun w => decide (w ∈ lw_tbl) && (goodWord w || cdW w)) = true) (ht : ∀ w ∈ tb_, w.before args s = true) (h2 : ∀ w ∈ nx2_, va_Nw w s) : ∀ w ∈ L, w.before args s = true := by
  intro w hw
  have h := List.all_eq_true.mp hL w hw
  simp only [Bool.and_eq_true, Bool.or_eq_true, decide_eq_true_eq] at h
  rcases h.2 with g | g
  · exact ht w (tb_in h.1 g)
  · exact va_Nw.use (cd_tabs g) (h2 w (nx2_in h.1 g))
end KX
