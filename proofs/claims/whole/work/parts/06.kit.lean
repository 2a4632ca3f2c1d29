/-! A layer of my own over the kit: one environment, contracts over cells, a call and an end in one row each. Numbers are Nat, seen through nI. -/
def nestW : Cond → Bool
  | .methodLinkNest _ _ _ _ => true
  | .fieldLinkNest _ _ _ _ _ _ => true
  | _ => false
def nx_ : List Cond := lw_tbl.filter nestW
theorem nx_in {w : Cond} (h : w ∈ lw_tbl) (g : nestW w = true) : w ∈ nx_ := List.mem_filter.mpr ⟨h, g⟩
theorem nest_warm {w : Cond} (g : nestW w = true) {s U : State} (hW : s.WarmedH U.vm) (h : va_Nw w s) : va_Nw w U := by
  unfold nestW at g
  split at g
  · exact va_Nw.warmM hW h
  · exact va_Nw.warmF hW h
  · cases g
theorem nest_tabs {w : Cond} (g : nestW w = true) : w.onTables = true := by
  unfold nestW at g
  split at g
  · rfl
  · rfl
  · cases g
/-- the classes whose objects the worlds hold -/
abbrev cls_ : List vw_C := [(RRw, TRw, 2), (RCh, TCh, 7), (RSt, TSt, 10), (RCl, TCl, 1), (RMo, TMo, 29)]
/-- the arrays' classes -/
abbrev tyL (ca : Nat → ClassId) : List (ClassId × FieldType) := [(ca 0, .int), (ca 1, .boolean), (ca 2, .object RSt), (ca 3, .object RCh), (ca 4, .long)]
def Ev (D : va_G) (ca : Nat → ClassId) (U : State) : Prop := va_K D cls_ (tyL ca) U ∧ (∀ w ∈ nx_, va_Nw w U) ∧ va_AO RSt U ∧ va_AO RCh U
theorem Ev.warm {D : va_G} {ca : Nat → ClassId} {s U : State} (h : Ev D ca s) (hW : s.WarmedH U.vm) : Ev D ca U := ⟨va_K.moved hW.alike h.1, fun w hw => nest_warm (List.mem_filter.mp hw).2 hW (h.2.1 w hw), va_AO.moved hW.alike h.2.2.1, va_AO.moved hW.alike h.2.2.2⟩
theorem Ev.calling {D : va_G} {ca : Nat → ClassId} {U : State} (g : JFrame) (mk : MethodId) (a : Array Value) (h : Ev D ca U) : Ev D ca (U.calling g mk a) := ⟨va_K.moved (u := U) (U := U.calling g mk a) (Vm.Alike.refl U.vm) h.1, fun w hw => va_Nw.same (nest_tabs (List.mem_filter.mp hw).2) (u := U) (U := U.calling g mk a) rfl (h.2.1 w hw), va_AO.moved (u := U) (U := U.calling g mk a) (Vm.Alike.refl U.vm) h.2.2.1, va_AO.moved (u := U) (U := U.calling g mk a) (Vm.Alike.refl U.vm) h.2.2.2⟩
theorem Ev.nest {D : va_G} {ca : Nat → ClassId} {s : State} (h : Ev D ca s) {w : Cond} (hw : w ∈ lw_tbl) (g : nestW w = true) : va_Nw w s := h.2.1 w (nx_in hw g)
theorem Ev.nestU {D : va_G} {ca : Nat → ClassId} {s : State} {args : Array Value} (h : Ev D ca s) {w : Cond} (hw : w ∈ lw_tbl) (g : nestW w = true) : w.before args s = true := va_Nw.use (nest_tabs g) (h.2.1 w (nx_in hw g))
theorem Ev.over2 {D : va_G} {ca : Nat → ClassId} {s : State} (h : Ev D ca s) : va_AO RSt s := h.2.2.1
theorem Ev.over3 {D : va_G} {ca : Nat → ClassId} {s : State} (h : Ev D ca s) : va_AO RCh s := h.2.2.2
theorem ra_eq {U : State} {C : String} {c1 c2 : ClassId} (h1 : va_RA U c1 (.object C)) (h2 : va_RA U c2 (.object C)) : c1 = c2 := by
  obtain ⟨_, _, _, _, _, g1⟩ := h1
  obtain ⟨_, _, _, _, _, g2⟩ := h2
  exact Option.some.inj (g1.symm.trans g2)
def CoP (D : va_G) (ca : Nat → ClassId) (wc : va_W) (sz : Nat) : State → Prop := fun U => U.heap.size = sz ∧ va_P D cls_ wc U.heap ∧ Ev D ca U ∧ va_D (fun _ => True) wc
def CoQ {S : Type} (D : va_G) (rv : S → Option Value) (post : S → Prop) (w1 : S → va_W) (A : Nat → Prop) : Array Value → State → Outcome → State → Prop := fun _ st oc t => (∃ u : S, oc = .returned (rv u) ∧ post u ∧ va_P D cls_ (w1 u) t.heap ∧ va_D A (w1 u)) ∧ va_F A st t
/-- a contract: from the cells wc with the arguments av it returns rv and leaves the cells w1 -/
def Co {S : Type} (l : Launch) (y : MethodName) (ws : List Cond) (rm : Room) (D : va_G) (ca : Nat → ClassId) (av : List Value) (wc : va_W) (rv : S → Option Value) (post : S → Prop) (w1 : S → va_W) (mc ms : Nat) : Prop :=
  ∀ sz : Nat, Met l y ws rm (va_Pc av (CoP D ca wc sz)) (CoQ D rv post w1 (va_A wc sz)) mc ms (va_A wc sz)
theorem CoP.blind {D : va_G} {ca : Nat → ClassId} {av : List Value} {wc : va_W} {sz : Nat} : FrameBlind (va_Pc av (CoP D ca wc sz)) := fun a U g mk h => ⟨h.1, h.2.1, h.2.2.1, Ev.calling g mk a h.2.2.2.1, h.2.2.2.2⟩
theorem Co.of {S : Type} {l : Launch} {y : MethodName} {ws' : List Cond} {rm : Room} {D : va_G} {ca : Nat → ClassId} {av : List Value} {wc : va_W} {rv : S → Option Value} {post : S → Prop} {w1 : S → va_W} {mc ms : Nat} (cc : ByteArray) (maxL : Nat) (ret : Option FieldType) (hy : plainName y.cls = true) (hlen : (lg_sl av).length ≤ maxL)
    (body : ∀ (p : Program) (e : Env) (s : State) (m : MethodId) (args : Array Value) (below : List Frame) (meth : Method) (c : Code) (A : Nat → Prop) (ls : Array Slot), CallFix p m c cc maxL s args (Cond.code y cc maxL ret :: ws') y.cls → meth.sig.returnType = ret → meth.locks = false → meth.name = y.name → Ev D ca s → va_P D cls_ wc s.heap → va_D A wc → va_S A s.heap s.heap [] → (∀ q : Nat, s.heap.size ≤ q → A q) → lv_has ls maxL (lv_args 0 av) →
      W p l e rm s m args below meth c s.heap [] 0 0 (MQ below (CoQ D rv post w1 A) args s mc ms A) (F0 m 0 ls [])) :
    Co l y (Cond.code y cc maxL ret :: ws') rm D ca av wc rv post w1 mc ms := by
  intro sz
  refine Met.ofW (cc := cc) (maxL := maxL) (ret := ret) hy rfl ?_
  intro p e s m args below meth c s₁ B hml hv
  obtain ⟨rfl, rfl, hP, hE, hD⟩ := hv
  rw [lg_entry_eq]
  exact body p e s m _ below meth c _ _ ⟨B.exec, B.bytes, hml, findClass_of_methodNamed B.named, atoms_spec B.pre⟩ B.returns B.notSynchronized (name_of_methodNamed B.named B.method).1 hE hP hD.self va_S.rf (fun q h => Or.inr h) (lv_entry av hlen)
theorem fm_of {is : List Nat} {ws wc : va_W} (h : is.map (fun i => ws[i]?) = wc.map some) : is.filterMap (fun i => ws[i]?) = wc := by
  have e : is.filterMap (fun i => ws[i]?) = (is.map (fun i => ws[i]?)).filterMap id := by rw [List.filterMap_map]; rfl
  rw [e, h, List.filterMap_map]
  simp
section KA
variable {p : Program} {l : Launch} {e : Env} {R : Room} {s : State} {m : MethodId} {args : Array Value} {below : List Frame} {meth : Method} {c : Code} {H : Heap} {locs : List Loc} {cells slots : Nat} {Q : State → Prop}
variable {cc : ByteArray} {pc : Nat} {ls : Array Slot} {rest st0 : List Value} {D : va_G} {ca : Nat → ClassId} {A : Nat → Prop} {S : Type} {rv : S → Option Value} {post : S → Prop} {w1 : S → va_W} {mc ms : Nat}
theorem Co.end_ {g : JFrame} {v : Option Value} (u : S) (hv : rv u = v) (hp : post u) {wx : va_W} (hw : w1 u = wx) (hP : va_P D cls_ wx H) (hD : va_D A wx) (hS : va_S A s.heap H locs) (hc : cells ≤ mc) (hs : slots ≤ ms)
    (k : (∀ t : State, t.heap = H → s.WarmedH t.vm → CoQ D rv post w1 A args s (.returned v) t) → (∀ q ∈ locs, A q.base) → W p l e R s m args below meth c H locs mc ms (MQ below (CoQ D rv post w1 A) args s mc ms A) g) :
    W p l e R s m args below meth c H locs cells slots (MQ below (CoQ D rv post w1 A) args s mc ms A) g :=
  W.widen hc hs (k (fun t ht _ => ⟨⟨u, by rw [hv], hp, by rw [ht, hw]; exact hP, by rw [hw]; exact hD⟩, hS.F ht⟩) hS.2.2)
theorem Co.reti (hx : p.tables.exec = Jvm.exec) (hb : c.code = cc) (hr : meth.sig.returnType = some .int) (hlk : meth.locks = false) {v : Int32} (hdg : decode cc pc = .ok (.ireturn, 1)) (hS : va_S A s.heap H locs) {wx : va_W} (hP : va_P D cls_ wx H) (hD : va_D A wx) (u : S) (hv : rv u = some (.int v)) (hp : post u) (hw : w1 u = wx) (hc : cells ≤ mc) (hs : slots ≤ ms) :
    W p l e R s m args below meth c H locs cells slots (MQ below (CoQ D rv post w1 A) args s mc ms A) (F0 m pc ls [.int v]) :=
  Co.end_ u hv hp hw hP hD hS hc hs (fun h1 h2 => W.iret hx hb hr h1 h2 hdg hlk)
theorem Co.retz (hx : p.tables.exec = Jvm.exec) (hb : c.code = cc) (hr : meth.sig.returnType = some .boolean) (hlk : meth.locks = false) {v : Int32} (hn : narrow .boolean (.int v) = .int v) (hdg : decode cc pc = .ok (.ireturn, 1)) (hS : va_S A s.heap H locs) {wx : va_W} (hP : va_P D cls_ wx H) (hD : va_D A wx) (u : S) (hv : rv u = some (.int v)) (hp : post u) (hw : w1 u = wx) (hc : cells ≤ mc) (hs : slots ≤ ms) :
    W p l e R s m args below meth c H locs cells slots (MQ below (CoQ D rv post w1 A) args s mc ms A) (F0 m pc ls [.int v]) :=
  Co.end_ u hv hp hw hP hD hS hc hs (fun h1 h2 => W.zret hx hb hr hn h1 h2 hdg hlk)
theorem Co.retv (hx : p.tables.exec = Jvm.exec) (hb : c.code = cc) (hr : meth.sig.returnType = none) (hlk : meth.locks = false) (hdg : decode cc pc = .ok (.return_, 1)) (hS : va_S A s.heap H locs) {wx : va_W} (hP : va_P D cls_ wx H) (hD : va_D A wx) (u : S) (hv : rv u = none) (hp : post u) (hw : w1 u = wx) (hc : cells ≤ mc) (hs : slots ≤ ms) :
    W p l e R s m args below meth c H locs cells slots (MQ below (CoQ D rv post w1 A) args s mc ms A) (F0 m pc ls []) :=
  Co.end_ u hv hp hw hP hD hS hc hs (fun h1 h2 => W.vret hx hb hr h1 h2 hdg hlk)
theorem Co.reta (hx : p.tables.exec = Jvm.exec) (hb : c.code = cc) {rt : FieldType} (hr : meth.sig.returnType = some rt) (hrt : (∃ n, rt = .object n) ∨ ∃ t, rt = .array t) (hlk : meth.locks = false) {v : Nat} (hdg : decode cc pc = .ok (.areturn, 1)) (hS : va_S A s.heap H locs) {wx : va_W} (hP : va_P D cls_ wx H) (hD : va_D A wx) (u : S) (hv : rv u = some (.ref v)) (hp : post u) (hw : w1 u = wx) (hc : cells ≤ mc) (hs : slots ≤ ms) :
    W p l e R s m args below meth c H locs cells slots (MQ below (CoQ D rv post w1 A) args s mc ms A) (F0 m pc ls [.ref v]) :=
  Co.end_ u hv hp hw hP hD hS hc hs (fun h1 h2 => W.aret hx hb hr hrt (Or.inr ⟨v, rfl⟩) h1 h2 hdg hlk)
variable {H0 : Heap} {wx wc : va_W} {a : Array Value}
/-- behind a call: what the caller kept beside what came back -/
theorem kV (hr : va_Run p l e R s m args below meth c H locs cells slots mc ms (F0 m pc ls st0) rest (CoQ D (fun _ : S => none) post w1 (va_A wc H.size) a) (va_A wc H.size)) (hP : va_P D cls_ wx H) (hD : va_D A wx) (hS : va_S A H0 H locs) (hA : ∀ q : Nat, H0.size ≤ q → A q) (isC isR : List Nat) (hC : isC.map (fun i => wx[i]?) = wc.map some) (hR : isR.map (fun i => wx[i]?) = (isR.filterMap (fun i => wx[i]?)).map some) (hn : va_nd isR = true) (hdis : ∀ i ∈ isR, i ∉ isC)
    (kk : ∀ (u : S) (H1 : Heap) (locs1 : List Loc), post u → va_P D cls_ (isR.filterMap (fun i => wx[i]?) ++ w1 u) H1 → va_D A (isR.filterMap (fun i => wx[i]?) ++ w1 u) → va_S A H0 H1 locs1 → W p l e R s m args below meth c H1 locs1 (cells + mc) (slots + ms) Q (F0 m (pc + 3) ls rest)) : W p l e R s m args below meth c H locs cells slots Q (F0 m pc ls st0) := by
  have hF := va_free hD hS hA isC hC
  refine va_callv (S := S) (post := post) (B := fun u t => va_P D cls_ (w1 u) t.heap ∧ va_D (va_A wc H.size) (w1 u)) (A1 := va_A wc H.size) (a := a) hr hS (fun q _ h => hF q h) hF ?_
  intro u t H1 locs1 ht hal hp hB hz hk hS1
  obtain ⟨hP1, hD1⟩ := hB
  rw [ht] at hP1
  obtain ⟨hP2, hD2⟩ := va_join hP hD isC isR hC hR hn hdis hk hF hP1 hD1
  exact kk u H1 locs1 hp hP2 hD2 hS1
theorem kI {r : S → Int32} (hr : va_Run p l e R s m args below meth c H locs cells slots mc ms (F0 m pc ls st0) rest (CoQ D (fun u : S => some (.int (r u))) post w1 (va_A wc H.size) a) (va_A wc H.size)) (hP : va_P D cls_ wx H) (hD : va_D A wx) (hS : va_S A H0 H locs) (hA : ∀ q : Nat, H0.size ≤ q → A q) (isC isR : List Nat) (hC : isC.map (fun i => wx[i]?) = wc.map some) (hR : isR.map (fun i => wx[i]?) = (isR.filterMap (fun i => wx[i]?)).map some) (hn : va_nd isR = true) (hdis : ∀ i ∈ isR, i ∉ isC)
    (kk : ∀ (u : S) (H1 : Heap) (locs1 : List Loc), post u → va_P D cls_ (isR.filterMap (fun i => wx[i]?) ++ w1 u) H1 → va_D A (isR.filterMap (fun i => wx[i]?) ++ w1 u) → va_S A H0 H1 locs1 → W p l e R s m args below meth c H1 locs1 (cells + mc) (slots + ms) Q (F0 m (pc + 3) ls (.int (r u) :: rest))) : W p l e R s m args below meth c H locs cells slots Q (F0 m pc ls st0) := by
  have hF := va_free hD hS hA isC hC
  refine va_calli (S := S) (post := fun x u => x = r u ∧ post u) (B := fun u t => va_P D cls_ (w1 u) t.heap ∧ va_D (va_A wc H.size) (w1 u)) (A1 := va_A wc H.size) (a := a) (rest := rest) (free := va_A wc H.size) (mc := mc) (ms := ms) ?_ hS (fun q _ h => hF q h) hF ?_
  · intro T hT X
    obtain ⟨v, st₀, t, T', L, h0, X', hL, e1, e2, ⟨⟨u, hv, hp, hB⟩, hFr⟩, st⟩ := hr T hT X
    exact ⟨v, st₀, t, T', L, h0, X', hL, e1, e2, ⟨⟨r u, u, hv, ⟨rfl, hp⟩, hB⟩, hFr⟩, st⟩
  intro x u t H1 locs1 ht hal hp hB hz hk hS1
  obtain ⟨rfl, hp⟩ := hp
  obtain ⟨hP1, hD1⟩ := hB
  rw [ht] at hP1
  obtain ⟨hP2, hD2⟩ := va_join hP hD isC isR hC hR hn hdis hk hF hP1 hD1
  exact kk u H1 locs1 hp hP2 hD2 hS1
theorem kA {r : S → Nat} (hr : va_Run p l e R s m args below meth c H locs cells slots mc ms (F0 m pc ls st0) rest (CoQ D (fun u : S => some (.ref (r u))) post w1 (va_A wc H.size) a) (va_A wc H.size)) (hP : va_P D cls_ wx H) (hD : va_D A wx) (hS : va_S A H0 H locs) (hA : ∀ q : Nat, H0.size ≤ q → A q) (isC isR : List Nat) (hC : isC.map (fun i => wx[i]?) = wc.map some) (hR : isR.map (fun i => wx[i]?) = (isR.filterMap (fun i => wx[i]?)).map some) (hn : va_nd isR = true) (hdis : ∀ i ∈ isR, i ∉ isC)
    (kk : ∀ (u : S) (H1 : Heap) (locs1 : List Loc), post u → va_P D cls_ (isR.filterMap (fun i => wx[i]?) ++ w1 u) H1 → va_D A (isR.filterMap (fun i => wx[i]?) ++ w1 u) → va_S A H0 H1 locs1 → W p l e R s m args below meth c H1 locs1 (cells + mc) (slots + ms) Q (F0 m (pc + 3) ls (.ref (r u) :: rest))) : W p l e R s m args below meth c H locs cells slots Q (F0 m pc ls st0) := by
  have hF := va_free hD hS hA isC hC
  refine va_callr (S := S) (post := post) (B := fun u a t => a = r u ∧ va_P D cls_ (w1 u) t.heap ∧ va_D (va_A wc H.size) (w1 u)) (A1 := va_A wc H.size) (a := a) (rest := rest) (free := va_A wc H.size) (mc := mc) (ms := ms) ?_ hS (fun q _ h => hF q h) hF ?_
  · intro T hT X
    obtain ⟨v, st₀, t, T', L, h0, X', hL, e1, e2, ⟨⟨u, hv, hp, hB⟩, hFr⟩, st⟩ := hr T hT X
    exact ⟨v, st₀, t, T', L, h0, X', hL, e1, e2, ⟨⟨u, r u, hv, hp, rfl, hB⟩, hFr⟩, st⟩
  intro u ra t H1 locs1 ht hal hp hB hz hk hS1
  obtain ⟨rfl, hP1, hD1⟩ := hB
  rw [ht] at hP1
  obtain ⟨hP2, hD2⟩ := va_join hP hD isC isR hC hR hn hdis hk hF hP1 hD1
  exact kk u H1 locs1 hp hP2 hD2 hS1
variable {y : MethodName} {bytes : ByteArray} {maxL nL n index : Nat} {ret : Option FieldType} {ws Ts : List Cond} {rm : Room} {own host C : String} {av As : List Value} {b : Addr}
theorem co_pre (hE : Ev D ca s) (hP : va_P D cls_ wx H) (hD : va_D A wx) (isC : List Nat) (hC : isC.map (fun i => wx[i]?) = wc.map some) (hnC : va_nd isC = true) : ∀ U : State, U.heap = H → s.WarmedH U.vm → va_Pc av (CoP D ca wc H.size) av.toArray U := fun U hU hW =>
  ⟨rfl, by rw [hU], by rw [hU]; exact hP.sub isC (fm_of hC), hE.warm hW, (hD.sub isC hnC hC).weaken (fun _ _ _ _ => trivial)⟩
theorem rSN (fx : CallFix p m c cc nL s args Ts own) (hM : Co l y ws rm D ca av wc rv post w1 mc ms) (cw : va_CN R s args own index y host bytes maxL ret ws rm mc ms n ∧ (Cond.static y).before args s = true ∧ True) (hE : Ev D ca s) (hP : va_P D cls_ wx H) (hD : va_D A wx) (isC : List Nat) (hC : isC.map (fun i => wx[i]?) = wc.map some) (hnC : va_nd isC = true) (hn : av.length = n) (hsz : ls.size = nL) (hst : st0 = av.reverse ++ rest) (hW : (rest.map fun v => v.category).sum ≤ 8) (hdg : decode cc pc = .ok (.invokestatic index, 3)) (hf : cells + mc ≤ R.cells ∧ slots + ms ≤ R.slots) :
    va_Run p l e R s m args below meth c H locs cells slots mc ms (F0 m pc ls st0) rest (CoQ D rv post w1 (va_A wc H.size) av.toArray) (va_A wc H.size) :=
  va_runSN fx (hM H.size) cw ⟨CoP.blind, co_pre hE hP hD isC hC hnC⟩ rfl hn hsz hst (lv_room hW) hdg hf
theorem rS (fx : CallFix p m c cc nL s args Ts own) (hM : Co l y ws rm D ca av wc rv post w1 mc ms) (cw : CallB R s args own index y bytes maxL ret ws rm mc ms n ∧ (Cond.static y).before args s = true) (hE : Ev D ca s) (hP : va_P D cls_ wx H) (hD : va_D A wx) (isC : List Nat) (hC : isC.map (fun i => wx[i]?) = wc.map some) (hnC : va_nd isC = true) (hn : av.length = n) (hsz : ls.size = nL) (hst : st0 = av.reverse ++ rest) (hW : (rest.map fun v => v.category).sum ≤ 8) (hdg : decode cc pc = .ok (.invokestatic index, 3)) (hf : cells + mc ≤ R.cells ∧ slots + ms ≤ R.slots) :
    va_Run p l e R s m args below meth c H locs cells slots mc ms (F0 m pc ls st0) rest (CoQ D rv post w1 (va_A wc H.size) av.toArray) (va_A wc H.size) :=
  va_runS fx (hM H.size) cw ⟨CoP.blind, co_pre hE hP hD isC hC hnC⟩ rfl hn hsz hst (lv_room hW) hdg hf
theorem rVN (fx : CallFix p m c cc nL s args Ts own) (hM : Co l y ws rm D ca (.ref b :: As) wc rv post w1 mc ms) (cw : va_CN R s args own index y host bytes maxL ret ws rm mc ms n ∧ (Cond.instanceMethod y).before args s = true ∧ (Cond.selects C y y).before args s = true) (hE : Ev D ca s) (hP : va_P D cls_ wx H) (hD : va_D A wx) (q0 : Nat) {ci : Nat} {fs : List Value} {q : vw_C} (he : wx[q0]? = some (b, .inr (ci, fs))) (hc : cls_[ci]? = some q) (hqC : q.1 = C) (isC : List Nat) (hC : isC.map (fun i => wx[i]?) = wc.map some) (hnC : va_nd isC = true) (hn : As.length = n) (hsz : ls.size = nL) (hst : st0 = As.reverse ++ .ref b :: rest) (hW : (rest.map fun v => v.category).sum ≤ 8) (hdg : decode cc pc = .ok (.invokevirtual index, 3)) (hf : cells + mc ≤ R.cells ∧ slots + ms ≤ R.slots) :
    va_Run p l e R s m args below meth c H locs cells slots mc ms (F0 m pc ls st0) rest (CoQ D rv post w1 (va_A wc H.size) (Value.ref b :: As).toArray) (va_A wc H.size) :=
  va_runVN fx (hM H.size) cw ⟨CoP.blind, hqC ▸ va_recv hE.1 hP hc he, co_pre hE hP hD isC hC hnC⟩ rfl hn hsz hst (lv_room hW) hdg hf
theorem rV (fx : CallFix p m c cc nL s args Ts own) (hM : Co l y ws rm D ca (.ref b :: As) wc rv post w1 mc ms) (cw : CallW R s args own C index y bytes maxL ret ws rm mc ms n) (hE : Ev D ca s) (hP : va_P D cls_ wx H) (hD : va_D A wx) (q0 : Nat) {ci : Nat} {fs : List Value} {q : vw_C} (he : wx[q0]? = some (b, .inr (ci, fs))) (hc : cls_[ci]? = some q) (hqC : q.1 = C) (isC : List Nat) (hC : isC.map (fun i => wx[i]?) = wc.map some) (hnC : va_nd isC = true) (hn : As.length = n) (hsz : ls.size = nL) (hst : st0 = As.reverse ++ .ref b :: rest) (hW : (rest.map fun v => v.category).sum ≤ 8) (hdg : decode cc pc = .ok (.invokevirtual index, 3)) (hf : cells + mc ≤ R.cells ∧ slots + ms ≤ R.slots) :
    va_Run p l e R s m args below meth c H locs cells slots mc ms (F0 m pc ls st0) rest (CoQ D rv post w1 (va_A wc H.size) (Value.ref b :: As).toArray) (va_A wc H.size) :=
  va_runV fx (hM H.size) cw ⟨CoP.blind, hqC ▸ va_recv hE.1 hP hc he, co_pre hE hP hD isC hC hnC⟩ rfl hn hsz hst (lv_room hW) hdg hf
theorem rI (fx : CallFix p m c cc nL s args Ts own) (hM : Co l y ws rm D ca (.ref b :: As) wc rv post w1 mc ms) (cw : CallB R s args own index y bytes maxL none ws rm mc ms n ∧ y.name = "<init>" ∧ (Cond.instanceMethod y).before args s = true) (hE : Ev D ca s) (hP : va_P D cls_ wx H) (hD : va_D A wx) (isC : List Nat) (hC : isC.map (fun i => wx[i]?) = wc.map some) (hnC : va_nd isC = true) (hn : As.length = n) (hsz : ls.size = nL) (hst : st0 = As.reverse ++ .ref b :: rest) (hW : (rest.map fun v => v.category).sum ≤ 8) (hdg : decode cc pc = .ok (.invokespecial index, 3)) (hf : cells + mc ≤ R.cells ∧ slots + ms ≤ R.slots) :
    va_Run p l e R s m args below meth c H locs cells slots mc ms (F0 m pc ls st0) rest (CoQ D rv post w1 (va_A wc H.size) (Value.ref b :: As).toArray) (va_A wc H.size) :=
  va_runI fx (hM H.size) cw ⟨CoP.blind, co_pre hE hP hD isC hC hnC⟩ rfl hn hsz hst (lv_room hW) hdg hf
end KA
