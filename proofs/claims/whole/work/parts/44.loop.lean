/-! The skeleton's words of the claim, and the law's loop. -/
def R_law : String := "ChannelledLinkLaw"
def lw_P (b : Addr) (xs : List Int32) (args : Array Value) (s : State) : Prop := args = #[.ref b] ∧ s.IntsAt b xs ∧ xs.length ≤ 3072 ∧ (Jvm.Cond.and given_1 narrow_1).before args s = true
def lw_Q (_ : Array Value) (s : State) (o : Outcome) (t : State) : Prop := o = .returned (some (.int 1)) ∧ Framed s o t [] 601024 7293034
def lw_Z (below : List Frame) (a : Array Value) (s : State) : State → Prop := fun t => ∃ o, t.status = .running ∧ Ended t below o ∧ lw_Q a s o t
/-- the law's own end, with 1 on the stack, nothing written that was there before, its room as the claim has it -/
theorem lw_ret {p : Program} {l : Launch} {e : Env} {s : State} {m : MethodId} {below : List Frame} {meth : Method} {c : Code} {b : Nat} (hx : p.tables.exec = Jvm.exec) (hb : c.code = code) (hr : meth.sig.returnType = ret) (hlocks : meth.locks = false) {pc : Nat} {H : Heap} {ls : Array Slot} (hdg : decode code pc = .ok (.ireturn, 1)) : W p l e room_1 s m #[Value.ref b] below meth c H [] 601024 7293034 (lw_Z below #[Value.ref b] s) (F0 m pc ls [.int 1]) := by
  intro T hT X
  obtain ⟨fs, hret, hrun, hended, hW, hframe⟩ := X.leave (v := some (.int 1)) (hlocks := hlocks) (fun h => by rw [hr] at h; cases h)
  have hmeth' : T.vm.method? m = some meth := X.method'
  refine ⟨T.setFrames fs, ?_, .returned (some (.int 1)), hrun, hended, rfl, ⟨_, rfl⟩, hW, hframe⟩
  jvm_step X.here [X.here.top, hx, hb, hdg, hmeth', hr, ret, narrow_b1]
  (try refine ⟨rfl, ?_⟩); (try refine ⟨rfl, ?_⟩)
  first | (intro acts; rw [hret _ acts rfl rfl rfl]) | rw [hret _ _ rfl rfl rfl]
  exact Steps.refl _
/-- what holds at the law's entry: the machine, the code, the tables' words (any of lw_tbl by 'hts w (by decide +kernel)'), the script of L ints xs at the cell b, what the Statement gives of the start (any of its parts by flat_of_before) -/
def lw_At (p : Program) (s : State) (m : MethodId) (meth : Method) (c : Code) (b L : Nat) (xs : Nat → Int32) : Prop :=
  p.tables.exec = Jvm.exec ∧ c.code = code ∧ meth.sig.returnType = ret ∧ c.maxLocals = 7 ∧ s.vm.findClass R_law = some m.cls ∧ (∀ w ∈ lw_tbl, w.before #[Value.ref b] s = true) ∧ va_X b L xs s s.heap ∧ b < s.heap.size ∧ meth.locks = false ∧ (Jvm.Cond.and given_1 narrow_1).before #[Value.ref b] s = true
theorem and15 (x : Int32) : ∃ t : Nat, t < 16 ∧ x &&& nI 15 = nI t := by
  refine ⟨(x &&& nI 15).toBitVec.toNat, ?_, ?_⟩
  · have h : (x &&& nI 15).toBitVec = x.toBitVec &&& 15#32 := rfl
    rw [h, BitVec.toNat_and]
    exact Nat.lt_of_le_of_lt Nat.and_le_right (by decide)
  · apply Int32.toBitVec_inj.mp
    show (x &&& nI 15).toBitVec = BitVec.ofNat 32 (x &&& nI 15).toBitVec.toNat
    rw [BitVec.ofNat_toNat, BitVec.setWidth_eq]
theorem le6 {i L : Nat} (hi : i ≤ 3078) (hL : L ≤ 3072) (h : ¬ (Int32.ofNat L - nI 6) < nI i) : i + 6 ≤ L := by
  by_cases z : 6 ≤ L
  · have e : Int32.ofNat L - nI 6 = nI (L - 6) := pk_sub z
    rw [e, nI_ltI (by omega) (by omega)] at h
    omega
  · exfalso
    apply h
    have key : ∀ k, k < 6 → Int32.ofNat k - nI 6 < nI 0 := by decide
    have h1 := Int32.lt_iff_toInt_lt.mp (key L (by omega))
    apply Int32.lt_iff_toInt_lt.mpr
    rw [nI_toInt (by decide)] at h1
    rw [nI_toInt (by omega)]
    omega
set_option maxHeartbeats 4000000 in
set_option maxRecDepth 100000 in
theorem lw_loop {p : Program} {l : Launch} {e : Env} {s : State} {m : MethodId} {below : List Frame} {meth : Method} {c : Code} {b L : Nat} {xs : Nat → Int32} {D : va_G} {ca : Nat → ClassId} {A : Nat → Prop} {x oq h : Nat} {v ad : Nat → Nat} (hlT : l.stackTraces = false) (fx : CallFix p m c code 7 s #[Value.ref b] (Cond.initialized "ChannelledLinkLaw" :: tb_) RLw) (hX : va_X b L xs s s.heap) (hbl : b < s.heap.size) (hbA : ¬ A b) (hL : L ≤ 3072) (hE : Ev D ca s) (hZ : Zx A s s.heap) (hA : ∀ q : Nat, s.heap.size ≤ q → A q) (hA2 : ∀ q : Nat, A q → s.heap.size ≤ q) (hr : meth.sig.returnType = ret) (hlk : meth.locks = false) :
    ∀ (n i : Nat) (C : CS_) (G : Nat → Int64) (M : Nat → Nat → Nat) (co : Nat) (H : Heap) (locs : List Loc) (ls : Array Slot) (cells slots : Nat), L < i + 6 * n + 6 → i ≤ 3078 → cells + n ≤ 601000 → slots + 6 * n ≤ 7293000 → RR C M → va_P D cls_ (sysO x v ca oq C G ++ mW h ad ca co M) H → va_D A (sysO x v ca oq C G ++ mW h ad ca co M) → va_S A s.heap H locs → lv_has ls 7 [(4, .int (nI i)), (3, .ref oq), (2, .ref h), (1, .ref x), (0, .ref b)] →
      W p l e room_1 s m #[Value.ref b] below meth c H locs cells slots (lw_Z below #[Value.ref b] s) (F0 m 23 ls [])
  | 0, i, C, G, M, co, H, locs, ls, cells, slots, hn, hi0, hc, hs, hR, hP, hD, hS, hl => by
    have hx := fx.1
    have hb := fx.2.1
    refine lv_iload hx hb dLw_law_23 (lv_at hl 0 rfl) ?_
    refine lv_aload_n hx hb dLw_law_25 rfl (lv_at hl 4 rfl) ?_
    refine va_slen hx hb hX hbl hbA hS dLw_law_26 ?_
    refine lv_bipush (v := nI 6) hx hb dLw_law_27 (by decide) ?_
    refine lv_isub hx hb dLw_law_29 ?_
    refine lv_icmp_gt hx hb (tgt := 1108) dLw_law_30 rfl (fun _ => ?_) (fun hgt => ?_)
    · refine lv_iconst (v := 1) hx hb dLw_law_1108 (by decide) ?_
      exact va_forget (fun q hq => hA2 _ (hS.2.2 q hq)) (W.widen (by omega) (by omega) (lw_ret hx hb hr hlk dLw_law_1109))
    have hi := le6 hi0 hL hgt
    omega
  | n + 1, i, C, G, M, co, H, locs, ls, cells, slots, hn, hi0, hc, hs, hR, hP, hD, hS, hl => by
    have hx := fx.1
    have hb := fx.2.1
    refine lv_iload hx hb dLw_law_23 (lv_at hl 0 rfl) ?_
    refine lv_aload_n hx hb dLw_law_25 rfl (lv_at hl 4 rfl) ?_
    refine va_slen hx hb hX hbl hbA hS dLw_law_26 ?_
    refine lv_bipush (v := nI 6) hx hb dLw_law_27 (by decide) ?_
    refine lv_isub hx hb dLw_law_29 ?_
    refine lv_icmp_gt hx hb (tgt := 1108) dLw_law_30 rfl (fun _ => ?_) (fun hgt => ?_)
    · refine lv_iconst (v := 1) hx hb dLw_law_1108 (by decide) ?_
      exact va_forget (fun q hq => hA2 _ (hS.2.2 q hq)) (W.widen (by omega) (by omega) (lw_ret hx hb hr hlk dLw_law_1109))
    have hi := le6 hi0 hL hgt
    refine lv_aload_n hx hb dLw_law_33 rfl (lv_at hl 4 rfl) ?_
    refine lv_iload hx hb dLw_law_34 (lv_at hl 0 rfl) ?_
    refine va_sld hx hb hX hbl hbA hS (vp_in_nI (by omega) (by omega)) dLw_law_36 ?_
    refine lv_bipush (v := nI 15) hx hb dLw_law_37 (by decide) ?_
    refine lv_iand hx hb dLw_law_39 ?_
    obtain ⟨t, ht16, et⟩ := and15 (xs (nI i).toNatClampNeg)
    refine k_is et ?_
    have hf : cells + 1 ≤ room_1.cells ∧ slots + 6 ≤ room_1.slots := ⟨Nat.le_trans (by omega : cells + 1 ≤ 601001) (Nat.le_of_ble_eq_true rfl), Nat.le_trans (by omega : slots + 6 ≤ 7293006) (Nat.le_of_ble_eq_true rfl)⟩
    have nxt : ∀ (C : CS_) (G : Nat → Int64) (M : Nat → Nat → Nat) (co : Nat) (H : Heap) (locs : List Loc) (ls : Array Slot), RR C M → va_P D cls_ (sysO x v ca oq C G ++ mW h ad ca co M) H → va_D A (sysO x v ca oq C G ++ mW h ad ca co M) → va_S A s.heap H locs → lv_has ls 7 [(4, .int (nI i)), (3, .ref oq), (2, .ref h), (1, .ref x), (0, .ref b)] → W p l e room_1 s m #[Value.ref b] below meth c H locs (cells + 1) (slots + 6) (lw_Z below #[Value.ref b] s) (F0 m 1102 ls []) := by
      intro C G M co H locs ls hR hP hD hS hl
      refine lv_iinc (k := 0) (v := nI (i + 6)) hx hb dLw_law_1102 hl rfl (by rw [show Int32.ofInt 6 = nI 6 by decide]; exact nI_add i 6) (by decide) rfl (fun ls hl => ?_)
      refine lv_goto (tgt := 23) hx hb dLw_law_1105 rfl ?_
      exact lw_loop hlT fx hX hbl hbA hL hE hZ hA hA2 hr hlk n (i + 6) C G M co H locs ls (cells + 1) (slots + 6) (by omega) (by omega) (by omega) (by omega) hR hP hD hS hl
    rcases (show t = 0 ∨ t = 1 ∨ t = 2 ∨ t = 3 ∨ t = 4 ∨ t = 5 ∨ t = 6 ∨ t = 7 ∨ t = 8 ∨ t = 9 ∨ t = 10 ∨ t = 11 ∨ t = 12 ∨ t = 13 ∨ t = 14 ∨ t = 15 by omega) with rfl | rfl | rfl | rfl | rfl | rfl | rfl | rfl | rfl | rfl | rfl | rfl | rfl | rfl | rfl | rfl
    · refine k_tab (tgt := 116) hx hb 0 rfl dLw_law_40 (by decide) (by decide) rfl rfl ?_
      exact a_open hlT fx hX hbl hbA hL hE hZ hA hi hf hR hP hD hS hl nxt
    · refine k_tab (tgt := 152) hx hb 1 rfl dLw_law_40 (by decide) (by decide) rfl rfl ?_
      exact a_expire hlT fx hX hbl hbA hL hE hZ hA hi hf hR hP hD hS hl nxt
    · refine k_tab (tgt := 208) hx hb 2 rfl dLw_law_40 (by decide) (by decide) rfl rfl ?_
      exact a_deliver hlT fx hX hbl hbA hL hE hZ hA hi hf hR hP hD hS hl nxt
    · refine k_tab (tgt := 264) hx hb 3 rfl dLw_law_40 (by decide) (by decide) rfl rfl ?_
      exact a_lose hlT fx hX hbl hbA hL hE hZ hA hi hf hR hP hD hS hl nxt
    · refine k_tab (tgt := 320) hx hb 4 rfl dLw_law_40 (by decide) (by decide) rfl rfl ?_
      exact a_hand hlT fx hX hbl hbA hL hE hZ hA hi hf hR hP hD hS hl nxt
    · refine k_tab (tgt := 431) hx hb 5 rfl dLw_law_40 (by decide) (by decide) rfl rfl ?_
      exact a_call hlT fx hX hbl hbA hL hE hZ hA hi hf hR hP hD hS hl nxt
    · refine k_tab (tgt := 479) hx hb 6 rfl dLw_law_40 (by decide) (by decide) rfl rfl ?_
      exact a_accept hlT fx hX hbl hbA hL hE hZ hA hi hf hR hP hD hS hl nxt
    · refine k_tab (tgt := 527) hx hb 7 rfl dLw_law_40 (by decide) (by decide) rfl rfl ?_
      exact a_clear hlT fx hX hbl hbA hL hE hZ hA hi hf hR hP hD hS hl nxt
    · refine k_tab (tgt := 575) hx hb 8 rfl dLw_law_40 (by decide) (by decide) rfl rfl ?_
      exact a_reset hlT fx hX hbl hbA hL hE hZ hA hi hf hR hP hD hS hl nxt
    · refine k_tab (tgt := 623) hx hb 9 rfl dLw_law_40 (by decide) (by decide) rfl rfl ?_
      exact a_send hlT fx hX hbl hbA hL hE hZ hA hi hf hR hP hD hS hl nxt
    · refine k_tab (tgt := 738) hx hb 10 rfl dLw_law_40 (by decide) (by decide) rfl rfl ?_
      exact a_receive hlT fx hX hbl hbA hL hE hZ hA hi hf hR hP hD hS hl nxt
    · refine k_tab (tgt := 806) hx hb 11 rfl dLw_law_40 (by decide) (by decide) rfl rfl ?_
      exact a_link hlT fx hX hbl hbA hL hE hZ hA hi hf hR hP hD hS hl nxt
    · refine k_tab (tgt := 874) hx hb 12 rfl dLw_law_40 (by decide) (by decide) rfl rfl ?_
      exact a_channel hlT fx hX hbl hbA hL hE hZ hA hi hf hR hP hD hS hl nxt
    · refine k_tab (tgt := 954) hx hb 13 rfl dLw_law_40 (by decide) (by decide) rfl rfl ?_
      exact a_frame hlT fx hX hbl hbA hL hE hZ hA hi hf hR hP hD hS hl nxt
    · refine k_tab (tgt := 1034) hx hb 14 rfl dLw_law_40 (by decide) (by decide) rfl rfl ?_
      exact a_peek hlT fx hX hbl hbA hL hE hZ hA hi hf hR hP hD hS hl nxt
    · refine k_tabD (tgt := 1102) hx hb (by decide) dLw_law_40 (by decide) rfl ?_
      exact W.widen (Nat.le_succ _) (Nat.le_add_right _ _) (nxt C G M co H locs ls hR hP hD hS hl)
