/-! The law's start: the classes, the arrays, the two objects; then its loop. -/
theorem arr_prim {ty : FieldType} {args : Array Value} {s : State} (h : (Cond.arrayClass ty).before args s = true) : ∃ cA, ArrOfT s cA ty ∧ s.vm.findClass ("[" ++ ty.toString) = some cA := by
  obtain ⟨cA, kA, comp, h1, h2, h3⟩ := Cond.arrayClass_spec h
  exact ⟨cA, fun n z => ⟨fun k h => (by cases h), kA, h2, comp, h3⟩, h1⟩
theorem arr_obj {C : String} {args : Array Value} {s : State} (h : (Cond.arrayOver (.object C)).before args s = true) : ∃ cA, ArrOfT s cA (.object C) ∧ va_RA s cA (.object C) := by
  obtain ⟨comp, c, k, h1, -, h3, h4, h5⟩ := Cond.arrayOver_spec h
  exact ⟨c, fun n z => ⟨fun k h => (by cases h), k, h3, comp, h4⟩, k, comp, h3, h4, h1, h5⟩
theorem str_of {own tx : String} {k : Nat} {args : Array Value} {s : State} {cC : ClassId} (hown : s.vm.findClass own = some cC) (h : (Cond.stringRef own k tx).before args s = true) : ∃ a, vk_R own k tx a s := by
  obtain ⟨-, -, -, a, -, -, -, -, -, hev⟩ := Cond.stringRef_spec hown h
  exact ⟨a, vk_R.of h hev⟩
theorem ev_start {b : Nat} {s : State} (hts : ∀ w ∈ lw_tbl, w.before #[Value.ref b] s = true) : ∃ (D : va_G) (ca : Nat → ClassId), Ev D ca s := by
  have ht : ∀ w ∈ tb_, w.before #[Value.ref b] s = true := fun w h => hts w (List.mem_filter.mp h).1
  obtain ⟨c0, i0, k0⟩ := u_known ht inRw (ht _ tw_26)
  obtain ⟨c1, i1, k1⟩ := u_known ht inCh (ht _ tw_53)
  obtain ⟨c2, i2, k2⟩ := u_known ht inSt (ht _ tw_44)
  obtain ⟨c3, i3, k3⟩ := u_known ht inCl (ht _ tw_18)
  obtain ⟨c4, i4, k4⟩ := u_known ht inMo (ht _ tw_582)
  obtain ⟨a0, g0, n0⟩ := arr_prim (ht _ tw_41)
  obtain ⟨a1, g1, n1⟩ := arr_prim (ht _ tw_675)
  obtain ⟨a2, g2, n2⟩ := arr_obj (hts _ tw_43)
  obtain ⟨a3, g3, n3⟩ := arr_obj (hts _ tw_52)
  obtain ⟨a4, g4, n4⟩ := arr_prim (ht _ tw_824)
  refine ⟨(fun k => match k with | 0 => c0 | 1 => c1 | 2 => c2 | 3 => c3 | _ => c4, fun k => match k with | 0 => i0 | 1 => i1 | 2 => i2 | 3 => i3 | _ => i4), (fun k => match k with | 0 => a0 | 1 => a1 | 2 => a2 | 3 => a3 | _ => a4), ⟨fun c q hq => ?_, fun k q hq => ?_⟩, fun w hw => va_Nw.of (nest_tabs (List.mem_filter.mp hw).2) (hts w (List.mem_filter.mp hw).1), va_AO.of (hts _ tw_43), va_AO.of (hts _ tw_52)⟩
  · match c, hq with
    | 0, hq => cases hq; exact k0
    | 1, hq => cases hq; exact k1
    | 2, hq => cases hq; exact k2
    | 3, hq => cases hq; exact k3
    | 4, hq => cases hq; exact k4
    | n + 5, hq => cases hq
  · match k, hq with
    | 0, hq => cases hq; exact ⟨g0, n0⟩
    | 1, hq => cases hq; exact ⟨g1, n1⟩
    | 2, hq => cases hq; exact ⟨g2, n2⟩
    | 3, hq => cases hq; exact ⟨g3, n3⟩
    | 4, hq => cases hq; exact ⟨g4, n4⟩
    | n + 5, hq => cases hq
theorem zx_start {b : Nat} {s : State} {D : va_G} {ca : Nat → ClassId} (hE : Ev D ca s) (hts : ∀ w ∈ lw_tbl, w.before #[Value.ref b] s = true) (hgv : (Jvm.Cond.and given_1 narrow_1).before #[Value.ref b] s = true) : Zx (fun q => s.heap.size ≤ q) s s.heap := by
  have ht : ∀ w ∈ tb_, w.before #[Value.ref b] s = true := fun w h => hts w (List.mem_filter.mp h).1
  have hg := flat_of_before _ hgv
  have hA : ∀ a : Nat, a < s.heap.size → ¬ s.heap.size ≤ a := fun a h => Nat.not_le.mpr h
  have hc : s.vm.findClass RCl = some (D.1 3) := (hE.1.1 3 _ rfl).2.1
  exact ⟨vx_Zqof (C := Bundle.tN) (n := "UNASSIGNED_STACK") (d := Bundle.steD) (hts _ tw_171) (ht _ tw_6) (hg (Cond.isRef (Term.static "java/lang/Throwable" "UNASSIGNED_STACK" "[Ljava/lang/StackTraceElement;")) (by decide +kernel)) hA,
    vx_Zqof (C := Bundle.tN) (n := "SUPPRESSED_SENTINEL") (d := Bundle.listD) (hts _ tw_173) (ht _ tw_6) (hg (Cond.isRef (Term.static "java/lang/Throwable" "SUPPRESSED_SENTINEL" "Ljava/util/List;")) (by decide +kernel)) hA,
    fun w hw => va_Nw.of (cd_tabs (List.mem_filter.mp hw).2) (hts w (List.mem_filter.mp hw).1), str_of hc (hts _ tw_186), str_of hc (hts _ tw_459), str_of hc (hts _ tw_523), str_of hc (hts _ tw_263), str_of hc (hts _ tw_313),
    va_Nc.of (hg (Cond.not (Cond.castable "java/lang/IllegalStateException" "java/lang/IndexOutOfBoundsException")) (by decide +kernel)), va_Nc.of (hg (Cond.not (Cond.castable "java/util/NoSuchElementException" "java/lang/IndexOutOfBoundsException")) (by decide +kernel)), va_Nc.of (hg (Cond.not (Cond.castable "java/lang/IllegalArgumentException" "java/lang/IndexOutOfBoundsException")) (by decide +kernel)),
    va_Nc.of (hg (Cond.not (Cond.castable "java/lang/IllegalStateException" "java/lang/IllegalArgumentException")) (by decide +kernel)), va_Nc.of (hg (Cond.not (Cond.castable "java/util/NoSuchElementException" "java/lang/IllegalStateException")) (by decide +kernel))⟩
def ZC : CS_ := (fun _ => (0, 0, 0, 0, 0, 0), fun _ => (fun _ => 0, 0), fun _ _ => (0, 0, 0, 0, 0, (fun _ => 0, 0)), fun _ => (fun _ => 0, 0))
set_option maxHeartbeats 4000000 in
set_option maxRecDepth 100000 in
theorem whole_start {p : Program} {e : Env} {s : State} {m : MethodId} {below : List Frame} {meth : Method} {c : Code} (l : Launch) (hlT : l.stackTraces = false) {b L : Nat} {xs : Nat → Int32} (hL : L ≤ 3072) (C0 : lw_At p s m meth c b L xs) : W p l e room_1 s m #[Value.ref b] below meth c s.heap [] 0 0 (lw_Z below #[Value.ref b] s) (entryFrame m ([Value.ref b] : List Value).toArray 7) := by
  obtain ⟨hx, hb, hr, hml, hown, hts0, hX, hbl, hlk, hgv⟩ := C0
  have hown : s.vm.findClass RLw = some m.cls := hown
  have ht : ∀ w ∈ tb_, w.before #[Value.ref b] s = true := fun w h => hts0 w (List.mem_filter.mp h).1
  have hts : ∀ w ∈ Cond.initialized "ChannelledLinkLaw" :: tb_, w.before #[Value.ref b] s = true := fun w h => (List.mem_cons.mp h).elim (fun e => e ▸ ht _ tw_0) (ht w)
  have fx : CallFix p m c code 7 s #[Value.ref b] (Cond.initialized "ChannelledLinkLaw" :: tb_) RLw := ⟨hx, hb, hml, hown, hts⟩
  obtain ⟨D, ca, hE⟩ := ev_start hts0
  have hZ := zx_start hE hts0 hgv
  have hA : ∀ q : Nat, s.heap.size ≤ q → (fun q => s.heap.size ≤ q) q := fun q h => h
  have hbA : ¬ (fun q => s.heap.size ≤ q) b := Nat.not_le.mpr hbl
  generalize hAe : (fun q : Nat => s.heap.size ≤ q) = A at hZ hA hbA
  have hA2 : ∀ q : Nat, A q → s.heap.size ≤ q := fun q h => by rw [← hAe] at h; exact h
  have hP : va_P D cls_ [] s.heap := fun k q h => by cases h
  have hD : va_D A [] := ⟨fun i j p q h => (by cases h), fun k q h => (by cases h)⟩
  have hS : va_S A s.heap s.heap [] := va_S.rf
  rw [lg_entry_eq]
  have hl := lv_entry [Value.ref b] (n := 7) (Nat.le_of_ble_eq_true rfl)
  generalize ((lg_sl [Value.ref b] ++ List.replicate (7 - (lg_sl [Value.ref b]).length) Slot.unset).toArray) = ls at hl ⊢
  have hl : lv_has ls 7 [(0, .ref b)] := hl
  refine va_new (ci := 3) (fs := [.null]) (C := RCl) (T := TCl) (N := 1) hx hb ht inCl tyCl tyCl_ok hown (ht _ tw_17) (ht _ tw_18) (ht _ tw_1) hE.1 hP hD hS hA rfl (fun j hj => by rcases (show j = 0 by omega) with rfl; rfl) (Nat.le_of_ble_eq_true rfl) (Nat.le_of_ble_eq_true rfl) dLw_law_0 (fun x H hP hD hS => ?_)
  have hP : va_P D cls_ [(x, .inr (3, [.null]))] H := hP
  have hD : va_D A [(x, .inr (3, [.null]))] := hD
  refine lv_dup hx hb dLw_law_3 rfl ?_
  refine kV (rI fx (c_Cl_init l D ca x) ⟨callB_of 0 hts (tb_gi tw_21) rfl rfl rfl (ht _ tw_1) (ht _ tw_19) (by decide +kernel) ⟨(Nat.le_of_ble_eq_true rfl), (Nat.le_of_ble_eq_true rfl)⟩, rfl, ht _ tw_20⟩ hE hP hD [0] rfl rfl rfl hl.1 rfl (Nat.le_of_ble_eq_true rfl) dLw_law_4 ⟨(Nat.le_of_ble_eq_true rfl), (Nat.le_of_ble_eq_true rfl)⟩) hP hD hS hA [0] [] rfl rfl rfl (by decide) (fun v H locs _ hP hD hS => ?_)
  refine lv_astore_n hx hb dLw_law_7 rfl hl (by decide) rfl (fun ls hl => ?_)
  have hl : lv_has ls 7 [(1, .ref x), (0, .ref b)] := hl
  refine va_new (ci := 4) (fs := [.int (nI 0), .null, .null, .null, .null, .null, .null, .null, .null, .null, .null, .null, .null, .null, .null, .null, .null, .null, .null, .null, .null, .null, .null, .null, .null, .null, .null, .null, .null]) (C := RMo) (T := TMo) (N := 29) hx hb ht inMo tyMo tyMo_ok hown (ht _ tw_581) (ht _ tw_582) (ht _ tw_5) hE.1 hP hD hS hA rfl (fun j hj => by rcases (show j = 0 ∨ j = 1 ∨ j = 2 ∨ j = 3 ∨ j = 4 ∨ j = 5 ∨ j = 6 ∨ j = 7 ∨ j = 8 ∨ j = 9 ∨ j = 10 ∨ j = 11 ∨ j = 12 ∨ j = 13 ∨ j = 14 ∨ j = 15 ∨ j = 16 ∨ j = 17 ∨ j = 18 ∨ j = 19 ∨ j = 20 ∨ j = 21 ∨ j = 22 ∨ j = 23 ∨ j = 24 ∨ j = 25 ∨ j = 26 ∨ j = 27 ∨ j = 28 by omega) with rfl | rfl | rfl | rfl | rfl | rfl | rfl | rfl | rfl | rfl | rfl | rfl | rfl | rfl | rfl | rfl | rfl | rfl | rfl | rfl | rfl | rfl | rfl | rfl | rfl | rfl | rfl | rfl | rfl <;> rfl) (Nat.le_of_ble_eq_true rfl) (Nat.le_of_ble_eq_true rfl) dLw_law_8 (fun h H hP hD hS => ?_)
  refine lv_dup hx hb dLw_law_11 rfl ?_
  refine kV (rI fx (c_Mo_init l D ca h) ⟨callB_of 0 hts (tb_gi tw_585) rfl rfl rfl (ht _ tw_5) (ht _ tw_583) (by decide +kernel) ⟨(Nat.le_of_ble_eq_true rfl), (Nat.le_of_ble_eq_true rfl)⟩, rfl, ht _ tw_584⟩ hE hP hD [32] rfl rfl rfl hl.1 rfl (Nat.le_of_ble_eq_true rfl) dLw_law_12 ⟨(Nat.le_of_ble_eq_true rfl), (Nat.le_of_ble_eq_true rfl)⟩) hP hD hS hA [32] [0, 1, 2, 3, 4, 5, 6, 7, 8, 9, 10, 11, 12, 13, 14, 15, 16, 17, 18, 19, 20, 21, 22, 23, 24, 25, 26, 27, 28, 29, 30, 31] rfl rfl rfl (by decide) (fun ad H locs _ hP hD hS => ?_)
  refine lv_astore_n hx hb dLw_law_15 rfl hl (by decide) rfl (fun ls hl => ?_)
  have hl : lv_has ls 7 [(2, .ref h), (1, .ref x), (0, .ref b)] := hl
  refine lv_iconst (v := nI 1) hx hb dLw_law_16 (by decide) ?_
  refine va_newa (atype := .long) (ty := .long) (N' := 1) (a0 := (1, .inr (.inl (fun _ => 0)))) hx hb (ht _ tw_824) rfl hE.1 hP hD hS hA (fun _ => rfl) (nI_pos (by omega)) (nI_clamp (by omega)) (by decide) (Nat.le_of_ble_eq_true rfl) (Nat.le_of_ble_eq_true rfl) dLw_law_17 (fun oq cA H hK9 hP hD hS => ?_)
  obtain rfl : cA = ca 4 := Option.some.inj ((show s.vm.findClass ("[" ++ (FieldType.long).toString) = some cA from (hK9.2 5 _ rfl).2).symm.trans (hE.1.2 4 _ rfl).2)
  refine lv_astore_n hx hb dLw_law_19 rfl hl (by decide) rfl (fun ls hl => ?_)
  have hl : lv_has ls 7 [(3, .ref oq), (2, .ref h), (1, .ref x), (0, .ref b)] := hl
  refine lv_iconst (v := nI 0) hx hb dLw_law_20 (by decide) ?_
  refine lv_istore hx hb dLw_law_21 hl (by decide) rfl (fun ls hl => ?_)
  have hl : lv_has ls 7 [(4, .int (nI 0)), (3, .ref oq), (2, .ref h), (1, .ref x), (0, .ref b)] := hl
  have hP2 : va_P D cls_ (sysO x v ca oq ZC (fun _ => 0) ++ mW h ad ca 0 (fun _ _ => 0)) H := hP.sub [0, 1, 2, 3, 4, 5, 6, 7, 8, 9, 10, 11, 12, 13, 14, 15, 16, 17, 18, 19, 20, 21, 22, 23, 24, 25, 26, 27, 28, 29, 30, 31, 61, 32, 33, 34, 35, 36, 37, 38, 39, 40, 41, 42, 43, 44, 45, 46, 47, 48, 49, 50, 51, 52, 53, 54, 55, 56, 57, 58, 59, 60] rfl
  have hD2 : va_D A (sysO x v ca oq ZC (fun _ => 0) ++ mW h ad ca 0 (fun _ _ => 0)) := hD.sub [0, 1, 2, 3, 4, 5, 6, 7, 8, 9, 10, 11, 12, 13, 14, 15, 16, 17, 18, 19, 20, 21, 22, 23, 24, 25, 26, 27, 28, 29, 30, 31, 61, 32, 33, 34, 35, 36, 37, 38, 39, 40, 41, 42, 43, 44, 45, 46, 47, 48, 49, 50, 51, 52, 53, 54, 55, 56, 57, 58, 59, 60] rfl rfl
  exact lw_loop hlT fx hX hbl hbA hL hE hZ hA hA2 hr hlk 512 0 ZC (fun _ => 0) (fun _ _ => 0) 0 H _ ls _ _ (by omega) (by decide) (Nat.le_of_ble_eq_true rfl) (Nat.le_of_ble_eq_true rfl) RR.zero hP2 hD2 hS hl
