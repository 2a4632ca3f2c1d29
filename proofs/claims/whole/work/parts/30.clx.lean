set_option maxHeartbeats 4000000 in
set_option maxRecDepth 100000 in
theorem x_Cl_stationAt (l : Launch) (hlT : l.stackTraces = false) (D : va_G) (ca : Nat → ClassId) (x ss : Nat) (fs : Nat → Option Nat) (x₀ : Int32) (hsx : x₀ < 0 ∨ nI 2 ≤ x₀) : CoX l yCl_stationAt (Cond.code yCl_stationAt cCl_stationAt 2 (some (FieldType.object "ChannelledLink$Station")) :: tb_) { frames := 6, cells := 1, slots := 6, locals := 192 } D ca [.ref x, .int x₀] [(x, .inr (3, [.ref ss])), (ss, .inl (ca 2, 2, .inr (.inr (.inr (.inr fs)))))] "java/lang/IndexOutOfBoundsException" 1 6 := by
  refine CoX.of cCl_stationAt 2 (some (FieldType.object "ChannelledLink$Station")) (by decide) (Nat.le_of_ble_eq_true rfl) ?_
  intro p e s m args below meth c A ls fx hret hlk hnt hE hZ hP hD hS hA hl
  have hx := fx.1
  have hb := fx.2.1
  have hown : s.vm.findClass RCl = some m.cls := fx.2.2.2.1
  have hts := fx.2.2.2.2
  have ht : ∀ w ∈ tb_, w.before args s = true := fun w h => hts w (List.mem_cons_of_mem _ h)
  have hl : lv_has ls 2 [(0, .ref x), (1, .int x₀)] := hl
  refine lv_iload_n hx hb dCl_stationAt_0 rfl (lv_at hl 1 rfl) ?_
  refine lv_if_lt (tgt := 9) hx hb dCl_stationAt_1 rfl (fun h1 => ?_) (fun h1 => ?_)
  · exact xthrow hx hb hlT hown (by decide +kernel) ht tw_144 tw_9 hZ.2.2.2.1 at_Io (by decide +kernel) hZ hS (hl.1.trans fx.2.2.1.symm) dCl_stationAt_9 dCl_stationAt_12 dCl_stationAt_13 dCl_stationAt_15 dCl_stationAt_18 hnt (Nat.le_of_ble_eq_true rfl) (Nat.le_of_ble_eq_true rfl) (Nat.le_of_ble_eq_true rfl) (Nat.le_of_ble_eq_true rfl) hlk hP hD (Nat.le_of_ble_eq_true rfl) (Nat.le_of_ble_eq_true rfl)
  · refine lv_iload_n hx hb dCl_stationAt_4 rfl (lv_at hl 1 rfl) ?_
    refine lv_iconst (v := nI 2) hx hb dCl_stationAt_5 (by decide) ?_
    refine lv_icmp_lt (tgt := 19) hx hb dCl_stationAt_6 rfl (fun hz => absurd hz (Int32.not_lt.mpr (hsx.resolve_left h1))) (fun h6 => ?_)
    exact xthrow hx hb hlT hown (by decide +kernel) ht tw_144 tw_9 hZ.2.2.2.1 at_Io (by decide +kernel) hZ hS (hl.1.trans fx.2.2.1.symm) dCl_stationAt_9 dCl_stationAt_12 dCl_stationAt_13 dCl_stationAt_15 dCl_stationAt_18 hnt (Nat.le_of_ble_eq_true rfl) (Nat.le_of_ble_eq_true rfl) (Nat.le_of_ble_eq_true rfl) (Nat.le_of_ble_eq_true rfl) hlk hP hD (Nat.le_of_ble_eq_true rfl) (Nat.le_of_ble_eq_true rfl)
set_option maxHeartbeats 4000000 in
set_option maxRecDepth 100000 in
theorem c_Cl_isChannelX (l : Launch) (D : va_G) (ca : Nat → ClassId) (y₀ : Int32) (hcx : y₀ < 0 ∨ nI 3 ≤ y₀) : Co (S := Unit) l yCl_isChannel (Cond.code yCl_isChannel cCl_isChannel 1 (some FieldType.boolean) :: tb_) { frames := 0, cells := 0, slots := 0, locals := 0 } D ca [.int y₀] [] (fun _ => some (.int (nI 0))) (fun _ => True) (fun _ => []) 0 0 := by
  refine Co.of cCl_isChannel 1 (some FieldType.boolean) (by decide) (Nat.le_of_ble_eq_true rfl) ?_
  intro p e s m args below meth c A ls fx hret hlk hin hE hP hD hS hA hl
  have hx := fx.1
  have hb := fx.2.1
  have hown : s.vm.findClass RCl = some m.cls := fx.2.2.2.1
  have hts := fx.2.2.2.2
  have ht : ∀ w ∈ tb_, w.before args s = true := fun w h => hts w (List.mem_cons_of_mem _ h)
  have hl : lv_has ls 1 [(0, .int y₀)] := hl
  refine lv_iload_n hx hb dCl_isChannel_0 rfl (lv_at hl 0 rfl) ?_
  refine lv_if_lt (tgt := 13) hx hb dCl_isChannel_1 rfl (fun h1 => ?_) (fun h1 => ?_)
  · refine lv_iconst (v := nI 0) hx hb dCl_isChannel_13 (by decide) ?_
    exact Co.retz hx hb hret hlk (by first | rfl | decide) dCl_isChannel_14 hS hP hD () rfl trivial rfl (Nat.le_of_ble_eq_true rfl) (Nat.le_of_ble_eq_true rfl)
  · refine lv_iload_n hx hb dCl_isChannel_4 rfl (lv_at hl 0 rfl) ?_
    refine lv_iconst (v := nI 3) hx hb dCl_isChannel_5 (by decide) ?_
    refine lv_icmp_ge (tgt := 13) hx hb dCl_isChannel_6 rfl (fun h6 => ?_) (fun hz => absurd (hcx.resolve_left h1) hz)
    refine lv_iconst (v := nI 0) hx hb dCl_isChannel_13 (by decide) ?_
    exact Co.retz hx hb hret hlk (by first | rfl | decide) dCl_isChannel_14 hS hP hD () rfl trivial rfl (Nat.le_of_ble_eq_true rfl) (Nat.le_of_ble_eq_true rfl)
set_option maxHeartbeats 4000000 in
set_option maxRecDepth 100000 in
theorem x_Cl_requireChannel (l : Launch) (hlT : l.stackTraces = false) (D : va_G) (ca : Nat → ClassId) (y₀ : Int32) (hcx : y₀ < 0 ∨ nI 3 ≤ y₀) : CoX l yCl_requireChannel (Cond.code yCl_requireChannel cCl_requireChannel 1 none :: tb_) { frames := 6, cells := 1, slots := 6, locals := 192 } D ca [.int y₀] [] "java/lang/IndexOutOfBoundsException" 1 6 := by
  refine CoX.of cCl_requireChannel 1 none (by decide) (Nat.le_of_ble_eq_true rfl) ?_
  intro p e s m args below meth c A ls fx hret hlk hnt hE hZ hP hD hS hA hl
  have hx := fx.1
  have hb := fx.2.1
  have hown : s.vm.findClass RCl = some m.cls := fx.2.2.2.1
  have hts := fx.2.2.2.2
  have ht : ∀ w ∈ tb_, w.before args s = true := fun w h => hts w (List.mem_cons_of_mem _ h)
  have hl : lv_has ls 1 [(0, .int y₀)] := hl
  refine lv_iload_n hx hb dCl_requireChannel_0 rfl (lv_at hl 0 rfl) ?_
  refine kI (rS fx (c_Cl_isChannelX l D ca y₀ hcx) ⟨callB_of 1 hts (tb_gi tw_382) rfl rfl rfl (ht _ tw_1) (ht _ tw_458) (by decide +kernel) ⟨(Nat.le_of_ble_eq_true rfl), (Nat.le_of_ble_eq_true rfl)⟩, ht _ tw_381⟩ hE hP hD [] rfl rfl rfl hl.1 rfl (Nat.le_of_ble_eq_true rfl) dCl_requireChannel_1 ⟨(Nat.le_of_ble_eq_true rfl), (Nat.le_of_ble_eq_true rfl)⟩) hP hD hS hA [] [] rfl rfl rfl (by decide) (fun _ H locs _ hP hD hS => ?_)
  have hP : va_P D cls_ [] H := hP
  have hD : va_D A [] := hD
  refine k_if_ne (tgt := 17) hx hb (by omega) dCl_requireChannel_4 rfl (fun hz => absurd hz (by omega)) (fun h4 => ?_)
  exact xthrow hx hb hlT hown (by decide +kernel) ht tw_144 tw_9 hZ.2.2.2.2.1 at_Io (by decide +kernel) hZ hS (hl.1.trans fx.2.2.1.symm) dCl_requireChannel_7 dCl_requireChannel_10 dCl_requireChannel_11 dCl_requireChannel_13 dCl_requireChannel_16 hnt (Nat.le_of_ble_eq_true rfl) (Nat.le_of_ble_eq_true rfl) (Nat.le_of_ble_eq_true rfl) (Nat.le_of_ble_eq_true rfl) hlk hP hD (Nat.le_of_ble_eq_true rfl) (Nat.le_of_ble_eq_true rfl)
set_option maxHeartbeats 4000000 in
set_option maxRecDepth 100000 in
theorem x_Cl_requireValue (l : Launch) (hlT : l.stackTraces = false) (D : va_G) (ca : Nat → ClassId) (v₁ : Int32) (hv1 : v₁ < 0 ∨ nI 255 < v₁) : CoX l yCl_requireValue (Cond.code yCl_requireValue cCl_requireValue 1 none :: tb_) { frames := 6, cells := 1, slots := 6, locals := 192 } D ca [.int v₁] [] "java/lang/IllegalArgumentException" 1 6 := by
  refine CoX.of cCl_requireValue 1 none (by decide) (Nat.le_of_ble_eq_true rfl) ?_
  intro p e s m args below meth c A ls fx hret hlk hnt hE hZ hP hD hS hA hl
  have hx := fx.1
  have hb := fx.2.1
  have hown : s.vm.findClass RCl = some m.cls := fx.2.2.2.1
  have hts := fx.2.2.2.2
  have ht : ∀ w ∈ tb_, w.before args s = true := fun w h => hts w (List.mem_cons_of_mem _ h)
  have hl : lv_has ls 1 [(0, .int v₁)] := hl
  refine lv_iload_n hx hb dCl_requireValue_0 rfl (lv_at hl 0 rfl) ?_
  refine lv_if_lt (tgt := 11) hx hb dCl_requireValue_1 rfl (fun h1 => ?_) (fun h1 => ?_)
  · exact xthrow hx hb hlT hown (by decide +kernel) ht tw_514 tw_16 hZ.2.2.2.2.2.1 at_Ia (by decide +kernel) hZ hS (hl.1.trans fx.2.2.1.symm) dCl_requireValue_11 dCl_requireValue_14 dCl_requireValue_15 dCl_requireValue_17 dCl_requireValue_20 hnt (Nat.le_of_ble_eq_true rfl) (Nat.le_of_ble_eq_true rfl) (Nat.le_of_ble_eq_true rfl) (Nat.le_of_ble_eq_true rfl) hlk hP hD (Nat.le_of_ble_eq_true rfl) (Nat.le_of_ble_eq_true rfl)
  · refine lv_iload_n hx hb dCl_requireValue_4 rfl (lv_at hl 0 rfl) ?_
    refine lv_sipush (v := nI 255) hx hb dCl_requireValue_5 (by decide) ?_
    refine lv_icmp_le (tgt := 21) hx hb dCl_requireValue_8 rfl (fun hz => absurd hz (Int32.not_le.mpr (hv1.resolve_left h1))) (fun h8 => ?_)
    exact xthrow hx hb hlT hown (by decide +kernel) ht tw_514 tw_16 hZ.2.2.2.2.2.1 at_Ia (by decide +kernel) hZ hS (hl.1.trans fx.2.2.1.symm) dCl_requireValue_11 dCl_requireValue_14 dCl_requireValue_15 dCl_requireValue_17 dCl_requireValue_20 hnt (Nat.le_of_ble_eq_true rfl) (Nat.le_of_ble_eq_true rfl) (Nat.le_of_ble_eq_true rfl) (Nat.le_of_ble_eq_true rfl) hlk hP hD (Nat.le_of_ble_eq_true rfl) (Nat.le_of_ble_eq_true rfl)
set_option maxHeartbeats 4000000 in
set_option maxRecDepth 100000 in
theorem x_Cl_requireState (l : Launch) (hlT : l.stackTraces = false) (D : va_G) (ca : Nat → ClassId)  : CoX l yCl_requireState (Cond.code yCl_requireState cCl_requireState 1 none :: tb_) { frames := 6, cells := 1, slots := 6, locals := 192 } D ca [.int (nI 0)] [] "java/lang/IllegalStateException" 1 6 := by
  refine CoX.of cCl_requireState 1 none (by decide) (Nat.le_of_ble_eq_true rfl) ?_
  intro p e s m args below meth c A ls fx hret hlk hnt hE hZ hP hD hS hA hl
  have hx := fx.1
  have hb := fx.2.1
  have hown : s.vm.findClass RCl = some m.cls := fx.2.2.2.1
  have hts := fx.2.2.2.2
  have ht : ∀ w ∈ tb_, w.before args s = true := fun w h => hts w (List.mem_cons_of_mem _ h)
  have hl : lv_has ls 1 [(0, .int (nI 0))] := hl
  refine lv_iload_n hx hb dCl_requireState_0 rfl (lv_at hl 0 rfl) ?_
  refine k_if_ne (tgt := 14) hx hb (by omega) dCl_requireState_1 rfl (fun hz => absurd hz (by omega)) (fun h1 => ?_)
  exact xthrow hx hb hlT hown (by decide +kernel) ht tw_254 tw_11 hZ.2.2.2.2.2.2.1 at_Is (by decide +kernel) hZ hS (hl.1.trans fx.2.2.1.symm) dCl_requireState_4 dCl_requireState_7 dCl_requireState_8 dCl_requireState_10 dCl_requireState_13 hnt (Nat.le_of_ble_eq_true rfl) (Nat.le_of_ble_eq_true rfl) (Nat.le_of_ble_eq_true rfl) (Nat.le_of_ble_eq_true rfl) hlk hP hD (Nat.le_of_ble_eq_true rfl) (Nat.le_of_ble_eq_true rfl)
set_option maxHeartbeats 4000000 in
set_option maxRecDepth 100000 in
theorem x_Cl_requireElement (l : Launch) (hlT : l.stackTraces = false) (D : va_G) (ca : Nat → ClassId) (g ga N : Nat) (r : Rw_) (h0 : r.2 = 0) : CoX l yCl_requireElement (Cond.code yCl_requireElement cCl_requireElement 1 none :: tb_) { frames := 6, cells := 1, slots := 6, locals := 192 } D ca [.ref g] [(g, .inr (0, [.ref ga, .int (nI r.2)])), (ga, .inl (ca 0, N, .inl (fun j => nI (r.1 j))))] "java/util/NoSuchElementException" 1 6 := by
  refine CoX.of cCl_requireElement 1 none (by decide) (Nat.le_of_ble_eq_true rfl) ?_
  intro p e s m args below meth c A ls fx hret hlk hnt hE hZ hP hD hS hA hl
  have hx := fx.1
  have hb := fx.2.1
  have hown : s.vm.findClass RCl = some m.cls := fx.2.2.2.1
  have hts := fx.2.2.2.2
  have ht : ∀ w ∈ tb_, w.before args s = true := fun w h => hts w (List.mem_cons_of_mem _ h)
  have hl : lv_has ls 1 [(0, .ref g)] := hl
  refine lv_aload_n hx hb dCl_requireElement_0 rfl (lv_at hl 0 rfl) ?_
  refine va_getN (D := D) (ci := 0) (v := .int (nI r.2)) (host := "ChannelledLink") (C := RRw) (T := TRw) (N := 2) hx hb ht inRw hown hE.1 hP 0 rfl rfl 1 (by decide) (hE.nestU tw_35 rfl) (fun _ h => h) rfl dCl_requireElement_1 ?_
  refine k_if_ne (tgt := 17) hx hb (by omega) dCl_requireElement_4 rfl (fun hz => absurd hz (by omega)) (fun h4 => ?_)
  exact xthrowN (ix := 13) (bytes := prog_18_method_4_code) (by decide +kernel) (by decide +kernel) (by decide +kernel) (by decide +kernel) hx hb hlT hown (by decide +kernel) ht tw_304 tw_12 hZ.2.2.2.2.2.2.2.1 at_Ns (by decide +kernel) hZ hS (hl.1.trans fx.2.2.1.symm) dCl_requireElement_7 dCl_requireElement_10 dCl_requireElement_11 dCl_requireElement_13 dCl_requireElement_16 hnt (Nat.le_of_ble_eq_true rfl) (Nat.le_of_ble_eq_true rfl) (Nat.le_of_ble_eq_true rfl) (Nat.le_of_ble_eq_true rfl) hlk hP hD (Nat.le_of_ble_eq_true rfl) (Nat.le_of_ble_eq_true rfl)
set_option maxHeartbeats 4000000 in
set_option maxRecDepth 100000 in
theorem x_Cl_takeFrame (l : Launch) (hlT : l.stackTraces = false) (D : va_G) (ca : Nat → ClassId) (g ga N : Nat) (r : Rw_) (h0 : r.2 = 0) : CoX l yCl_takeFrame (Cond.code yCl_takeFrame cCl_takeFrame 2 (some FieldType.int) :: tb_) { frames := 7, cells := 1, slots := 6, locals := 224 } D ca [.ref g] [(g, .inr (0, [.ref ga, .int (nI r.2)])), (ga, .inl (ca 0, N, .inl (fun j => nI (r.1 j))))] "java/util/NoSuchElementException" 1 6 := by
  refine CoX.of cCl_takeFrame 2 (some FieldType.int) (by decide) (Nat.le_of_ble_eq_true rfl) ?_
  intro p e s m args below meth c A ls fx hret hlk hnt hE hZ hP hD hS hA hl
  have hx := fx.1
  have hb := fx.2.1
  have hown : s.vm.findClass RCl = some m.cls := fx.2.2.2.1
  have hts := fx.2.2.2.2
  have ht : ∀ w ∈ tb_, w.before args s = true := fun w h => hts w (List.mem_cons_of_mem _ h)
  have hl : lv_has ls 2 [(0, .ref g)] := hl
  refine lv_aload_n hx hb dCl_takeFrame_0 rfl (lv_at hl 0 rfl) ?_
  refine kX (xS fx (x_Cl_requireElement l hlT D ca g ga N r (by omega)) ⟨callB_of 1 hts (tb_gi tw_303) rfl rfl rfl (ht _ tw_1) (ht _ tw_301) (by decide +kernel) ⟨(Nat.le_of_ble_eq_true rfl), (Nat.le_of_ble_eq_true rfl)⟩, ht _ tw_302⟩ hE hZ hP hD hS hA [0, 1] rfl rfl rfl hl.1 rfl (Nat.le_of_ble_eq_true rfl) dCl_takeFrame_1 ⟨(Nat.le_of_ble_eq_true rfl), (Nat.le_of_ble_eq_true rfl)⟩) hP hD hS hA [0, 1] [] rfl rfl rfl (by decide) (fun ce q9 H locs hP hD hS hce hcv hcl => ?_)
  have hP : va_P D cls_ [(g, .inr (0, [.ref ga, .int (nI r.2)])), (ga, .inl (ca 0, N, .inl (fun j => nI (r.1 j))))] H := hP
  have hD : va_D A [(g, .inr (0, [.ref ga, .int (nI r.2)])), (ga, .inl (ca 0, N, .inl (fun j => nI (r.1 j))))] := hD
  exact xout hnt hlk hce hcv hcl hP hD hS (Nat.le_of_ble_eq_true rfl) (Nat.le_of_ble_eq_true rfl)
set_option maxHeartbeats 4000000 in
set_option maxRecDepth 100000 in
theorem x_Cl_channelAt (l : Launch) (hlT : l.stackTraces = false) (D : va_G) (ca : Nat → ClassId) (h : Nat) (y₀ : Int32) (hcx : y₀ < 0 ∨ nI 3 ≤ y₀) : CoX l yCl_channelAt (Cond.code yCl_channelAt cCl_channelAt 2 (some (FieldType.object "ChannelledLink$Channel")) :: tb_) { frames := 7, cells := 1, slots := 6, locals := 224 } D ca [.ref h, .int y₀] [] "java/lang/IndexOutOfBoundsException" 1 6 := by
  refine CoX.of cCl_channelAt 2 (some (FieldType.object "ChannelledLink$Channel")) (by decide) (Nat.le_of_ble_eq_true rfl) ?_
  intro p e s m args below meth c A ls fx hret hlk hnt hE hZ hP hD hS hA hl
  have hx := fx.1
  have hb := fx.2.1
  have hown : s.vm.findClass RCl = some m.cls := fx.2.2.2.1
  have hts := fx.2.2.2.2
  have ht : ∀ w ∈ tb_, w.before args s = true := fun w h => hts w (List.mem_cons_of_mem _ h)
  have hl : lv_has ls 2 [(0, .ref h), (1, .int y₀)] := hl
  refine lv_iload_n hx hb dCl_channelAt_0 rfl (lv_at hl 1 rfl) ?_
  refine kX (xS fx (x_Cl_requireChannel l hlT D ca y₀ hcx) ⟨callB_of 1 hts (tb_gi tw_457) rfl rfl rfl (ht _ tw_1) (ht _ tw_455) (by decide +kernel) ⟨(Nat.le_of_ble_eq_true rfl), (Nat.le_of_ble_eq_true rfl)⟩, ht _ tw_456⟩ hE hZ hP hD hS hA [] rfl rfl rfl hl.1 rfl (Nat.le_of_ble_eq_true rfl) dCl_channelAt_1 ⟨(Nat.le_of_ble_eq_true rfl), (Nat.le_of_ble_eq_true rfl)⟩) hP hD hS hA [] [] rfl rfl rfl (by decide) (fun ce q9 H locs hP hD hS hce hcv hcl => ?_)
  have hP : va_P D cls_ [] H := hP
  have hD : va_D A [] := hD
  exact xout hnt hlk hce hcv hcl hP hD hS (Nat.le_of_ble_eq_true rfl) (Nat.le_of_ble_eq_true rfl)
set_option maxHeartbeats 4000000 in
set_option maxRecDepth 100000 in
theorem x_Cl_open_s (l : Launch) (hlT : l.stackTraces = false) (D : va_G) (ca : Nat → ClassId) (x ss : Nat) (fs : Nat → Option Nat) (x₀ : Int32) (hsx : x₀ < 0 ∨ nI 2 ≤ x₀) : CoX l yCl_open (Cond.code yCl_open cCl_open 2 none :: tb_) { frames := 8, cells := 1, slots := 6, locals := 256 } D ca [.ref x, .int x₀] [(x, .inr (3, [.ref ss])), (ss, .inl (ca 2, 2, .inr (.inr (.inr (.inr fs)))))] "java/lang/IndexOutOfBoundsException" 1 6 := by
  refine CoX.of cCl_open 2 none (by decide) (Nat.le_of_ble_eq_true rfl) ?_
  intro p e s m args below meth c A ls fx hret hlk hnt hE hZ hP hD hS hA hl
  have hx := fx.1
  have hb := fx.2.1
  have hown : s.vm.findClass RCl = some m.cls := fx.2.2.2.1
  have hts := fx.2.2.2.2
  have ht : ∀ w ∈ tb_, w.before args s = true := fun w h => hts w (List.mem_cons_of_mem _ h)
  have hl : lv_has ls 2 [(0, .ref x), (1, .int x₀)] := hl
  refine lv_aload_n hx hb dCl_open_0 rfl (lv_at hl 0 rfl) ?_
  refine lv_iload_n hx hb dCl_open_1 rfl (lv_at hl 1 rfl) ?_
  refine kX (xV fx (x_Cl_stationAt l hlT D ca x ss fs x₀ hsx) ⟨callB_of 1 hts (tb_gi tw_143) rfl rfl rfl (ht _ tw_1) (ht _ tw_140) (by decide +kernel) ⟨(Nat.le_of_ble_eq_true rfl), (Nat.le_of_ble_eq_true rfl)⟩, ht _ tw_142, ht _ tw_826⟩ hE hZ hP hD hS hA 0 rfl rfl rfl [0, 1] rfl rfl rfl hl.1 rfl (Nat.le_of_ble_eq_true rfl) dCl_open_2 ⟨(Nat.le_of_ble_eq_true rfl), (Nat.le_of_ble_eq_true rfl)⟩) hP hD hS hA [0, 1] [] rfl rfl rfl (by decide) (fun ce q9 H locs hP hD hS hce hcv hcl => ?_)
  have hP : va_P D cls_ [(x, .inr (3, [.ref ss])), (ss, .inl (ca 2, 2, .inr (.inr (.inr (.inr fs)))))] H := hP
  have hD : va_D A [(x, .inr (3, [.ref ss])), (ss, .inl (ca 2, 2, .inr (.inr (.inr (.inr fs)))))] := hD
  exact xout hnt hlk hce hcv hcl hP hD hS (Nat.le_of_ble_eq_true rfl) (Nat.le_of_ble_eq_true rfl)
set_option maxHeartbeats 4000000 in
set_option maxRecDepth 100000 in
theorem x_Cl_expire_s (l : Launch) (hlT : l.stackTraces = false) (D : va_G) (ca : Nat → ClassId) (x ss : Nat) (fs : Nat → Option Nat) (x₀ : Int32) (hsx : x₀ < 0 ∨ nI 2 ≤ x₀) : CoX l yCl_expire (Cond.code yCl_expire cCl_expire 3 (some FieldType.int) :: tb_) { frames := 8, cells := 1, slots := 6, locals := 256 } D ca [.ref x, .int x₀] [(x, .inr (3, [.ref ss])), (ss, .inl (ca 2, 2, .inr (.inr (.inr (.inr fs)))))] "java/lang/IndexOutOfBoundsException" 1 6 := by
  refine CoX.of cCl_expire 3 (some FieldType.int) (by decide) (Nat.le_of_ble_eq_true rfl) ?_
  intro p e s m args below meth c A ls fx hret hlk hnt hE hZ hP hD hS hA hl
  have hx := fx.1
  have hb := fx.2.1
  have hown : s.vm.findClass RCl = some m.cls := fx.2.2.2.1
  have hts := fx.2.2.2.2
  have ht : ∀ w ∈ tb_, w.before args s = true := fun w h => hts w (List.mem_cons_of_mem _ h)
  have hl : lv_has ls 3 [(0, .ref x), (1, .int x₀)] := hl
  refine lv_aload_n hx hb dCl_expire_0 rfl (lv_at hl 0 rfl) ?_
  refine lv_iload_n hx hb dCl_expire_1 rfl (lv_at hl 1 rfl) ?_
  refine kX (xV fx (x_Cl_stationAt l hlT D ca x ss fs x₀ hsx) ⟨callB_of 1 hts (tb_gi tw_143) rfl rfl rfl (ht _ tw_1) (ht _ tw_140) (by decide +kernel) ⟨(Nat.le_of_ble_eq_true rfl), (Nat.le_of_ble_eq_true rfl)⟩, ht _ tw_142, ht _ tw_826⟩ hE hZ hP hD hS hA 0 rfl rfl rfl [0, 1] rfl rfl rfl hl.1 rfl (Nat.le_of_ble_eq_true rfl) dCl_expire_2 ⟨(Nat.le_of_ble_eq_true rfl), (Nat.le_of_ble_eq_true rfl)⟩) hP hD hS hA [0, 1] [] rfl rfl rfl (by decide) (fun ce q9 H locs hP hD hS hce hcv hcl => ?_)
  have hP : va_P D cls_ [(x, .inr (3, [.ref ss])), (ss, .inl (ca 2, 2, .inr (.inr (.inr (.inr fs)))))] H := hP
  have hD : va_D A [(x, .inr (3, [.ref ss])), (ss, .inl (ca 2, 2, .inr (.inr (.inr (.inr fs)))))] := hD
  exact xout hnt hlk hce hcv hcl hP hD hS (Nat.le_of_ble_eq_true rfl) (Nat.le_of_ble_eq_true rfl)
set_option maxHeartbeats 4000000 in
set_option maxRecDepth 100000 in
theorem x_Cl_deliver_s (l : Launch) (hlT : l.stackTraces = false) (D : va_G) (ca : Nat → ClassId) (x ss : Nat) (fs : Nat → Option Nat) (x₀ : Int32) (hsx : x₀ < 0 ∨ nI 2 ≤ x₀) : CoX l yCl_deliver (Cond.code yCl_deliver cCl_deliver 4 (some FieldType.int) :: tb_) { frames := 8, cells := 1, slots := 6, locals := 256 } D ca [.ref x, .int x₀] [(x, .inr (3, [.ref ss])), (ss, .inl (ca 2, 2, .inr (.inr (.inr (.inr fs)))))] "java/lang/IndexOutOfBoundsException" 1 6 := by
  refine CoX.of cCl_deliver 4 (some FieldType.int) (by decide) (Nat.le_of_ble_eq_true rfl) ?_
  intro p e s m args below meth c A ls fx hret hlk hnt hE hZ hP hD hS hA hl
  have hx := fx.1
  have hb := fx.2.1
  have hown : s.vm.findClass RCl = some m.cls := fx.2.2.2.1
  have hts := fx.2.2.2.2
  have ht : ∀ w ∈ tb_, w.before args s = true := fun w h => hts w (List.mem_cons_of_mem _ h)
  have hl : lv_has ls 4 [(0, .ref x), (1, .int x₀)] := hl
  refine lv_aload_n hx hb dCl_deliver_0 rfl (lv_at hl 0 rfl) ?_
  refine lv_iload_n hx hb dCl_deliver_1 rfl (lv_at hl 1 rfl) ?_
  refine kX (xV fx (x_Cl_stationAt l hlT D ca x ss fs x₀ hsx) ⟨callB_of 1 hts (tb_gi tw_143) rfl rfl rfl (ht _ tw_1) (ht _ tw_140) (by decide +kernel) ⟨(Nat.le_of_ble_eq_true rfl), (Nat.le_of_ble_eq_true rfl)⟩, ht _ tw_142, ht _ tw_826⟩ hE hZ hP hD hS hA 0 rfl rfl rfl [0, 1] rfl rfl rfl hl.1 rfl (Nat.le_of_ble_eq_true rfl) dCl_deliver_2 ⟨(Nat.le_of_ble_eq_true rfl), (Nat.le_of_ble_eq_true rfl)⟩) hP hD hS hA [0, 1] [] rfl rfl rfl (by decide) (fun ce q9 H locs hP hD hS hce hcv hcl => ?_)
  have hP : va_P D cls_ [(x, .inr (3, [.ref ss])), (ss, .inl (ca 2, 2, .inr (.inr (.inr (.inr fs)))))] H := hP
  have hD : va_D A [(x, .inr (3, [.ref ss])), (ss, .inl (ca 2, 2, .inr (.inr (.inr (.inr fs)))))] := hD
  exact xout hnt hlk hce hcv hcl hP hD hS (Nat.le_of_ble_eq_true rfl) (Nat.le_of_ble_eq_true rfl)
set_option maxHeartbeats 4000000 in
set_option maxRecDepth 100000 in
theorem x_Cl_lose_s (l : Launch) (hlT : l.stackTraces = false) (D : va_G) (ca : Nat → ClassId) (x ss : Nat) (fs : Nat → Option Nat) (x₀ : Int32) (hsx : x₀ < 0 ∨ nI 2 ≤ x₀) : CoX l yCl_lose (Cond.code yCl_lose cCl_lose 2 (some FieldType.int) :: tb_) { frames := 8, cells := 1, slots := 6, locals := 256 } D ca [.ref x, .int x₀] [(x, .inr (3, [.ref ss])), (ss, .inl (ca 2, 2, .inr (.inr (.inr (.inr fs)))))] "java/lang/IndexOutOfBoundsException" 1 6 := by
  refine CoX.of cCl_lose 2 (some FieldType.int) (by decide) (Nat.le_of_ble_eq_true rfl) ?_
  intro p e s m args below meth c A ls fx hret hlk hnt hE hZ hP hD hS hA hl
  have hx := fx.1
  have hb := fx.2.1
  have hown : s.vm.findClass RCl = some m.cls := fx.2.2.2.1
  have hts := fx.2.2.2.2
  have ht : ∀ w ∈ tb_, w.before args s = true := fun w h => hts w (List.mem_cons_of_mem _ h)
  have hl : lv_has ls 2 [(0, .ref x), (1, .int x₀)] := hl
  refine lv_aload_n hx hb dCl_lose_0 rfl (lv_at hl 0 rfl) ?_
  refine lv_iload_n hx hb dCl_lose_1 rfl (lv_at hl 1 rfl) ?_
  refine kX (xV fx (x_Cl_stationAt l hlT D ca x ss fs x₀ hsx) ⟨callB_of 1 hts (tb_gi tw_143) rfl rfl rfl (ht _ tw_1) (ht _ tw_140) (by decide +kernel) ⟨(Nat.le_of_ble_eq_true rfl), (Nat.le_of_ble_eq_true rfl)⟩, ht _ tw_142, ht _ tw_826⟩ hE hZ hP hD hS hA 0 rfl rfl rfl [0, 1] rfl rfl rfl hl.1 rfl (Nat.le_of_ble_eq_true rfl) dCl_lose_2 ⟨(Nat.le_of_ble_eq_true rfl), (Nat.le_of_ble_eq_true rfl)⟩) hP hD hS hA [0, 1] [] rfl rfl rfl (by decide) (fun ce q9 H locs hP hD hS hce hcv hcl => ?_)
  have hP : va_P D cls_ [(x, .inr (3, [.ref ss])), (ss, .inl (ca 2, 2, .inr (.inr (.inr (.inr fs)))))] H := hP
  have hD : va_D A [(x, .inr (3, [.ref ss])), (ss, .inl (ca 2, 2, .inr (.inr (.inr (.inr fs)))))] := hD
  exact xout hnt hlk hce hcv hcl hP hD hS (Nat.le_of_ble_eq_true rfl) (Nat.le_of_ble_eq_true rfl)
set_option maxHeartbeats 4000000 in
set_option maxRecDepth 100000 in
theorem x_Cl_hand_s (l : Launch) (hlT : l.stackTraces = false) (D : va_G) (ca : Nat → ClassId) (x ss : Nat) (fs : Nat → Option Nat) (x₀ : Int32) (hsx : x₀ < 0 ∨ nI 2 ≤ x₀) (y₀ k₁ n₁ a₁ : Int32) : CoX l yCl_hand (Cond.code yCl_hand cCl_hand 7 (some FieldType.boolean) :: tb_) { frames := 8, cells := 1, slots := 6, locals := 256 } D ca [.ref x, .int x₀, .int y₀, .int k₁, .int n₁, .int a₁] [(x, .inr (3, [.ref ss])), (ss, .inl (ca 2, 2, .inr (.inr (.inr (.inr fs)))))] "java/lang/IndexOutOfBoundsException" 1 6 := by
  refine CoX.of cCl_hand 7 (some FieldType.boolean) (by decide) (Nat.le_of_ble_eq_true rfl) ?_
  intro p e s m args below meth c A ls fx hret hlk hnt hE hZ hP hD hS hA hl
  have hx := fx.1
  have hb := fx.2.1
  have hown : s.vm.findClass RCl = some m.cls := fx.2.2.2.1
  have hts := fx.2.2.2.2
  have ht : ∀ w ∈ tb_, w.before args s = true := fun w h => hts w (List.mem_cons_of_mem _ h)
  have hl : lv_has ls 7 [(0, .ref x), (1, .int x₀), (2, .int y₀), (3, .int k₁), (4, .int n₁), (5, .int a₁)] := hl
  refine lv_aload_n hx hb dCl_hand_0 rfl (lv_at hl 0 rfl) ?_
  refine lv_iload_n hx hb dCl_hand_1 rfl (lv_at hl 1 rfl) ?_
  refine kX (xV fx (x_Cl_stationAt l hlT D ca x ss fs x₀ hsx) ⟨callB_of 1 hts (tb_gi tw_143) rfl rfl rfl (ht _ tw_1) (ht _ tw_140) (by decide +kernel) ⟨(Nat.le_of_ble_eq_true rfl), (Nat.le_of_ble_eq_true rfl)⟩, ht _ tw_142, ht _ tw_826⟩ hE hZ hP hD hS hA 0 rfl rfl rfl [0, 1] rfl rfl rfl hl.1 rfl (Nat.le_of_ble_eq_true rfl) dCl_hand_2 ⟨(Nat.le_of_ble_eq_true rfl), (Nat.le_of_ble_eq_true rfl)⟩) hP hD hS hA [0, 1] [] rfl rfl rfl (by decide) (fun ce q9 H locs hP hD hS hce hcv hcl => ?_)
  have hP : va_P D cls_ [(x, .inr (3, [.ref ss])), (ss, .inl (ca 2, 2, .inr (.inr (.inr (.inr fs)))))] H := hP
  have hD : va_D A [(x, .inr (3, [.ref ss])), (ss, .inl (ca 2, 2, .inr (.inr (.inr (.inr fs)))))] := hD
  exact xout hnt hlk hce hcv hcl hP hD hS (Nat.le_of_ble_eq_true rfl) (Nat.le_of_ble_eq_true rfl)
set_option maxHeartbeats 4000000 in
set_option maxRecDepth 100000 in
theorem x_Cl_call_s (l : Launch) (hlT : l.stackTraces = false) (D : va_G) (ca : Nat → ClassId) (x ss : Nat) (fs : Nat → Option Nat) (x₀ : Int32) (hsx : x₀ < 0 ∨ nI 2 ≤ x₀) (y₀ : Int32) : CoX l yCl_call (Cond.code yCl_call cCl_call 5 none :: tb_) { frames := 8, cells := 1, slots := 6, locals := 256 } D ca [.ref x, .int x₀, .int y₀] [(x, .inr (3, [.ref ss])), (ss, .inl (ca 2, 2, .inr (.inr (.inr (.inr fs)))))] "java/lang/IndexOutOfBoundsException" 1 6 := by
  refine CoX.of cCl_call 5 none (by decide) (Nat.le_of_ble_eq_true rfl) ?_
  intro p e s m args below meth c A ls fx hret hlk hnt hE hZ hP hD hS hA hl
  have hx := fx.1
  have hb := fx.2.1
  have hown : s.vm.findClass RCl = some m.cls := fx.2.2.2.1
  have hts := fx.2.2.2.2
  have ht : ∀ w ∈ tb_, w.before args s = true := fun w h => hts w (List.mem_cons_of_mem _ h)
  have hl : lv_has ls 5 [(0, .ref x), (1, .int x₀), (2, .int y₀)] := hl
  refine lv_aload_n hx hb dCl_call_0 rfl (lv_at hl 0 rfl) ?_
  refine lv_iload_n hx hb dCl_call_1 rfl (lv_at hl 1 rfl) ?_
  refine kX (xV fx (x_Cl_stationAt l hlT D ca x ss fs x₀ hsx) ⟨callB_of 1 hts (tb_gi tw_143) rfl rfl rfl (ht _ tw_1) (ht _ tw_140) (by decide +kernel) ⟨(Nat.le_of_ble_eq_true rfl), (Nat.le_of_ble_eq_true rfl)⟩, ht _ tw_142, ht _ tw_826⟩ hE hZ hP hD hS hA 0 rfl rfl rfl [0, 1] rfl rfl rfl hl.1 rfl (Nat.le_of_ble_eq_true rfl) dCl_call_2 ⟨(Nat.le_of_ble_eq_true rfl), (Nat.le_of_ble_eq_true rfl)⟩) hP hD hS hA [0, 1] [] rfl rfl rfl (by decide) (fun ce q9 H locs hP hD hS hce hcv hcl => ?_)
  have hP : va_P D cls_ [(x, .inr (3, [.ref ss])), (ss, .inl (ca 2, 2, .inr (.inr (.inr (.inr fs)))))] H := hP
  have hD : va_D A [(x, .inr (3, [.ref ss])), (ss, .inl (ca 2, 2, .inr (.inr (.inr (.inr fs)))))] := hD
  exact xout hnt hlk hce hcv hcl hP hD hS (Nat.le_of_ble_eq_true rfl) (Nat.le_of_ble_eq_true rfl)
set_option maxHeartbeats 4000000 in
set_option maxRecDepth 100000 in
theorem x_Cl_accept_s (l : Launch) (hlT : l.stackTraces = false) (D : va_G) (ca : Nat → ClassId) (x ss : Nat) (fs : Nat → Option Nat) (x₀ : Int32) (hsx : x₀ < 0 ∨ nI 2 ≤ x₀) (y₀ : Int32) : CoX l yCl_accept (Cond.code yCl_accept cCl_accept 5 none :: tb_) { frames := 8, cells := 1, slots := 6, locals := 256 } D ca [.ref x, .int x₀, .int y₀] [(x, .inr (3, [.ref ss])), (ss, .inl (ca 2, 2, .inr (.inr (.inr (.inr fs)))))] "java/lang/IndexOutOfBoundsException" 1 6 := by
  refine CoX.of cCl_accept 5 none (by decide) (Nat.le_of_ble_eq_true rfl) ?_
  intro p e s m args below meth c A ls fx hret hlk hnt hE hZ hP hD hS hA hl
  have hx := fx.1
  have hb := fx.2.1
  have hown : s.vm.findClass RCl = some m.cls := fx.2.2.2.1
  have hts := fx.2.2.2.2
  have ht : ∀ w ∈ tb_, w.before args s = true := fun w h => hts w (List.mem_cons_of_mem _ h)
  have hl : lv_has ls 5 [(0, .ref x), (1, .int x₀), (2, .int y₀)] := hl
  refine lv_aload_n hx hb dCl_accept_0 rfl (lv_at hl 0 rfl) ?_
  refine lv_iload_n hx hb dCl_accept_1 rfl (lv_at hl 1 rfl) ?_
  refine kX (xV fx (x_Cl_stationAt l hlT D ca x ss fs x₀ hsx) ⟨callB_of 1 hts (tb_gi tw_143) rfl rfl rfl (ht _ tw_1) (ht _ tw_140) (by decide +kernel) ⟨(Nat.le_of_ble_eq_true rfl), (Nat.le_of_ble_eq_true rfl)⟩, ht _ tw_142, ht _ tw_826⟩ hE hZ hP hD hS hA 0 rfl rfl rfl [0, 1] rfl rfl rfl hl.1 rfl (Nat.le_of_ble_eq_true rfl) dCl_accept_2 ⟨(Nat.le_of_ble_eq_true rfl), (Nat.le_of_ble_eq_true rfl)⟩) hP hD hS hA [0, 1] [] rfl rfl rfl (by decide) (fun ce q9 H locs hP hD hS hce hcv hcl => ?_)
  have hP : va_P D cls_ [(x, .inr (3, [.ref ss])), (ss, .inl (ca 2, 2, .inr (.inr (.inr (.inr fs)))))] H := hP
  have hD : va_D A [(x, .inr (3, [.ref ss])), (ss, .inl (ca 2, 2, .inr (.inr (.inr (.inr fs)))))] := hD
  exact xout hnt hlk hce hcv hcl hP hD hS (Nat.le_of_ble_eq_true rfl) (Nat.le_of_ble_eq_true rfl)
set_option maxHeartbeats 4000000 in
set_option maxRecDepth 100000 in
theorem x_Cl_clear_s (l : Launch) (hlT : l.stackTraces = false) (D : va_G) (ca : Nat → ClassId) (x ss : Nat) (fs : Nat → Option Nat) (x₀ : Int32) (hsx : x₀ < 0 ∨ nI 2 ≤ x₀) (y₀ : Int32) : CoX l yCl_clear (Cond.code yCl_clear cCl_clear 6 none :: tb_) { frames := 8, cells := 1, slots := 6, locals := 256 } D ca [.ref x, .int x₀, .int y₀] [(x, .inr (3, [.ref ss])), (ss, .inl (ca 2, 2, .inr (.inr (.inr (.inr fs)))))] "java/lang/IndexOutOfBoundsException" 1 6 := by
  refine CoX.of cCl_clear 6 none (by decide) (Nat.le_of_ble_eq_true rfl) ?_
  intro p e s m args below meth c A ls fx hret hlk hnt hE hZ hP hD hS hA hl
  have hx := fx.1
  have hb := fx.2.1
  have hown : s.vm.findClass RCl = some m.cls := fx.2.2.2.1
  have hts := fx.2.2.2.2
  have ht : ∀ w ∈ tb_, w.before args s = true := fun w h => hts w (List.mem_cons_of_mem _ h)
  have hl : lv_has ls 6 [(0, .ref x), (1, .int x₀), (2, .int y₀)] := hl
  refine lv_aload_n hx hb dCl_clear_0 rfl (lv_at hl 0 rfl) ?_
  refine lv_iload_n hx hb dCl_clear_1 rfl (lv_at hl 1 rfl) ?_
  refine kX (xV fx (x_Cl_stationAt l hlT D ca x ss fs x₀ hsx) ⟨callB_of 1 hts (tb_gi tw_143) rfl rfl rfl (ht _ tw_1) (ht _ tw_140) (by decide +kernel) ⟨(Nat.le_of_ble_eq_true rfl), (Nat.le_of_ble_eq_true rfl)⟩, ht _ tw_142, ht _ tw_826⟩ hE hZ hP hD hS hA 0 rfl rfl rfl [0, 1] rfl rfl rfl hl.1 rfl (Nat.le_of_ble_eq_true rfl) dCl_clear_2 ⟨(Nat.le_of_ble_eq_true rfl), (Nat.le_of_ble_eq_true rfl)⟩) hP hD hS hA [0, 1] [] rfl rfl rfl (by decide) (fun ce q9 H locs hP hD hS hce hcv hcl => ?_)
  have hP : va_P D cls_ [(x, .inr (3, [.ref ss])), (ss, .inl (ca 2, 2, .inr (.inr (.inr (.inr fs)))))] H := hP
  have hD : va_D A [(x, .inr (3, [.ref ss])), (ss, .inl (ca 2, 2, .inr (.inr (.inr (.inr fs)))))] := hD
  exact xout hnt hlk hce hcv hcl hP hD hS (Nat.le_of_ble_eq_true rfl) (Nat.le_of_ble_eq_true rfl)
set_option maxHeartbeats 4000000 in
set_option maxRecDepth 100000 in
theorem x_Cl_reset_s (l : Launch) (hlT : l.stackTraces = false) (D : va_G) (ca : Nat → ClassId) (x ss : Nat) (fs : Nat → Option Nat) (x₀ : Int32) (hsx : x₀ < 0 ∨ nI 2 ≤ x₀) (y₀ : Int32) : CoX l yCl_reset (Cond.code yCl_reset cCl_reset 5 none :: tb_) { frames := 8, cells := 1, slots := 6, locals := 256 } D ca [.ref x, .int x₀, .int y₀] [(x, .inr (3, [.ref ss])), (ss, .inl (ca 2, 2, .inr (.inr (.inr (.inr fs)))))] "java/lang/IndexOutOfBoundsException" 1 6 := by
  refine CoX.of cCl_reset 5 none (by decide) (Nat.le_of_ble_eq_true rfl) ?_
  intro p e s m args below meth c A ls fx hret hlk hnt hE hZ hP hD hS hA hl
  have hx := fx.1
  have hb := fx.2.1
  have hown : s.vm.findClass RCl = some m.cls := fx.2.2.2.1
  have hts := fx.2.2.2.2
  have ht : ∀ w ∈ tb_, w.before args s = true := fun w h => hts w (List.mem_cons_of_mem _ h)
  have hl : lv_has ls 5 [(0, .ref x), (1, .int x₀), (2, .int y₀)] := hl
  refine lv_aload_n hx hb dCl_reset_0 rfl (lv_at hl 0 rfl) ?_
  refine lv_iload_n hx hb dCl_reset_1 rfl (lv_at hl 1 rfl) ?_
  refine kX (xV fx (x_Cl_stationAt l hlT D ca x ss fs x₀ hsx) ⟨callB_of 1 hts (tb_gi tw_143) rfl rfl rfl (ht _ tw_1) (ht _ tw_140) (by decide +kernel) ⟨(Nat.le_of_ble_eq_true rfl), (Nat.le_of_ble_eq_true rfl)⟩, ht _ tw_142, ht _ tw_826⟩ hE hZ hP hD hS hA 0 rfl rfl rfl [0, 1] rfl rfl rfl hl.1 rfl (Nat.le_of_ble_eq_true rfl) dCl_reset_2 ⟨(Nat.le_of_ble_eq_true rfl), (Nat.le_of_ble_eq_true rfl)⟩) hP hD hS hA [0, 1] [] rfl rfl rfl (by decide) (fun ce q9 H locs hP hD hS hce hcv hcl => ?_)
  have hP : va_P D cls_ [(x, .inr (3, [.ref ss])), (ss, .inl (ca 2, 2, .inr (.inr (.inr (.inr fs)))))] H := hP
  have hD : va_D A [(x, .inr (3, [.ref ss])), (ss, .inl (ca 2, 2, .inr (.inr (.inr (.inr fs)))))] := hD
  exact xout hnt hlk hce hcv hcl hP hD hS (Nat.le_of_ble_eq_true rfl) (Nat.le_of_ble_eq_true rfl)
set_option maxHeartbeats 4000000 in
set_option maxRecDepth 100000 in
theorem x_Cl_send_s (l : Launch) (hlT : l.stackTraces = false) (D : va_G) (ca : Nat → ClassId) (x ss : Nat) (fs : Nat → Option Nat) (x₀ : Int32) (hsx : x₀ < 0 ∨ nI 2 ≤ x₀) (y₀ v₁ b₁ : Int32) : CoX l yCl_send (Cond.code yCl_send cCl_send 9 (some FieldType.boolean) :: tb_) { frames := 8, cells := 1, slots := 6, locals := 256 } D ca [.ref x, .int x₀, .int y₀, .int v₁, .int b₁] [(x, .inr (3, [.ref ss])), (ss, .inl (ca 2, 2, .inr (.inr (.inr (.inr fs)))))] "java/lang/IndexOutOfBoundsException" 1 6 := by
  refine CoX.of cCl_send 9 (some FieldType.boolean) (by decide) (Nat.le_of_ble_eq_true rfl) ?_
  intro p e s m args below meth c A ls fx hret hlk hnt hE hZ hP hD hS hA hl
  have hx := fx.1
  have hb := fx.2.1
  have hown : s.vm.findClass RCl = some m.cls := fx.2.2.2.1
  have hts := fx.2.2.2.2
  have ht : ∀ w ∈ tb_, w.before args s = true := fun w h => hts w (List.mem_cons_of_mem _ h)
  have hl : lv_has ls 9 [(0, .ref x), (1, .int x₀), (2, .int y₀), (3, .int v₁), (4, .int b₁)] := hl
  refine lv_aload_n hx hb dCl_send_0 rfl (lv_at hl 0 rfl) ?_
  refine lv_iload_n hx hb dCl_send_1 rfl (lv_at hl 1 rfl) ?_
  refine kX (xV fx (x_Cl_stationAt l hlT D ca x ss fs x₀ hsx) ⟨callB_of 1 hts (tb_gi tw_143) rfl rfl rfl (ht _ tw_1) (ht _ tw_140) (by decide +kernel) ⟨(Nat.le_of_ble_eq_true rfl), (Nat.le_of_ble_eq_true rfl)⟩, ht _ tw_142, ht _ tw_826⟩ hE hZ hP hD hS hA 0 rfl rfl rfl [0, 1] rfl rfl rfl hl.1 rfl (Nat.le_of_ble_eq_true rfl) dCl_send_2 ⟨(Nat.le_of_ble_eq_true rfl), (Nat.le_of_ble_eq_true rfl)⟩) hP hD hS hA [0, 1] [] rfl rfl rfl (by decide) (fun ce q9 H locs hP hD hS hce hcv hcl => ?_)
  have hP : va_P D cls_ [(x, .inr (3, [.ref ss])), (ss, .inl (ca 2, 2, .inr (.inr (.inr (.inr fs)))))] H := hP
  have hD : va_D A [(x, .inr (3, [.ref ss])), (ss, .inl (ca 2, 2, .inr (.inr (.inr (.inr fs)))))] := hD
  exact xout hnt hlk hce hcv hcl hP hD hS (Nat.le_of_ble_eq_true rfl) (Nat.le_of_ble_eq_true rfl)
set_option maxHeartbeats 4000000 in
set_option maxRecDepth 100000 in
theorem x_Cl_receive_s (l : Launch) (hlT : l.stackTraces = false) (D : va_G) (ca : Nat → ClassId) (x ss : Nat) (fs : Nat → Option Nat) (x₀ : Int32) (hsx : x₀ < 0 ∨ nI 2 ≤ x₀) (y₀ : Int32) : CoX l yCl_receive (Cond.code yCl_receive cCl_receive 6 (some FieldType.int) :: tb_) { frames := 8, cells := 1, slots := 6, locals := 256 } D ca [.ref x, .int x₀, .int y₀] [(x, .inr (3, [.ref ss])), (ss, .inl (ca 2, 2, .inr (.inr (.inr (.inr fs)))))] "java/lang/IndexOutOfBoundsException" 1 6 := by
  refine CoX.of cCl_receive 6 (some FieldType.int) (by decide) (Nat.le_of_ble_eq_true rfl) ?_
  intro p e s m args below meth c A ls fx hret hlk hnt hE hZ hP hD hS hA hl
  have hx := fx.1
  have hb := fx.2.1
  have hown : s.vm.findClass RCl = some m.cls := fx.2.2.2.1
  have hts := fx.2.2.2.2
  have ht : ∀ w ∈ tb_, w.before args s = true := fun w h => hts w (List.mem_cons_of_mem _ h)
  have hl : lv_has ls 6 [(0, .ref x), (1, .int x₀), (2, .int y₀)] := hl
  refine lv_aload_n hx hb dCl_receive_0 rfl (lv_at hl 0 rfl) ?_
  refine lv_iload_n hx hb dCl_receive_1 rfl (lv_at hl 1 rfl) ?_
  refine kX (xV fx (x_Cl_stationAt l hlT D ca x ss fs x₀ hsx) ⟨callB_of 1 hts (tb_gi tw_143) rfl rfl rfl (ht _ tw_1) (ht _ tw_140) (by decide +kernel) ⟨(Nat.le_of_ble_eq_true rfl), (Nat.le_of_ble_eq_true rfl)⟩, ht _ tw_142, ht _ tw_826⟩ hE hZ hP hD hS hA 0 rfl rfl rfl [0, 1] rfl rfl rfl hl.1 rfl (Nat.le_of_ble_eq_true rfl) dCl_receive_2 ⟨(Nat.le_of_ble_eq_true rfl), (Nat.le_of_ble_eq_true rfl)⟩) hP hD hS hA [0, 1] [] rfl rfl rfl (by decide) (fun ce q9 H locs hP hD hS hce hcv hcl => ?_)
  have hP : va_P D cls_ [(x, .inr (3, [.ref ss])), (ss, .inl (ca 2, 2, .inr (.inr (.inr (.inr fs)))))] H := hP
  have hD : va_D A [(x, .inr (3, [.ref ss])), (ss, .inl (ca 2, 2, .inr (.inr (.inr (.inr fs)))))] := hD
  exact xout hnt hlk hce hcv hcl hP hD hS (Nat.le_of_ble_eq_true rfl) (Nat.le_of_ble_eq_true rfl)
set_option maxHeartbeats 4000000 in
set_option maxRecDepth 100000 in
theorem x_Cl_link_s (l : Launch) (hlT : l.stackTraces = false) (D : va_G) (ca : Nat → ClassId) (x ss : Nat) (fs : Nat → Option Nat) (x₀ : Int32) (hsx : x₀ < 0 ∨ nI 2 ≤ x₀) (y₀ : Int32) : CoX l yCl_link (Cond.code yCl_link cCl_link 4 (some FieldType.int) :: tb_) { frames := 8, cells := 1, slots := 6, locals := 256 } D ca [.ref x, .int x₀, .int y₀] [(x, .inr (3, [.ref ss])), (ss, .inl (ca 2, 2, .inr (.inr (.inr (.inr fs)))))] "java/lang/IndexOutOfBoundsException" 1 6 := by
  refine CoX.of cCl_link 4 (some FieldType.int) (by decide) (Nat.le_of_ble_eq_true rfl) ?_
  intro p e s m args below meth c A ls fx hret hlk hnt hE hZ hP hD hS hA hl
  have hx := fx.1
  have hb := fx.2.1
  have hown : s.vm.findClass RCl = some m.cls := fx.2.2.2.1
  have hts := fx.2.2.2.2
  have ht : ∀ w ∈ tb_, w.before args s = true := fun w h => hts w (List.mem_cons_of_mem _ h)
  have hl : lv_has ls 4 [(0, .ref x), (1, .int x₀), (2, .int y₀)] := hl
  refine lv_aload_n hx hb dCl_link_0 rfl (lv_at hl 0 rfl) ?_
  refine lv_iload_n hx hb dCl_link_1 rfl (lv_at hl 1 rfl) ?_
  refine kX (xV fx (x_Cl_stationAt l hlT D ca x ss fs x₀ hsx) ⟨callB_of 1 hts (tb_gi tw_143) rfl rfl rfl (ht _ tw_1) (ht _ tw_140) (by decide +kernel) ⟨(Nat.le_of_ble_eq_true rfl), (Nat.le_of_ble_eq_true rfl)⟩, ht _ tw_142, ht _ tw_826⟩ hE hZ hP hD hS hA 0 rfl rfl rfl [0, 1] rfl rfl rfl hl.1 rfl (Nat.le_of_ble_eq_true rfl) dCl_link_2 ⟨(Nat.le_of_ble_eq_true rfl), (Nat.le_of_ble_eq_true rfl)⟩) hP hD hS hA [0, 1] [] rfl rfl rfl (by decide) (fun ce q9 H locs hP hD hS hce hcv hcl => ?_)
  have hP : va_P D cls_ [(x, .inr (3, [.ref ss])), (ss, .inl (ca 2, 2, .inr (.inr (.inr (.inr fs)))))] H := hP
  have hD : va_D A [(x, .inr (3, [.ref ss])), (ss, .inl (ca 2, 2, .inr (.inr (.inr (.inr fs)))))] := hD
  exact xout hnt hlk hce hcv hcl hP hD hS (Nat.le_of_ble_eq_true rfl) (Nat.le_of_ble_eq_true rfl)
set_option maxHeartbeats 4000000 in
set_option maxRecDepth 100000 in
theorem x_Cl_channel_s (l : Launch) (hlT : l.stackTraces = false) (D : va_G) (ca : Nat → ClassId) (x ss : Nat) (fs : Nat → Option Nat) (x₀ : Int32) (hsx : x₀ < 0 ∨ nI 2 ≤ x₀) (y₀ w₁ : Int32) : CoX l yCl_channel (Cond.code yCl_channel cCl_channel 5 (some FieldType.int) :: tb_) { frames := 8, cells := 1, slots := 6, locals := 256 } D ca [.ref x, .int x₀, .int y₀, .int w₁] [(x, .inr (3, [.ref ss])), (ss, .inl (ca 2, 2, .inr (.inr (.inr (.inr fs)))))] "java/lang/IndexOutOfBoundsException" 1 6 := by
  refine CoX.of cCl_channel 5 (some FieldType.int) (by decide) (Nat.le_of_ble_eq_true rfl) ?_
  intro p e s m args below meth c A ls fx hret hlk hnt hE hZ hP hD hS hA hl
  have hx := fx.1
  have hb := fx.2.1
  have hown : s.vm.findClass RCl = some m.cls := fx.2.2.2.1
  have hts := fx.2.2.2.2
  have ht : ∀ w ∈ tb_, w.before args s = true := fun w h => hts w (List.mem_cons_of_mem _ h)
  have hl : lv_has ls 5 [(0, .ref x), (1, .int x₀), (2, .int y₀), (3, .int w₁)] := hl
  refine lv_aload_n hx hb dCl_channel_0 rfl (lv_at hl 0 rfl) ?_
  refine lv_iload_n hx hb dCl_channel_1 rfl (lv_at hl 1 rfl) ?_
  refine kX (xV fx (x_Cl_stationAt l hlT D ca x ss fs x₀ hsx) ⟨callB_of 1 hts (tb_gi tw_143) rfl rfl rfl (ht _ tw_1) (ht _ tw_140) (by decide +kernel) ⟨(Nat.le_of_ble_eq_true rfl), (Nat.le_of_ble_eq_true rfl)⟩, ht _ tw_142, ht _ tw_826⟩ hE hZ hP hD hS hA 0 rfl rfl rfl [0, 1] rfl rfl rfl hl.1 rfl (Nat.le_of_ble_eq_true rfl) dCl_channel_2 ⟨(Nat.le_of_ble_eq_true rfl), (Nat.le_of_ble_eq_true rfl)⟩) hP hD hS hA [0, 1] [] rfl rfl rfl (by decide) (fun ce q9 H locs hP hD hS hce hcv hcl => ?_)
  have hP : va_P D cls_ [(x, .inr (3, [.ref ss])), (ss, .inl (ca 2, 2, .inr (.inr (.inr (.inr fs)))))] H := hP
  have hD : va_D A [(x, .inr (3, [.ref ss])), (ss, .inl (ca 2, 2, .inr (.inr (.inr (.inr fs)))))] := hD
  exact xout hnt hlk hce hcv hcl hP hD hS (Nat.le_of_ble_eq_true rfl) (Nat.le_of_ble_eq_true rfl)
set_option maxHeartbeats 4000000 in
set_option maxRecDepth 100000 in
theorem x_Cl_frame_s (l : Launch) (hlT : l.stackTraces = false) (D : va_G) (ca : Nat → ClassId) (x ss : Nat) (fs : Nat → Option Nat) (x₀ : Int32) (hsx : x₀ < 0 ∨ nI 2 ≤ x₀) (y₀ w₁ : Int32) : CoX l yCl_frame (Cond.code yCl_frame cCl_frame 7 (some FieldType.int) :: tb_) { frames := 8, cells := 1, slots := 6, locals := 256 } D ca [.ref x, .int x₀, .int y₀, .int w₁] [(x, .inr (3, [.ref ss])), (ss, .inl (ca 2, 2, .inr (.inr (.inr (.inr fs)))))] "java/lang/IndexOutOfBoundsException" 1 6 := by
  refine CoX.of cCl_frame 7 (some FieldType.int) (by decide) (Nat.le_of_ble_eq_true rfl) ?_
  intro p e s m args below meth c A ls fx hret hlk hnt hE hZ hP hD hS hA hl
  have hx := fx.1
  have hb := fx.2.1
  have hown : s.vm.findClass RCl = some m.cls := fx.2.2.2.1
  have hts := fx.2.2.2.2
  have ht : ∀ w ∈ tb_, w.before args s = true := fun w h => hts w (List.mem_cons_of_mem _ h)
  have hl : lv_has ls 7 [(0, .ref x), (1, .int x₀), (2, .int y₀), (3, .int w₁)] := hl
  refine lv_aload_n hx hb dCl_frame_0 rfl (lv_at hl 0 rfl) ?_
  refine lv_iload_n hx hb dCl_frame_1 rfl (lv_at hl 1 rfl) ?_
  refine kX (xV fx (x_Cl_stationAt l hlT D ca x ss fs x₀ hsx) ⟨callB_of 1 hts (tb_gi tw_143) rfl rfl rfl (ht _ tw_1) (ht _ tw_140) (by decide +kernel) ⟨(Nat.le_of_ble_eq_true rfl), (Nat.le_of_ble_eq_true rfl)⟩, ht _ tw_142, ht _ tw_826⟩ hE hZ hP hD hS hA 0 rfl rfl rfl [0, 1] rfl rfl rfl hl.1 rfl (Nat.le_of_ble_eq_true rfl) dCl_frame_2 ⟨(Nat.le_of_ble_eq_true rfl), (Nat.le_of_ble_eq_true rfl)⟩) hP hD hS hA [0, 1] [] rfl rfl rfl (by decide) (fun ce q9 H locs hP hD hS hce hcv hcl => ?_)
  have hP : va_P D cls_ [(x, .inr (3, [.ref ss])), (ss, .inl (ca 2, 2, .inr (.inr (.inr (.inr fs)))))] H := hP
  have hD : va_D A [(x, .inr (3, [.ref ss])), (ss, .inl (ca 2, 2, .inr (.inr (.inr (.inr fs)))))] := hD
  exact xout hnt hlk hce hcv hcl hP hD hS (Nat.le_of_ble_eq_true rfl) (Nat.le_of_ble_eq_true rfl)
set_option maxHeartbeats 4000000 in
set_option maxRecDepth 100000 in
theorem x_Cl_peek_s (l : Launch) (hlT : l.stackTraces = false) (D : va_G) (ca : Nat → ClassId) (x ss : Nat) (fs : Nat → Option Nat) (x₀ : Int32) (hsx : x₀ < 0 ∨ nI 2 ≤ x₀) (y₀ : Int32) : CoX l yCl_peek (Cond.code yCl_peek cCl_peek 4 (some FieldType.int) :: tb_) { frames := 8, cells := 1, slots := 6, locals := 256 } D ca [.ref x, .int x₀, .int y₀] [(x, .inr (3, [.ref ss])), (ss, .inl (ca 2, 2, .inr (.inr (.inr (.inr fs)))))] "java/lang/IndexOutOfBoundsException" 1 6 := by
  refine CoX.of cCl_peek 4 (some FieldType.int) (by decide) (Nat.le_of_ble_eq_true rfl) ?_
  intro p e s m args below meth c A ls fx hret hlk hnt hE hZ hP hD hS hA hl
  have hx := fx.1
  have hb := fx.2.1
  have hown : s.vm.findClass RCl = some m.cls := fx.2.2.2.1
  have hts := fx.2.2.2.2
  have ht : ∀ w ∈ tb_, w.before args s = true := fun w h => hts w (List.mem_cons_of_mem _ h)
  have hl : lv_has ls 4 [(0, .ref x), (1, .int x₀), (2, .int y₀)] := hl
  refine lv_aload_n hx hb dCl_peek_0 rfl (lv_at hl 0 rfl) ?_
  refine lv_iload_n hx hb dCl_peek_1 rfl (lv_at hl 1 rfl) ?_
  refine kX (xV fx (x_Cl_stationAt l hlT D ca x ss fs x₀ hsx) ⟨callB_of 1 hts (tb_gi tw_143) rfl rfl rfl (ht _ tw_1) (ht _ tw_140) (by decide +kernel) ⟨(Nat.le_of_ble_eq_true rfl), (Nat.le_of_ble_eq_true rfl)⟩, ht _ tw_142, ht _ tw_826⟩ hE hZ hP hD hS hA 0 rfl rfl rfl [0, 1] rfl rfl rfl hl.1 rfl (Nat.le_of_ble_eq_true rfl) dCl_peek_2 ⟨(Nat.le_of_ble_eq_true rfl), (Nat.le_of_ble_eq_true rfl)⟩) hP hD hS hA [0, 1] [] rfl rfl rfl (by decide) (fun ce q9 H locs hP hD hS hce hcv hcl => ?_)
  have hP : va_P D cls_ [(x, .inr (3, [.ref ss])), (ss, .inl (ca 2, 2, .inr (.inr (.inr (.inr fs)))))] H := hP
  have hD : va_D A [(x, .inr (3, [.ref ss])), (ss, .inl (ca 2, 2, .inr (.inr (.inr (.inr fs)))))] := hD
  exact xout hnt hlk hce hcv hcl hP hD hS (Nat.le_of_ble_eq_true rfl) (Nat.le_of_ble_eq_true rfl)
set_option maxHeartbeats 4000000 in
set_option maxRecDepth 100000 in
theorem x_Cl_hand_c (l : Launch) (hlT : l.stackTraces = false) (D : va_G) (ca : Nat → ClassId) (x ss : Nat) (fs : Nat → Option Nat) (s₀ : Nat) (hs0 : s₀ < 2) (h : Nat) (hfs : fs s₀ = some h) (y₀ : Int32) (hcx : y₀ < 0 ∨ nI 3 ≤ y₀) (k₁ n₁ a₁ : Int32) : CoX l yCl_hand (Cond.code yCl_hand cCl_hand 7 (some FieldType.boolean) :: tb_) { frames := 8, cells := 1, slots := 6, locals := 256 } D ca [.ref x, .int (nI s₀), .int y₀, .int k₁, .int n₁, .int a₁] [(x, .inr (3, [.ref ss])), (ss, .inl (ca 2, 2, .inr (.inr (.inr (.inr fs)))))] "java/lang/IndexOutOfBoundsException" 1 6 := by
  refine CoX.of cCl_hand 7 (some FieldType.boolean) (by decide) (Nat.le_of_ble_eq_true rfl) ?_
  intro p e s m args below meth c A ls fx hret hlk hnt hE hZ hP hD hS hA hl
  have hx := fx.1
  have hb := fx.2.1
  have hown : s.vm.findClass RCl = some m.cls := fx.2.2.2.1
  have hts := fx.2.2.2.2
  have ht : ∀ w ∈ tb_, w.before args s = true := fun w h => hts w (List.mem_cons_of_mem _ h)
  have hl : lv_has ls 7 [(0, .ref x), (1, .int (nI s₀)), (2, .int y₀), (3, .int k₁), (4, .int n₁), (5, .int a₁)] := hl
  refine lv_aload_n hx hb dCl_hand_0 rfl (lv_at hl 0 rfl) ?_
  refine lv_iload_n hx hb dCl_hand_1 rfl (lv_at hl 1 rfl) ?_
  refine kA (rV fx (c_Cl_stationAt l D ca x ss fs s₀ hs0 h hfs) ⟨callB_of 1 hts (tb_gi tw_143) rfl rfl rfl (ht _ tw_1) (ht _ tw_140) (by decide +kernel) ⟨(Nat.le_of_ble_eq_true rfl), (Nat.le_of_ble_eq_true rfl)⟩, ht _ tw_142, ht _ tw_826⟩ hE hP hD 0 rfl rfl rfl [0, 1] rfl rfl rfl hl.1 rfl (Nat.le_of_ble_eq_true rfl) dCl_hand_2 ⟨(Nat.le_of_ble_eq_true rfl), (Nat.le_of_ble_eq_true rfl)⟩) hP hD hS hA [0, 1] [] rfl rfl rfl (by decide) (fun _ H locs _ hP hD hS => ?_)
  have hP : va_P D cls_ [(x, .inr (3, [.ref ss])), (ss, .inl (ca 2, 2, .inr (.inr (.inr (.inr fs)))))] H := hP
  have hD : va_D A [(x, .inr (3, [.ref ss])), (ss, .inl (ca 2, 2, .inr (.inr (.inr (.inr fs)))))] := hD
  refine lv_astore hx hb dCl_hand_5 hl (by decide) rfl (fun ls hl => ?_)
  have hl : lv_has ls 7 [(6, .ref h), (0, .ref x), (1, .int (nI s₀)), (2, .int y₀), (3, .int k₁), (4, .int n₁), (5, .int a₁)] := hl
  refine lv_iload_n hx hb dCl_hand_7 rfl (lv_at hl 3 rfl) ?_
  refine kX (xS fx (x_Cl_requireChannel l hlT D ca y₀ hcx) ⟨callB_of 1 hts (tb_gi tw_457) rfl rfl rfl (ht _ tw_1) (ht _ tw_455) (by decide +kernel) ⟨(Nat.le_of_ble_eq_true rfl), (Nat.le_of_ble_eq_true rfl)⟩, ht _ tw_456⟩ hE hZ hP hD hS hA [] rfl rfl rfl hl.1 rfl (Nat.le_of_ble_eq_true rfl) dCl_hand_8 ⟨(Nat.le_of_ble_eq_true rfl), (Nat.le_of_ble_eq_true rfl)⟩) hP hD hS hA [] [0, 1] rfl rfl rfl (by decide) (fun ce q9 H locs hP hD hS hce hcv hcl => ?_)
  have hP : va_P D cls_ [(x, .inr (3, [.ref ss])), (ss, .inl (ca 2, 2, .inr (.inr (.inr (.inr fs)))))] H := hP
  have hD : va_D A [(x, .inr (3, [.ref ss])), (ss, .inl (ca 2, 2, .inr (.inr (.inr (.inr fs)))))] := hD
  exact xout hnt hlk hce hcv hcl hP hD hS (Nat.le_of_ble_eq_true rfl) (Nat.le_of_ble_eq_true rfl)
set_option maxHeartbeats 4000000 in
set_option maxRecDepth 100000 in
theorem x_Cl_call_c (l : Launch) (hlT : l.stackTraces = false) (D : va_G) (ca : Nat → ClassId) (x ss : Nat) (fs : Nat → Option Nat) (s₀ : Nat) (hs0 : s₀ < 2) (h : Nat) (hfs : fs s₀ = some h) (y₀ : Int32) (hcx : y₀ < 0 ∨ nI 3 ≤ y₀) : CoX l yCl_call (Cond.code yCl_call cCl_call 5 none :: tb_) { frames := 8, cells := 1, slots := 6, locals := 256 } D ca [.ref x, .int (nI s₀), .int y₀] [(x, .inr (3, [.ref ss])), (ss, .inl (ca 2, 2, .inr (.inr (.inr (.inr fs)))))] "java/lang/IndexOutOfBoundsException" 1 6 := by
  refine CoX.of cCl_call 5 none (by decide) (Nat.le_of_ble_eq_true rfl) ?_
  intro p e s m args below meth c A ls fx hret hlk hnt hE hZ hP hD hS hA hl
  have hx := fx.1
  have hb := fx.2.1
  have hown : s.vm.findClass RCl = some m.cls := fx.2.2.2.1
  have hts := fx.2.2.2.2
  have ht : ∀ w ∈ tb_, w.before args s = true := fun w h => hts w (List.mem_cons_of_mem _ h)
  have hl : lv_has ls 5 [(0, .ref x), (1, .int (nI s₀)), (2, .int y₀)] := hl
  refine lv_aload_n hx hb dCl_call_0 rfl (lv_at hl 0 rfl) ?_
  refine lv_iload_n hx hb dCl_call_1 rfl (lv_at hl 1 rfl) ?_
  refine kA (rV fx (c_Cl_stationAt l D ca x ss fs s₀ hs0 h hfs) ⟨callB_of 1 hts (tb_gi tw_143) rfl rfl rfl (ht _ tw_1) (ht _ tw_140) (by decide +kernel) ⟨(Nat.le_of_ble_eq_true rfl), (Nat.le_of_ble_eq_true rfl)⟩, ht _ tw_142, ht _ tw_826⟩ hE hP hD 0 rfl rfl rfl [0, 1] rfl rfl rfl hl.1 rfl (Nat.le_of_ble_eq_true rfl) dCl_call_2 ⟨(Nat.le_of_ble_eq_true rfl), (Nat.le_of_ble_eq_true rfl)⟩) hP hD hS hA [0, 1] [] rfl rfl rfl (by decide) (fun _ H locs _ hP hD hS => ?_)
  have hP : va_P D cls_ [(x, .inr (3, [.ref ss])), (ss, .inl (ca 2, 2, .inr (.inr (.inr (.inr fs)))))] H := hP
  have hD : va_D A [(x, .inr (3, [.ref ss])), (ss, .inl (ca 2, 2, .inr (.inr (.inr (.inr fs)))))] := hD
  refine lv_astore_n hx hb dCl_call_5 rfl hl (by decide) rfl (fun ls hl => ?_)
  have hl : lv_has ls 5 [(3, .ref h), (0, .ref x), (1, .int (nI s₀)), (2, .int y₀)] := hl
  refine lv_aload_n hx hb dCl_call_6 rfl (lv_at hl 0 rfl) ?_
  refine lv_iload_n hx hb dCl_call_7 rfl (lv_at hl 3 rfl) ?_
  refine kX (xS fx (x_Cl_channelAt l hlT D ca h y₀ hcx) ⟨callB_of 2 hts (tb_gi tw_474) rfl rfl rfl (ht _ tw_1) (ht _ tw_472) (by decide +kernel) ⟨(Nat.le_of_ble_eq_true rfl), (Nat.le_of_ble_eq_true rfl)⟩, ht _ tw_473⟩ hE hZ hP hD hS hA [] rfl rfl rfl hl.1 rfl (Nat.le_of_ble_eq_true rfl) dCl_call_8 ⟨(Nat.le_of_ble_eq_true rfl), (Nat.le_of_ble_eq_true rfl)⟩) hP hD hS hA [] [0, 1] rfl rfl rfl (by decide) (fun ce q9 H locs hP hD hS hce hcv hcl => ?_)
  have hP : va_P D cls_ [(x, .inr (3, [.ref ss])), (ss, .inl (ca 2, 2, .inr (.inr (.inr (.inr fs)))))] H := hP
  have hD : va_D A [(x, .inr (3, [.ref ss])), (ss, .inl (ca 2, 2, .inr (.inr (.inr (.inr fs)))))] := hD
  exact xout hnt hlk hce hcv hcl hP hD hS (Nat.le_of_ble_eq_true rfl) (Nat.le_of_ble_eq_true rfl)
set_option maxHeartbeats 4000000 in
set_option maxRecDepth 100000 in
theorem x_Cl_accept_c (l : Launch) (hlT : l.stackTraces = false) (D : va_G) (ca : Nat → ClassId) (x ss : Nat) (fs : Nat → Option Nat) (s₀ : Nat) (hs0 : s₀ < 2) (h : Nat) (hfs : fs s₀ = some h) (y₀ : Int32) (hcx : y₀ < 0 ∨ nI 3 ≤ y₀) : CoX l yCl_accept (Cond.code yCl_accept cCl_accept 5 none :: tb_) { frames := 8, cells := 1, slots := 6, locals := 256 } D ca [.ref x, .int (nI s₀), .int y₀] [(x, .inr (3, [.ref ss])), (ss, .inl (ca 2, 2, .inr (.inr (.inr (.inr fs)))))] "java/lang/IndexOutOfBoundsException" 1 6 := by
  refine CoX.of cCl_accept 5 none (by decide) (Nat.le_of_ble_eq_true rfl) ?_
  intro p e s m args below meth c A ls fx hret hlk hnt hE hZ hP hD hS hA hl
  have hx := fx.1
  have hb := fx.2.1
  have hown : s.vm.findClass RCl = some m.cls := fx.2.2.2.1
  have hts := fx.2.2.2.2
  have ht : ∀ w ∈ tb_, w.before args s = true := fun w h => hts w (List.mem_cons_of_mem _ h)
  have hl : lv_has ls 5 [(0, .ref x), (1, .int (nI s₀)), (2, .int y₀)] := hl
  refine lv_aload_n hx hb dCl_accept_0 rfl (lv_at hl 0 rfl) ?_
  refine lv_iload_n hx hb dCl_accept_1 rfl (lv_at hl 1 rfl) ?_
  refine kA (rV fx (c_Cl_stationAt l D ca x ss fs s₀ hs0 h hfs) ⟨callB_of 1 hts (tb_gi tw_143) rfl rfl rfl (ht _ tw_1) (ht _ tw_140) (by decide +kernel) ⟨(Nat.le_of_ble_eq_true rfl), (Nat.le_of_ble_eq_true rfl)⟩, ht _ tw_142, ht _ tw_826⟩ hE hP hD 0 rfl rfl rfl [0, 1] rfl rfl rfl hl.1 rfl (Nat.le_of_ble_eq_true rfl) dCl_accept_2 ⟨(Nat.le_of_ble_eq_true rfl), (Nat.le_of_ble_eq_true rfl)⟩) hP hD hS hA [0, 1] [] rfl rfl rfl (by decide) (fun _ H locs _ hP hD hS => ?_)
  have hP : va_P D cls_ [(x, .inr (3, [.ref ss])), (ss, .inl (ca 2, 2, .inr (.inr (.inr (.inr fs)))))] H := hP
  have hD : va_D A [(x, .inr (3, [.ref ss])), (ss, .inl (ca 2, 2, .inr (.inr (.inr (.inr fs)))))] := hD
  refine lv_astore_n hx hb dCl_accept_5 rfl hl (by decide) rfl (fun ls hl => ?_)
  have hl : lv_has ls 5 [(3, .ref h), (0, .ref x), (1, .int (nI s₀)), (2, .int y₀)] := hl
  refine lv_aload_n hx hb dCl_accept_6 rfl (lv_at hl 0 rfl) ?_
  refine lv_iload_n hx hb dCl_accept_7 rfl (lv_at hl 3 rfl) ?_
  refine kX (xS fx (x_Cl_channelAt l hlT D ca h y₀ hcx) ⟨callB_of 2 hts (tb_gi tw_474) rfl rfl rfl (ht _ tw_1) (ht _ tw_472) (by decide +kernel) ⟨(Nat.le_of_ble_eq_true rfl), (Nat.le_of_ble_eq_true rfl)⟩, ht _ tw_473⟩ hE hZ hP hD hS hA [] rfl rfl rfl hl.1 rfl (Nat.le_of_ble_eq_true rfl) dCl_accept_8 ⟨(Nat.le_of_ble_eq_true rfl), (Nat.le_of_ble_eq_true rfl)⟩) hP hD hS hA [] [0, 1] rfl rfl rfl (by decide) (fun ce q9 H locs hP hD hS hce hcv hcl => ?_)
  have hP : va_P D cls_ [(x, .inr (3, [.ref ss])), (ss, .inl (ca 2, 2, .inr (.inr (.inr (.inr fs)))))] H := hP
  have hD : va_D A [(x, .inr (3, [.ref ss])), (ss, .inl (ca 2, 2, .inr (.inr (.inr (.inr fs)))))] := hD
  exact xout hnt hlk hce hcv hcl hP hD hS (Nat.le_of_ble_eq_true rfl) (Nat.le_of_ble_eq_true rfl)
set_option maxHeartbeats 4000000 in
set_option maxRecDepth 100000 in
theorem x_Cl_clear_c (l : Launch) (hlT : l.stackTraces = false) (D : va_G) (ca : Nat → ClassId) (x ss : Nat) (fs : Nat → Option Nat) (s₀ : Nat) (hs0 : s₀ < 2) (h : Nat) (hfs : fs s₀ = some h) (y₀ : Int32) (hcx : y₀ < 0 ∨ nI 3 ≤ y₀) : CoX l yCl_clear (Cond.code yCl_clear cCl_clear 6 none :: tb_) { frames := 8, cells := 1, slots := 6, locals := 256 } D ca [.ref x, .int (nI s₀), .int y₀] [(x, .inr (3, [.ref ss])), (ss, .inl (ca 2, 2, .inr (.inr (.inr (.inr fs)))))] "java/lang/IndexOutOfBoundsException" 1 6 := by
  refine CoX.of cCl_clear 6 none (by decide) (Nat.le_of_ble_eq_true rfl) ?_
  intro p e s m args below meth c A ls fx hret hlk hnt hE hZ hP hD hS hA hl
  have hx := fx.1
  have hb := fx.2.1
  have hown : s.vm.findClass RCl = some m.cls := fx.2.2.2.1
  have hts := fx.2.2.2.2
  have ht : ∀ w ∈ tb_, w.before args s = true := fun w h => hts w (List.mem_cons_of_mem _ h)
  have hl : lv_has ls 6 [(0, .ref x), (1, .int (nI s₀)), (2, .int y₀)] := hl
  refine lv_aload_n hx hb dCl_clear_0 rfl (lv_at hl 0 rfl) ?_
  refine lv_iload_n hx hb dCl_clear_1 rfl (lv_at hl 1 rfl) ?_
  refine kA (rV fx (c_Cl_stationAt l D ca x ss fs s₀ hs0 h hfs) ⟨callB_of 1 hts (tb_gi tw_143) rfl rfl rfl (ht _ tw_1) (ht _ tw_140) (by decide +kernel) ⟨(Nat.le_of_ble_eq_true rfl), (Nat.le_of_ble_eq_true rfl)⟩, ht _ tw_142, ht _ tw_826⟩ hE hP hD 0 rfl rfl rfl [0, 1] rfl rfl rfl hl.1 rfl (Nat.le_of_ble_eq_true rfl) dCl_clear_2 ⟨(Nat.le_of_ble_eq_true rfl), (Nat.le_of_ble_eq_true rfl)⟩) hP hD hS hA [0, 1] [] rfl rfl rfl (by decide) (fun _ H locs _ hP hD hS => ?_)
  have hP : va_P D cls_ [(x, .inr (3, [.ref ss])), (ss, .inl (ca 2, 2, .inr (.inr (.inr (.inr fs)))))] H := hP
  have hD : va_D A [(x, .inr (3, [.ref ss])), (ss, .inl (ca 2, 2, .inr (.inr (.inr (.inr fs)))))] := hD
  refine lv_astore_n hx hb dCl_clear_5 rfl hl (by decide) rfl (fun ls hl => ?_)
  have hl : lv_has ls 6 [(3, .ref h), (0, .ref x), (1, .int (nI s₀)), (2, .int y₀)] := hl
  refine lv_aload_n hx hb dCl_clear_6 rfl (lv_at hl 0 rfl) ?_
  refine lv_iload_n hx hb dCl_clear_7 rfl (lv_at hl 3 rfl) ?_
  refine kX (xS fx (x_Cl_channelAt l hlT D ca h y₀ hcx) ⟨callB_of 2 hts (tb_gi tw_474) rfl rfl rfl (ht _ tw_1) (ht _ tw_472) (by decide +kernel) ⟨(Nat.le_of_ble_eq_true rfl), (Nat.le_of_ble_eq_true rfl)⟩, ht _ tw_473⟩ hE hZ hP hD hS hA [] rfl rfl rfl hl.1 rfl (Nat.le_of_ble_eq_true rfl) dCl_clear_8 ⟨(Nat.le_of_ble_eq_true rfl), (Nat.le_of_ble_eq_true rfl)⟩) hP hD hS hA [] [0, 1] rfl rfl rfl (by decide) (fun ce q9 H locs hP hD hS hce hcv hcl => ?_)
  have hP : va_P D cls_ [(x, .inr (3, [.ref ss])), (ss, .inl (ca 2, 2, .inr (.inr (.inr (.inr fs)))))] H := hP
  have hD : va_D A [(x, .inr (3, [.ref ss])), (ss, .inl (ca 2, 2, .inr (.inr (.inr (.inr fs)))))] := hD
  exact xout hnt hlk hce hcv hcl hP hD hS (Nat.le_of_ble_eq_true rfl) (Nat.le_of_ble_eq_true rfl)
set_option maxHeartbeats 4000000 in
set_option maxRecDepth 100000 in
theorem x_Cl_reset_c (l : Launch) (hlT : l.stackTraces = false) (D : va_G) (ca : Nat → ClassId) (x ss : Nat) (fs : Nat → Option Nat) (s₀ : Nat) (hs0 : s₀ < 2) (h : Nat) (hfs : fs s₀ = some h) (y₀ : Int32) (hcx : y₀ < 0 ∨ nI 3 ≤ y₀) : CoX l yCl_reset (Cond.code yCl_reset cCl_reset 5 none :: tb_) { frames := 8, cells := 1, slots := 6, locals := 256 } D ca [.ref x, .int (nI s₀), .int y₀] [(x, .inr (3, [.ref ss])), (ss, .inl (ca 2, 2, .inr (.inr (.inr (.inr fs)))))] "java/lang/IndexOutOfBoundsException" 1 6 := by
  refine CoX.of cCl_reset 5 none (by decide) (Nat.le_of_ble_eq_true rfl) ?_
  intro p e s m args below meth c A ls fx hret hlk hnt hE hZ hP hD hS hA hl
  have hx := fx.1
  have hb := fx.2.1
  have hown : s.vm.findClass RCl = some m.cls := fx.2.2.2.1
  have hts := fx.2.2.2.2
  have ht : ∀ w ∈ tb_, w.before args s = true := fun w h => hts w (List.mem_cons_of_mem _ h)
  have hl : lv_has ls 5 [(0, .ref x), (1, .int (nI s₀)), (2, .int y₀)] := hl
  refine lv_aload_n hx hb dCl_reset_0 rfl (lv_at hl 0 rfl) ?_
  refine lv_iload_n hx hb dCl_reset_1 rfl (lv_at hl 1 rfl) ?_
  refine kA (rV fx (c_Cl_stationAt l D ca x ss fs s₀ hs0 h hfs) ⟨callB_of 1 hts (tb_gi tw_143) rfl rfl rfl (ht _ tw_1) (ht _ tw_140) (by decide +kernel) ⟨(Nat.le_of_ble_eq_true rfl), (Nat.le_of_ble_eq_true rfl)⟩, ht _ tw_142, ht _ tw_826⟩ hE hP hD 0 rfl rfl rfl [0, 1] rfl rfl rfl hl.1 rfl (Nat.le_of_ble_eq_true rfl) dCl_reset_2 ⟨(Nat.le_of_ble_eq_true rfl), (Nat.le_of_ble_eq_true rfl)⟩) hP hD hS hA [0, 1] [] rfl rfl rfl (by decide) (fun _ H locs _ hP hD hS => ?_)
  have hP : va_P D cls_ [(x, .inr (3, [.ref ss])), (ss, .inl (ca 2, 2, .inr (.inr (.inr (.inr fs)))))] H := hP
  have hD : va_D A [(x, .inr (3, [.ref ss])), (ss, .inl (ca 2, 2, .inr (.inr (.inr (.inr fs)))))] := hD
  refine lv_astore_n hx hb dCl_reset_5 rfl hl (by decide) rfl (fun ls hl => ?_)
  have hl : lv_has ls 5 [(3, .ref h), (0, .ref x), (1, .int (nI s₀)), (2, .int y₀)] := hl
  refine lv_aload_n hx hb dCl_reset_6 rfl (lv_at hl 0 rfl) ?_
  refine lv_iload_n hx hb dCl_reset_7 rfl (lv_at hl 3 rfl) ?_
  refine kX (xS fx (x_Cl_channelAt l hlT D ca h y₀ hcx) ⟨callB_of 2 hts (tb_gi tw_474) rfl rfl rfl (ht _ tw_1) (ht _ tw_472) (by decide +kernel) ⟨(Nat.le_of_ble_eq_true rfl), (Nat.le_of_ble_eq_true rfl)⟩, ht _ tw_473⟩ hE hZ hP hD hS hA [] rfl rfl rfl hl.1 rfl (Nat.le_of_ble_eq_true rfl) dCl_reset_8 ⟨(Nat.le_of_ble_eq_true rfl), (Nat.le_of_ble_eq_true rfl)⟩) hP hD hS hA [] [0, 1] rfl rfl rfl (by decide) (fun ce q9 H locs hP hD hS hce hcv hcl => ?_)
  have hP : va_P D cls_ [(x, .inr (3, [.ref ss])), (ss, .inl (ca 2, 2, .inr (.inr (.inr (.inr fs)))))] H := hP
  have hD : va_D A [(x, .inr (3, [.ref ss])), (ss, .inl (ca 2, 2, .inr (.inr (.inr (.inr fs)))))] := hD
  exact xout hnt hlk hce hcv hcl hP hD hS (Nat.le_of_ble_eq_true rfl) (Nat.le_of_ble_eq_true rfl)
set_option maxHeartbeats 4000000 in
set_option maxRecDepth 100000 in
theorem x_Cl_send_c (l : Launch) (hlT : l.stackTraces = false) (D : va_G) (ca : Nat → ClassId) (x ss : Nat) (fs : Nat → Option Nat) (s₀ : Nat) (hs0 : s₀ < 2) (h : Nat) (hfs : fs s₀ = some h) (y₀ : Int32) (hcx : y₀ < 0 ∨ nI 3 ≤ y₀) (v₁ b₁ : Int32) : CoX l yCl_send (Cond.code yCl_send cCl_send 9 (some FieldType.boolean) :: tb_) { frames := 8, cells := 1, slots := 6, locals := 256 } D ca [.ref x, .int (nI s₀), .int y₀, .int v₁, .int b₁] [(x, .inr (3, [.ref ss])), (ss, .inl (ca 2, 2, .inr (.inr (.inr (.inr fs)))))] "java/lang/IndexOutOfBoundsException" 1 6 := by
  refine CoX.of cCl_send 9 (some FieldType.boolean) (by decide) (Nat.le_of_ble_eq_true rfl) ?_
  intro p e s m args below meth c A ls fx hret hlk hnt hE hZ hP hD hS hA hl
  have hx := fx.1
  have hb := fx.2.1
  have hown : s.vm.findClass RCl = some m.cls := fx.2.2.2.1
  have hts := fx.2.2.2.2
  have ht : ∀ w ∈ tb_, w.before args s = true := fun w h => hts w (List.mem_cons_of_mem _ h)
  have hl : lv_has ls 9 [(0, .ref x), (1, .int (nI s₀)), (2, .int y₀), (3, .int v₁), (4, .int b₁)] := hl
  refine lv_aload_n hx hb dCl_send_0 rfl (lv_at hl 0 rfl) ?_
  refine lv_iload_n hx hb dCl_send_1 rfl (lv_at hl 1 rfl) ?_
  refine kA (rV fx (c_Cl_stationAt l D ca x ss fs s₀ hs0 h hfs) ⟨callB_of 1 hts (tb_gi tw_143) rfl rfl rfl (ht _ tw_1) (ht _ tw_140) (by decide +kernel) ⟨(Nat.le_of_ble_eq_true rfl), (Nat.le_of_ble_eq_true rfl)⟩, ht _ tw_142, ht _ tw_826⟩ hE hP hD 0 rfl rfl rfl [0, 1] rfl rfl rfl hl.1 rfl (Nat.le_of_ble_eq_true rfl) dCl_send_2 ⟨(Nat.le_of_ble_eq_true rfl), (Nat.le_of_ble_eq_true rfl)⟩) hP hD hS hA [0, 1] [] rfl rfl rfl (by decide) (fun _ H locs _ hP hD hS => ?_)
  have hP : va_P D cls_ [(x, .inr (3, [.ref ss])), (ss, .inl (ca 2, 2, .inr (.inr (.inr (.inr fs)))))] H := hP
  have hD : va_D A [(x, .inr (3, [.ref ss])), (ss, .inl (ca 2, 2, .inr (.inr (.inr (.inr fs)))))] := hD
  refine lv_astore hx hb dCl_send_5 hl (by decide) rfl (fun ls hl => ?_)
  have hl : lv_has ls 9 [(5, .ref h), (0, .ref x), (1, .int (nI s₀)), (2, .int y₀), (3, .int v₁), (4, .int b₁)] := hl
  refine lv_aload hx hb dCl_send_7 (lv_at hl 0 rfl) ?_
  refine lv_iload_n hx hb dCl_send_9 rfl (lv_at hl 3 rfl) ?_
  refine kX (xS fx (x_Cl_channelAt l hlT D ca h y₀ hcx) ⟨callB_of 2 hts (tb_gi tw_474) rfl rfl rfl (ht _ tw_1) (ht _ tw_472) (by decide +kernel) ⟨(Nat.le_of_ble_eq_true rfl), (Nat.le_of_ble_eq_true rfl)⟩, ht _ tw_473⟩ hE hZ hP hD hS hA [] rfl rfl rfl hl.1 rfl (Nat.le_of_ble_eq_true rfl) dCl_send_10 ⟨(Nat.le_of_ble_eq_true rfl), (Nat.le_of_ble_eq_true rfl)⟩) hP hD hS hA [] [0, 1] rfl rfl rfl (by decide) (fun ce q9 H locs hP hD hS hce hcv hcl => ?_)
  have hP : va_P D cls_ [(x, .inr (3, [.ref ss])), (ss, .inl (ca 2, 2, .inr (.inr (.inr (.inr fs)))))] H := hP
  have hD : va_D A [(x, .inr (3, [.ref ss])), (ss, .inl (ca 2, 2, .inr (.inr (.inr (.inr fs)))))] := hD
  exact xout hnt hlk hce hcv hcl hP hD hS (Nat.le_of_ble_eq_true rfl) (Nat.le_of_ble_eq_true rfl)
set_option maxHeartbeats 4000000 in
set_option maxRecDepth 100000 in
theorem x_Cl_receive_c (l : Launch) (hlT : l.stackTraces = false) (D : va_G) (ca : Nat → ClassId) (x ss : Nat) (fs : Nat → Option Nat) (s₀ : Nat) (hs0 : s₀ < 2) (h : Nat) (hfs : fs s₀ = some h) (y₀ : Int32) (hcx : y₀ < 0 ∨ nI 3 ≤ y₀) : CoX l yCl_receive (Cond.code yCl_receive cCl_receive 6 (some FieldType.int) :: tb_) { frames := 8, cells := 1, slots := 6, locals := 256 } D ca [.ref x, .int (nI s₀), .int y₀] [(x, .inr (3, [.ref ss])), (ss, .inl (ca 2, 2, .inr (.inr (.inr (.inr fs)))))] "java/lang/IndexOutOfBoundsException" 1 6 := by
  refine CoX.of cCl_receive 6 (some FieldType.int) (by decide) (Nat.le_of_ble_eq_true rfl) ?_
  intro p e s m args below meth c A ls fx hret hlk hnt hE hZ hP hD hS hA hl
  have hx := fx.1
  have hb := fx.2.1
  have hown : s.vm.findClass RCl = some m.cls := fx.2.2.2.1
  have hts := fx.2.2.2.2
  have ht : ∀ w ∈ tb_, w.before args s = true := fun w h => hts w (List.mem_cons_of_mem _ h)
  have hl : lv_has ls 6 [(0, .ref x), (1, .int (nI s₀)), (2, .int y₀)] := hl
  refine lv_aload_n hx hb dCl_receive_0 rfl (lv_at hl 0 rfl) ?_
  refine lv_iload_n hx hb dCl_receive_1 rfl (lv_at hl 1 rfl) ?_
  refine kA (rV fx (c_Cl_stationAt l D ca x ss fs s₀ hs0 h hfs) ⟨callB_of 1 hts (tb_gi tw_143) rfl rfl rfl (ht _ tw_1) (ht _ tw_140) (by decide +kernel) ⟨(Nat.le_of_ble_eq_true rfl), (Nat.le_of_ble_eq_true rfl)⟩, ht _ tw_142, ht _ tw_826⟩ hE hP hD 0 rfl rfl rfl [0, 1] rfl rfl rfl hl.1 rfl (Nat.le_of_ble_eq_true rfl) dCl_receive_2 ⟨(Nat.le_of_ble_eq_true rfl), (Nat.le_of_ble_eq_true rfl)⟩) hP hD hS hA [0, 1] [] rfl rfl rfl (by decide) (fun _ H locs _ hP hD hS => ?_)
  have hP : va_P D cls_ [(x, .inr (3, [.ref ss])), (ss, .inl (ca 2, 2, .inr (.inr (.inr (.inr fs)))))] H := hP
  have hD : va_D A [(x, .inr (3, [.ref ss])), (ss, .inl (ca 2, 2, .inr (.inr (.inr (.inr fs)))))] := hD
  refine lv_astore_n hx hb dCl_receive_5 rfl hl (by decide) rfl (fun ls hl => ?_)
  have hl : lv_has ls 6 [(3, .ref h), (0, .ref x), (1, .int (nI s₀)), (2, .int y₀)] := hl
  refine lv_aload_n hx hb dCl_receive_6 rfl (lv_at hl 0 rfl) ?_
  refine lv_iload_n hx hb dCl_receive_7 rfl (lv_at hl 3 rfl) ?_
  refine kX (xS fx (x_Cl_channelAt l hlT D ca h y₀ hcx) ⟨callB_of 2 hts (tb_gi tw_474) rfl rfl rfl (ht _ tw_1) (ht _ tw_472) (by decide +kernel) ⟨(Nat.le_of_ble_eq_true rfl), (Nat.le_of_ble_eq_true rfl)⟩, ht _ tw_473⟩ hE hZ hP hD hS hA [] rfl rfl rfl hl.1 rfl (Nat.le_of_ble_eq_true rfl) dCl_receive_8 ⟨(Nat.le_of_ble_eq_true rfl), (Nat.le_of_ble_eq_true rfl)⟩) hP hD hS hA [] [0, 1] rfl rfl rfl (by decide) (fun ce q9 H locs hP hD hS hce hcv hcl => ?_)
  have hP : va_P D cls_ [(x, .inr (3, [.ref ss])), (ss, .inl (ca 2, 2, .inr (.inr (.inr (.inr fs)))))] H := hP
  have hD : va_D A [(x, .inr (3, [.ref ss])), (ss, .inl (ca 2, 2, .inr (.inr (.inr (.inr fs)))))] := hD
  exact xout hnt hlk hce hcv hcl hP hD hS (Nat.le_of_ble_eq_true rfl) (Nat.le_of_ble_eq_true rfl)
set_option maxHeartbeats 4000000 in
set_option maxRecDepth 100000 in
theorem x_Cl_channel_c (l : Launch) (hlT : l.stackTraces = false) (D : va_G) (ca : Nat → ClassId) (x ss : Nat) (fs : Nat → Option Nat) (s₀ : Nat) (hs0 : s₀ < 2) (h : Nat) (hfs : fs s₀ = some h) (y₀ : Int32) (hcx : y₀ < 0 ∨ nI 3 ≤ y₀) (w₁ : Int32) : CoX l yCl_channel (Cond.code yCl_channel cCl_channel 5 (some FieldType.int) :: tb_) { frames := 8, cells := 1, slots := 6, locals := 256 } D ca [.ref x, .int (nI s₀), .int y₀, .int w₁] [(x, .inr (3, [.ref ss])), (ss, .inl (ca 2, 2, .inr (.inr (.inr (.inr fs)))))] "java/lang/IndexOutOfBoundsException" 1 6 := by
  refine CoX.of cCl_channel 5 (some FieldType.int) (by decide) (Nat.le_of_ble_eq_true rfl) ?_
  intro p e s m args below meth c A ls fx hret hlk hnt hE hZ hP hD hS hA hl
  have hx := fx.1
  have hb := fx.2.1
  have hown : s.vm.findClass RCl = some m.cls := fx.2.2.2.1
  have hts := fx.2.2.2.2
  have ht : ∀ w ∈ tb_, w.before args s = true := fun w h => hts w (List.mem_cons_of_mem _ h)
  have hl : lv_has ls 5 [(0, .ref x), (1, .int (nI s₀)), (2, .int y₀), (3, .int w₁)] := hl
  refine lv_aload_n hx hb dCl_channel_0 rfl (lv_at hl 0 rfl) ?_
  refine lv_iload_n hx hb dCl_channel_1 rfl (lv_at hl 1 rfl) ?_
  refine kA (rV fx (c_Cl_stationAt l D ca x ss fs s₀ hs0 h hfs) ⟨callB_of 1 hts (tb_gi tw_143) rfl rfl rfl (ht _ tw_1) (ht _ tw_140) (by decide +kernel) ⟨(Nat.le_of_ble_eq_true rfl), (Nat.le_of_ble_eq_true rfl)⟩, ht _ tw_142, ht _ tw_826⟩ hE hP hD 0 rfl rfl rfl [0, 1] rfl rfl rfl hl.1 rfl (Nat.le_of_ble_eq_true rfl) dCl_channel_2 ⟨(Nat.le_of_ble_eq_true rfl), (Nat.le_of_ble_eq_true rfl)⟩) hP hD hS hA [0, 1] [] rfl rfl rfl (by decide) (fun _ H locs _ hP hD hS => ?_)
  have hP : va_P D cls_ [(x, .inr (3, [.ref ss])), (ss, .inl (ca 2, 2, .inr (.inr (.inr (.inr fs)))))] H := hP
  have hD : va_D A [(x, .inr (3, [.ref ss])), (ss, .inl (ca 2, 2, .inr (.inr (.inr (.inr fs)))))] := hD
  refine lv_iload_n hx hb dCl_channel_5 rfl (lv_at hl 2 rfl) ?_
  refine kX (xS fx (x_Cl_channelAt l hlT D ca h y₀ hcx) ⟨callB_of 2 hts (tb_gi tw_474) rfl rfl rfl (ht _ tw_1) (ht _ tw_472) (by decide +kernel) ⟨(Nat.le_of_ble_eq_true rfl), (Nat.le_of_ble_eq_true rfl)⟩, ht _ tw_473⟩ hE hZ hP hD hS hA [] rfl rfl rfl hl.1 rfl (Nat.le_of_ble_eq_true rfl) dCl_channel_6 ⟨(Nat.le_of_ble_eq_true rfl), (Nat.le_of_ble_eq_true rfl)⟩) hP hD hS hA [] [0, 1] rfl rfl rfl (by decide) (fun ce q9 H locs hP hD hS hce hcv hcl => ?_)
  have hP : va_P D cls_ [(x, .inr (3, [.ref ss])), (ss, .inl (ca 2, 2, .inr (.inr (.inr (.inr fs)))))] H := hP
  have hD : va_D A [(x, .inr (3, [.ref ss])), (ss, .inl (ca 2, 2, .inr (.inr (.inr (.inr fs)))))] := hD
  exact xout hnt hlk hce hcv hcl hP hD hS (Nat.le_of_ble_eq_true rfl) (Nat.le_of_ble_eq_true rfl)
set_option maxHeartbeats 4000000 in
set_option maxRecDepth 100000 in
theorem x_Cl_peek_c (l : Launch) (hlT : l.stackTraces = false) (D : va_G) (ca : Nat → ClassId) (x ss : Nat) (fs : Nat → Option Nat) (s₀ : Nat) (hs0 : s₀ < 2) (h : Nat) (hfs : fs s₀ = some h) (y₀ : Int32) (hcx : y₀ < 0 ∨ nI 3 ≤ y₀) : CoX l yCl_peek (Cond.code yCl_peek cCl_peek 4 (some FieldType.int) :: tb_) { frames := 8, cells := 1, slots := 6, locals := 256 } D ca [.ref x, .int (nI s₀), .int y₀] [(x, .inr (3, [.ref ss])), (ss, .inl (ca 2, 2, .inr (.inr (.inr (.inr fs)))))] "java/lang/IndexOutOfBoundsException" 1 6 := by
  refine CoX.of cCl_peek 4 (some FieldType.int) (by decide) (Nat.le_of_ble_eq_true rfl) ?_
  intro p e s m args below meth c A ls fx hret hlk hnt hE hZ hP hD hS hA hl
  have hx := fx.1
  have hb := fx.2.1
  have hown : s.vm.findClass RCl = some m.cls := fx.2.2.2.1
  have hts := fx.2.2.2.2
  have ht : ∀ w ∈ tb_, w.before args s = true := fun w h => hts w (List.mem_cons_of_mem _ h)
  have hl : lv_has ls 4 [(0, .ref x), (1, .int (nI s₀)), (2, .int y₀)] := hl
  refine lv_aload_n hx hb dCl_peek_0 rfl (lv_at hl 0 rfl) ?_
  refine lv_iload_n hx hb dCl_peek_1 rfl (lv_at hl 1 rfl) ?_
  refine kA (rV fx (c_Cl_stationAt l D ca x ss fs s₀ hs0 h hfs) ⟨callB_of 1 hts (tb_gi tw_143) rfl rfl rfl (ht _ tw_1) (ht _ tw_140) (by decide +kernel) ⟨(Nat.le_of_ble_eq_true rfl), (Nat.le_of_ble_eq_true rfl)⟩, ht _ tw_142, ht _ tw_826⟩ hE hP hD 0 rfl rfl rfl [0, 1] rfl rfl rfl hl.1 rfl (Nat.le_of_ble_eq_true rfl) dCl_peek_2 ⟨(Nat.le_of_ble_eq_true rfl), (Nat.le_of_ble_eq_true rfl)⟩) hP hD hS hA [0, 1] [] rfl rfl rfl (by decide) (fun _ H locs _ hP hD hS => ?_)
  have hP : va_P D cls_ [(x, .inr (3, [.ref ss])), (ss, .inl (ca 2, 2, .inr (.inr (.inr (.inr fs)))))] H := hP
  have hD : va_D A [(x, .inr (3, [.ref ss])), (ss, .inl (ca 2, 2, .inr (.inr (.inr (.inr fs)))))] := hD
  refine lv_iload_n hx hb dCl_peek_5 rfl (lv_at hl 2 rfl) ?_
  refine kX (xS fx (x_Cl_channelAt l hlT D ca h y₀ hcx) ⟨callB_of 2 hts (tb_gi tw_474) rfl rfl rfl (ht _ tw_1) (ht _ tw_472) (by decide +kernel) ⟨(Nat.le_of_ble_eq_true rfl), (Nat.le_of_ble_eq_true rfl)⟩, ht _ tw_473⟩ hE hZ hP hD hS hA [] rfl rfl rfl hl.1 rfl (Nat.le_of_ble_eq_true rfl) dCl_peek_6 ⟨(Nat.le_of_ble_eq_true rfl), (Nat.le_of_ble_eq_true rfl)⟩) hP hD hS hA [] [0, 1] rfl rfl rfl (by decide) (fun ce q9 H locs hP hD hS hce hcv hcl => ?_)
  have hP : va_P D cls_ [(x, .inr (3, [.ref ss])), (ss, .inl (ca 2, 2, .inr (.inr (.inr (.inr fs)))))] H := hP
  have hD : va_D A [(x, .inr (3, [.ref ss])), (ss, .inl (ca 2, 2, .inr (.inr (.inr (.inr fs)))))] := hD
  exact xout hnt hlk hce hcv hcl hP hD hS (Nat.le_of_ble_eq_true rfl) (Nat.le_of_ble_eq_true rfl)
set_option maxHeartbeats 4000000 in
set_option maxRecDepth 100000 in
theorem x_Cl_expire (l : Launch) (hlT : l.stackTraces = false) (D : va_G) (ca : Nat → ClassId) (x ss : Nat) (fs : Nat → Option Nat) (s₀ : Nat) (hs0 : s₀ < 2) (h ln pe ou cs lk sn ac ex tr rj : Nat) (hfs : fs s₀ = some h) (hlk2 : lk < 3) (hsn : sn < 8) (hac : ac < 8) (hex : ex < 8) (hw : ¬ (lk = 1 ∨ (lk = 2 ∧ 0 < ds ac sn))) : CoX l yCl_expire (Cond.code yCl_expire cCl_expire 3 (some FieldType.int) :: tb_) { frames := 8, cells := 1, slots := 6, locals := 256 } D ca [.ref x, .int (nI s₀)] [(x, .inr (3, [.ref ss])), (ss, .inl (ca 2, 2, .inr (.inr (.inr (.inr fs))))), (h, .inr (2, [.ref ln, .ref pe, .ref ou, .ref cs, .int (nI lk), .int (nI sn), .int (nI ac), .int (nI ex), .int (nI tr), .int (nI rj)]))] "java/lang/IllegalStateException" 1 6 := by
  refine CoX.of cCl_expire 3 (some FieldType.int) (by decide) (Nat.le_of_ble_eq_true rfl) ?_
  intro p e s m args below meth c A ls fx hret hlk hnt hE hZ hP hD hS hA hl
  have hx := fx.1
  have hb := fx.2.1
  have hown : s.vm.findClass RCl = some m.cls := fx.2.2.2.1
  have hts := fx.2.2.2.2
  have ht : ∀ w ∈ tb_, w.before args s = true := fun w h => hts w (List.mem_cons_of_mem _ h)
  have e3 : (if lk = 1 ∨ (lk = 2 ∧ 0 < ds ac sn) then 1 else 0) = 0 := if_neg hw
  have hl : lv_has ls 3 [(0, .ref x), (1, .int (nI s₀))] := hl
  refine lv_aload_n hx hb dCl_expire_0 rfl (lv_at hl 0 rfl) ?_
  refine lv_iload_n hx hb dCl_expire_1 rfl (lv_at hl 1 rfl) ?_
  refine kA (rV fx (c_Cl_stationAt l D ca x ss fs s₀ hs0 h hfs) ⟨callB_of 1 hts (tb_gi tw_143) rfl rfl rfl (ht _ tw_1) (ht _ tw_140) (by decide +kernel) ⟨(Nat.le_of_ble_eq_true rfl), (Nat.le_of_ble_eq_true rfl)⟩, ht _ tw_142, ht _ tw_826⟩ hE hP hD 0 rfl rfl rfl [0, 1] rfl rfl rfl hl.1 rfl (Nat.le_of_ble_eq_true rfl) dCl_expire_2 ⟨(Nat.le_of_ble_eq_true rfl), (Nat.le_of_ble_eq_true rfl)⟩) hP hD hS hA [0, 1] [2] rfl rfl rfl (by decide) (fun _ H locs _ hP hD hS => ?_)
  have hP : va_P D cls_ [(h, .inr (2, [.ref ln, .ref pe, .ref ou, .ref cs, .int (nI lk), .int (nI sn), .int (nI ac), .int (nI ex), .int (nI tr), .int (nI rj)])), (x, .inr (3, [.ref ss])), (ss, .inl (ca 2, 2, .inr (.inr (.inr (.inr fs)))))] H := hP
  have hD : va_D A [(h, .inr (2, [.ref ln, .ref pe, .ref ou, .ref cs, .int (nI lk), .int (nI sn), .int (nI ac), .int (nI ex), .int (nI tr), .int (nI rj)])), (x, .inr (3, [.ref ss])), (ss, .inl (ca 2, 2, .inr (.inr (.inr (.inr fs)))))] := hD
  refine lv_astore_n hx hb dCl_expire_5 rfl hl (by decide) rfl (fun ls hl => ?_)
  have hl : lv_has ls 3 [(2, .ref h), (0, .ref x), (1, .int (nI s₀))] := hl
  refine lv_aload_n hx hb dCl_expire_6 rfl (lv_at hl 0 rfl) ?_
  refine kI (rV fx (c_St_waitsForAnswer l D ca h ln pe ou cs lk sn ac ex tr rj (by omega) (by omega) (by omega) (by omega)) ⟨callB_of 0 hts (tb_gi tw_246) rfl rfl rfl (ht _ tw_3) (ht _ tw_243) (by decide +kernel) ⟨(Nat.le_of_ble_eq_true rfl), (Nat.le_of_ble_eq_true rfl)⟩, ht _ tw_244, ht _ tw_245⟩ hE hP hD 0 rfl rfl rfl [0] rfl rfl rfl hl.1 rfl (Nat.le_of_ble_eq_true rfl) dCl_expire_7 ⟨(Nat.le_of_ble_eq_true rfl), (Nat.le_of_ble_eq_true rfl)⟩) hP hD hS hA [0] [1, 2] rfl rfl rfl (by decide) (fun _ H locs _ hP hD hS => ?_)
  have hP : va_P D cls_ [(x, .inr (3, [.ref ss])), (ss, .inl (ca 2, 2, .inr (.inr (.inr (.inr fs))))), (h, .inr (2, [.ref ln, .ref pe, .ref ou, .ref cs, .int (nI lk), .int (nI sn), .int (nI ac), .int (nI ex), .int (nI tr), .int (nI rj)]))] H := hP
  have hD : va_D A [(x, .inr (3, [.ref ss])), (ss, .inl (ca 2, 2, .inr (.inr (.inr (.inr fs))))), (h, .inr (2, [.ref ln, .ref pe, .ref ou, .ref cs, .int (nI lk), .int (nI sn), .int (nI ac), .int (nI ex), .int (nI tr), .int (nI rj)]))] := hD
  refine k_is (y := nI 0) (by rw [e3]) ?_
  refine kX (xS fx (x_Cl_requireState l hlT D ca) ⟨callB_of 1 hts (tb_gi tw_253) rfl rfl rfl (ht _ tw_1) (ht _ tw_251) (by decide +kernel) ⟨(Nat.le_of_ble_eq_true rfl), (Nat.le_of_ble_eq_true rfl)⟩, ht _ tw_252⟩ hE hZ hP hD hS hA [] rfl rfl rfl hl.1 rfl (Nat.le_of_ble_eq_true rfl) dCl_expire_10 ⟨(Nat.le_of_ble_eq_true rfl), (Nat.le_of_ble_eq_true rfl)⟩) hP hD hS hA [] [0, 1, 2] rfl rfl rfl (by decide) (fun ce q9 H locs hP hD hS hce hcv hcl => ?_)
  have hP : va_P D cls_ [(x, .inr (3, [.ref ss])), (ss, .inl (ca 2, 2, .inr (.inr (.inr (.inr fs))))), (h, .inr (2, [.ref ln, .ref pe, .ref ou, .ref cs, .int (nI lk), .int (nI sn), .int (nI ac), .int (nI ex), .int (nI tr), .int (nI rj)]))] H := hP
  have hD : va_D A [(x, .inr (3, [.ref ss])), (ss, .inl (ca 2, 2, .inr (.inr (.inr (.inr fs))))), (h, .inr (2, [.ref ln, .ref pe, .ref ou, .ref cs, .int (nI lk), .int (nI sn), .int (nI ac), .int (nI ex), .int (nI tr), .int (nI rj)]))] := hD
  exact xout hnt hlk hce hcv hcl hP hD hS (Nat.le_of_ble_eq_true rfl) (Nat.le_of_ble_eq_true rfl)
set_option maxHeartbeats 4000000 in
set_option maxRecDepth 100000 in
theorem x_Cl_call_u (l : Launch) (hlT : l.stackTraces = false) (D : va_G) (ca : Nat → ClassId) (x ss : Nat) (fs : Nat → Option Nat) (s₀ : Nat) (hs0 : s₀ < 2) (h ln pe ou cs lk sn ac ex tr rj : Nat) (oua : Nat) (O : Rw_) (fc : Nat → Option Nat) (q d da y st nx pa du ta : Nat) (r : Rw_) (cn : Nat) (hcn : cn < 3) (hq : fc cn = some q) (hfs : fs s₀ = some h) (hlk2 : lk < 3) (hO1 : O.2 ≤ 16) (hst : st < 6) (hup : ¬ (lk = 2 ∧ O.2 ≤ 9)) : CoX l yCl_call (Cond.code yCl_call cCl_call 5 none :: tb_) { frames := 8, cells := 1, slots := 6, locals := 256 } D ca [.ref x, .int (nI s₀), .int (nI cn)] [(x, .inr (3, [.ref ss])), (ss, .inl (ca 2, 2, .inr (.inr (.inr (.inr fs))))), (h, .inr (2, [.ref ln, .ref pe, .ref ou, .ref cs, .int (nI lk), .int (nI sn), .int (nI ac), .int (nI ex), .int (nI tr), .int (nI rj)])), (ou, .inr (0, [.ref oua, .int (nI O.2)])), (oua, .inl (ca 0, 16, .inl (fun j => nI (O.1 j)))), (cs, .inl (ca 3, 3, .inr (.inr (.inr (.inr fc))))), (q, .inr (1, [.int (nI y), .ref d, .int (nI st), .int (nI nx), .int (nI pa), .int (nI du), .int (nI ta)])), (d, .inr (0, [.ref da, .int (nI r.2)])), (da, .inl (ca 0, 2, .inl (fun j => nI (r.1 j))))] "java/lang/IllegalStateException" 1 6 := by
  refine CoX.of cCl_call 5 none (by decide) (Nat.le_of_ble_eq_true rfl) ?_
  intro p e s m args below meth c A ls fx hret hlk hnt hE hZ hP hD hS hA hl
  have hx := fx.1
  have hb := fx.2.1
  have hown : s.vm.findClass RCl = some m.cls := fx.2.2.2.1
  have hts := fx.2.2.2.2
  have ht : ∀ w ∈ tb_, w.before args s = true := fun w h => hts w (List.mem_cons_of_mem _ h)
  have e3 : (if lk = 2 ∧ O.2 ≤ 9 then 1 else 0) = 0 := if_neg hup
  have hl : lv_has ls 5 [(0, .ref x), (1, .int (nI s₀)), (2, .int (nI cn))] := hl
  refine lv_aload_n hx hb dCl_call_0 rfl (lv_at hl 0 rfl) ?_
  refine lv_iload_n hx hb dCl_call_1 rfl (lv_at hl 1 rfl) ?_
  refine kA (rV fx (c_Cl_stationAt l D ca x ss fs s₀ hs0 h hfs) ⟨callB_of 1 hts (tb_gi tw_143) rfl rfl rfl (ht _ tw_1) (ht _ tw_140) (by decide +kernel) ⟨(Nat.le_of_ble_eq_true rfl), (Nat.le_of_ble_eq_true rfl)⟩, ht _ tw_142, ht _ tw_826⟩ hE hP hD 0 rfl rfl rfl [0, 1] rfl rfl rfl hl.1 rfl (Nat.le_of_ble_eq_true rfl) dCl_call_2 ⟨(Nat.le_of_ble_eq_true rfl), (Nat.le_of_ble_eq_true rfl)⟩) hP hD hS hA [0, 1] [2, 3, 4, 5, 6, 7, 8] rfl rfl rfl (by decide) (fun _ H locs _ hP hD hS => ?_)
  have hP : va_P D cls_ [(h, .inr (2, [.ref ln, .ref pe, .ref ou, .ref cs, .int (nI lk), .int (nI sn), .int (nI ac), .int (nI ex), .int (nI tr), .int (nI rj)])), (ou, .inr (0, [.ref oua, .int (nI O.2)])), (oua, .inl (ca 0, 16, .inl (fun j => nI (O.1 j)))), (cs, .inl (ca 3, 3, .inr (.inr (.inr (.inr fc))))), (q, .inr (1, [.int (nI y), .ref d, .int (nI st), .int (nI nx), .int (nI pa), .int (nI du), .int (nI ta)])), (d, .inr (0, [.ref da, .int (nI r.2)])), (da, .inl (ca 0, 2, .inl (fun j => nI (r.1 j)))), (x, .inr (3, [.ref ss])), (ss, .inl (ca 2, 2, .inr (.inr (.inr (.inr fs)))))] H := hP
  have hD : va_D A [(h, .inr (2, [.ref ln, .ref pe, .ref ou, .ref cs, .int (nI lk), .int (nI sn), .int (nI ac), .int (nI ex), .int (nI tr), .int (nI rj)])), (ou, .inr (0, [.ref oua, .int (nI O.2)])), (oua, .inl (ca 0, 16, .inl (fun j => nI (O.1 j)))), (cs, .inl (ca 3, 3, .inr (.inr (.inr (.inr fc))))), (q, .inr (1, [.int (nI y), .ref d, .int (nI st), .int (nI nx), .int (nI pa), .int (nI du), .int (nI ta)])), (d, .inr (0, [.ref da, .int (nI r.2)])), (da, .inl (ca 0, 2, .inl (fun j => nI (r.1 j)))), (x, .inr (3, [.ref ss])), (ss, .inl (ca 2, 2, .inr (.inr (.inr (.inr fs)))))] := hD
  refine lv_astore_n hx hb dCl_call_5 rfl hl (by decide) rfl (fun ls hl => ?_)
  have hl : lv_has ls 5 [(3, .ref h), (0, .ref x), (1, .int (nI s₀)), (2, .int (nI cn))] := hl
  refine lv_aload_n hx hb dCl_call_6 rfl (lv_at hl 0 rfl) ?_
  refine lv_iload_n hx hb dCl_call_7 rfl (lv_at hl 3 rfl) ?_
  refine kA (rS fx (c_Cl_channelAt l D ca h ln pe ou cs lk sn ac ex tr rj fc cn q (by omega) hq) ⟨callB_of 2 hts (tb_gi tw_474) rfl rfl rfl (ht _ tw_1) (ht _ tw_472) (by decide +kernel) ⟨(Nat.le_of_ble_eq_true rfl), (Nat.le_of_ble_eq_true rfl)⟩, ht _ tw_473⟩ hE hP hD [0, 3] rfl rfl rfl hl.1 rfl (Nat.le_of_ble_eq_true rfl) dCl_call_8 ⟨(Nat.le_of_ble_eq_true rfl), (Nat.le_of_ble_eq_true rfl)⟩) hP hD hS hA [0, 3] [1, 2, 4, 5, 6, 7, 8] rfl rfl rfl (by decide) (fun _ H locs _ hP hD hS => ?_)
  have hP : va_P D cls_ [(ou, .inr (0, [.ref oua, .int (nI O.2)])), (oua, .inl (ca 0, 16, .inl (fun j => nI (O.1 j)))), (q, .inr (1, [.int (nI y), .ref d, .int (nI st), .int (nI nx), .int (nI pa), .int (nI du), .int (nI ta)])), (d, .inr (0, [.ref da, .int (nI r.2)])), (da, .inl (ca 0, 2, .inl (fun j => nI (r.1 j)))), (x, .inr (3, [.ref ss])), (ss, .inl (ca 2, 2, .inr (.inr (.inr (.inr fs))))), (h, .inr (2, [.ref ln, .ref pe, .ref ou, .ref cs, .int (nI lk), .int (nI sn), .int (nI ac), .int (nI ex), .int (nI tr), .int (nI rj)])), (cs, .inl (ca 3, 3, .inr (.inr (.inr (.inr fc)))))] H := hP
  have hD : va_D A [(ou, .inr (0, [.ref oua, .int (nI O.2)])), (oua, .inl (ca 0, 16, .inl (fun j => nI (O.1 j)))), (q, .inr (1, [.int (nI y), .ref d, .int (nI st), .int (nI nx), .int (nI pa), .int (nI du), .int (nI ta)])), (d, .inr (0, [.ref da, .int (nI r.2)])), (da, .inl (ca 0, 2, .inl (fun j => nI (r.1 j)))), (x, .inr (3, [.ref ss])), (ss, .inl (ca 2, 2, .inr (.inr (.inr (.inr fs))))), (h, .inr (2, [.ref ln, .ref pe, .ref ou, .ref cs, .int (nI lk), .int (nI sn), .int (nI ac), .int (nI ex), .int (nI tr), .int (nI rj)])), (cs, .inl (ca 3, 3, .inr (.inr (.inr (.inr fc)))))] := hD
  refine lv_astore hx hb dCl_call_11 hl (by decide) rfl (fun ls hl => ?_)
  have hl : lv_has ls 5 [(4, .ref q), (3, .ref h), (0, .ref x), (1, .int (nI s₀)), (2, .int (nI cn))] := hl
  refine lv_aload_n hx hb dCl_call_13 rfl (lv_at hl 1 rfl) ?_
  refine kI (rV fx (c_St_takesCalls l D ca h ln pe ou cs lk sn ac ex tr rj oua O (by omega) (by omega)) ⟨callB_of 0 hts (tb_gi tw_478) rfl rfl rfl (ht _ tw_3) (ht _ tw_475) (by decide +kernel) ⟨(Nat.le_of_ble_eq_true rfl), (Nat.le_of_ble_eq_true rfl)⟩, ht _ tw_476, ht _ tw_477⟩ hE hP hD 7 rfl rfl rfl [7, 0, 1] rfl rfl rfl hl.1 rfl (Nat.le_of_ble_eq_true rfl) dCl_call_14 ⟨(Nat.le_of_ble_eq_true rfl), (Nat.le_of_ble_eq_true rfl)⟩) hP hD hS hA [7, 0, 1] [2, 3, 4, 5, 6, 8] rfl rfl rfl (by decide) (fun _ H locs _ hP hD hS => ?_)
  have hP : va_P D cls_ [(q, .inr (1, [.int (nI y), .ref d, .int (nI st), .int (nI nx), .int (nI pa), .int (nI du), .int (nI ta)])), (d, .inr (0, [.ref da, .int (nI r.2)])), (da, .inl (ca 0, 2, .inl (fun j => nI (r.1 j)))), (x, .inr (3, [.ref ss])), (ss, .inl (ca 2, 2, .inr (.inr (.inr (.inr fs))))), (cs, .inl (ca 3, 3, .inr (.inr (.inr (.inr fc))))), (h, .inr (2, [.ref ln, .ref pe, .ref ou, .ref cs, .int (nI lk), .int (nI sn), .int (nI ac), .int (nI ex), .int (nI tr), .int (nI rj)])), (ou, .inr (0, [.ref oua, .int (nI O.2)])), (oua, .inl (ca 0, 16, .inl (fun j => nI (O.1 j))))] H := hP
  have hD : va_D A [(q, .inr (1, [.int (nI y), .ref d, .int (nI st), .int (nI nx), .int (nI pa), .int (nI du), .int (nI ta)])), (d, .inr (0, [.ref da, .int (nI r.2)])), (da, .inl (ca 0, 2, .inl (fun j => nI (r.1 j)))), (x, .inr (3, [.ref ss])), (ss, .inl (ca 2, 2, .inr (.inr (.inr (.inr fs))))), (cs, .inl (ca 3, 3, .inr (.inr (.inr (.inr fc))))), (h, .inr (2, [.ref ln, .ref pe, .ref ou, .ref cs, .int (nI lk), .int (nI sn), .int (nI ac), .int (nI ex), .int (nI tr), .int (nI rj)])), (ou, .inr (0, [.ref oua, .int (nI O.2)])), (oua, .inl (ca 0, 16, .inl (fun j => nI (O.1 j))))] := hD
  refine k_is (y := nI 0) (by rw [e3]) ?_
  refine k_if_eq (tgt := 32) hx hb (by omega) dCl_call_17 rfl (fun h17 => ?_) (fun hz => absurd hz (by omega))
  refine lv_iconst (v := nI 0) hx hb dCl_call_32 (by decide) ?_
  refine kX (xS fx (x_Cl_requireState l hlT D ca) ⟨callB_of 1 hts (tb_gi tw_253) rfl rfl rfl (ht _ tw_1) (ht _ tw_251) (by decide +kernel) ⟨(Nat.le_of_ble_eq_true rfl), (Nat.le_of_ble_eq_true rfl)⟩, ht _ tw_252⟩ hE hZ hP hD hS hA [] rfl rfl rfl hl.1 rfl (Nat.le_of_ble_eq_true rfl) dCl_call_33 ⟨(Nat.le_of_ble_eq_true rfl), (Nat.le_of_ble_eq_true rfl)⟩) hP hD hS hA [] [0, 1, 2, 3, 4, 5, 6, 7, 8] rfl rfl rfl (by decide) (fun ce q9 H locs hP hD hS hce hcv hcl => ?_)
  have hP : va_P D cls_ [(q, .inr (1, [.int (nI y), .ref d, .int (nI st), .int (nI nx), .int (nI pa), .int (nI du), .int (nI ta)])), (d, .inr (0, [.ref da, .int (nI r.2)])), (da, .inl (ca 0, 2, .inl (fun j => nI (r.1 j)))), (x, .inr (3, [.ref ss])), (ss, .inl (ca 2, 2, .inr (.inr (.inr (.inr fs))))), (cs, .inl (ca 3, 3, .inr (.inr (.inr (.inr fc))))), (h, .inr (2, [.ref ln, .ref pe, .ref ou, .ref cs, .int (nI lk), .int (nI sn), .int (nI ac), .int (nI ex), .int (nI tr), .int (nI rj)])), (ou, .inr (0, [.ref oua, .int (nI O.2)])), (oua, .inl (ca 0, 16, .inl (fun j => nI (O.1 j))))] H := hP
  have hD : va_D A [(q, .inr (1, [.int (nI y), .ref d, .int (nI st), .int (nI nx), .int (nI pa), .int (nI du), .int (nI ta)])), (d, .inr (0, [.ref da, .int (nI r.2)])), (da, .inl (ca 0, 2, .inl (fun j => nI (r.1 j)))), (x, .inr (3, [.ref ss])), (ss, .inl (ca 2, 2, .inr (.inr (.inr (.inr fs))))), (cs, .inl (ca 3, 3, .inr (.inr (.inr (.inr fc))))), (h, .inr (2, [.ref ln, .ref pe, .ref ou, .ref cs, .int (nI lk), .int (nI sn), .int (nI ac), .int (nI ex), .int (nI tr), .int (nI rj)])), (ou, .inr (0, [.ref oua, .int (nI O.2)])), (oua, .inl (ca 0, 16, .inl (fun j => nI (O.1 j))))] := hD
  have hP : va_P D cls_ [(x, .inr (3, [.ref ss])), (ss, .inl (ca 2, 2, .inr (.inr (.inr (.inr fs))))), (h, .inr (2, [.ref ln, .ref pe, .ref ou, .ref cs, .int (nI lk), .int (nI sn), .int (nI ac), .int (nI ex), .int (nI tr), .int (nI rj)])), (ou, .inr (0, [.ref oua, .int (nI O.2)])), (oua, .inl (ca 0, 16, .inl (fun j => nI (O.1 j)))), (cs, .inl (ca 3, 3, .inr (.inr (.inr (.inr fc))))), (q, .inr (1, [.int (nI y), .ref d, .int (nI st), .int (nI nx), .int (nI pa), .int (nI du), .int (nI ta)])), (d, .inr (0, [.ref da, .int (nI r.2)])), (da, .inl (ca 0, 2, .inl (fun j => nI (r.1 j))))] H := hP.sub [3, 4, 6, 7, 8, 5, 0, 1, 2] rfl
  have hD : va_D A [(x, .inr (3, [.ref ss])), (ss, .inl (ca 2, 2, .inr (.inr (.inr (.inr fs))))), (h, .inr (2, [.ref ln, .ref pe, .ref ou, .ref cs, .int (nI lk), .int (nI sn), .int (nI ac), .int (nI ex), .int (nI tr), .int (nI rj)])), (ou, .inr (0, [.ref oua, .int (nI O.2)])), (oua, .inl (ca 0, 16, .inl (fun j => nI (O.1 j)))), (cs, .inl (ca 3, 3, .inr (.inr (.inr (.inr fc))))), (q, .inr (1, [.int (nI y), .ref d, .int (nI st), .int (nI nx), .int (nI pa), .int (nI du), .int (nI ta)])), (d, .inr (0, [.ref da, .int (nI r.2)])), (da, .inl (ca 0, 2, .inl (fun j => nI (r.1 j))))] := hD.sub [3, 4, 6, 7, 8, 5, 0, 1, 2] rfl rfl
  exact xout hnt hlk hce hcv hcl hP hD hS (Nat.le_of_ble_eq_true rfl) (Nat.le_of_ble_eq_true rfl)
set_option maxHeartbeats 4000000 in
set_option maxRecDepth 100000 in
theorem x_Cl_call_t (l : Launch) (hlT : l.stackTraces = false) (D : va_G) (ca : Nat → ClassId) (x ss : Nat) (fs : Nat → Option Nat) (s₀ : Nat) (hs0 : s₀ < 2) (h ln pe ou cs lk sn ac ex tr rj : Nat) (oua : Nat) (O : Rw_) (fc : Nat → Option Nat) (q d da y st nx pa du ta : Nat) (r : Rw_) (cn : Nat) (hcn : cn < 3) (hq : fc cn = some q) (hfs : fs s₀ = some h) (hlk2 : lk < 3) (hO1 : O.2 ≤ 16) (hst : st < 6) (hup : lk = 2 ∧ O.2 ≤ 9) (hst2 : st ≠ 0) : CoX l yCl_call (Cond.code yCl_call cCl_call 5 none :: tb_) { frames := 8, cells := 1, slots := 6, locals := 256 } D ca [.ref x, .int (nI s₀), .int (nI cn)] [(x, .inr (3, [.ref ss])), (ss, .inl (ca 2, 2, .inr (.inr (.inr (.inr fs))))), (h, .inr (2, [.ref ln, .ref pe, .ref ou, .ref cs, .int (nI lk), .int (nI sn), .int (nI ac), .int (nI ex), .int (nI tr), .int (nI rj)])), (ou, .inr (0, [.ref oua, .int (nI O.2)])), (oua, .inl (ca 0, 16, .inl (fun j => nI (O.1 j)))), (cs, .inl (ca 3, 3, .inr (.inr (.inr (.inr fc))))), (q, .inr (1, [.int (nI y), .ref d, .int (nI st), .int (nI nx), .int (nI pa), .int (nI du), .int (nI ta)])), (d, .inr (0, [.ref da, .int (nI r.2)])), (da, .inl (ca 0, 2, .inl (fun j => nI (r.1 j))))] "java/lang/IllegalStateException" 1 6 := by
  refine CoX.of cCl_call 5 none (by decide) (Nat.le_of_ble_eq_true rfl) ?_
  intro p e s m args below meth c A ls fx hret hlk hnt hE hZ hP hD hS hA hl
  have hx := fx.1
  have hb := fx.2.1
  have hown : s.vm.findClass RCl = some m.cls := fx.2.2.2.1
  have hts := fx.2.2.2.2
  have ht : ∀ w ∈ tb_, w.before args s = true := fun w h => hts w (List.mem_cons_of_mem _ h)
  have e3 : (if lk = 2 ∧ O.2 ≤ 9 then 1 else 0) = 1 := if_pos hup
  have hl : lv_has ls 5 [(0, .ref x), (1, .int (nI s₀)), (2, .int (nI cn))] := hl
  refine lv_aload_n hx hb dCl_call_0 rfl (lv_at hl 0 rfl) ?_
  refine lv_iload_n hx hb dCl_call_1 rfl (lv_at hl 1 rfl) ?_
  refine kA (rV fx (c_Cl_stationAt l D ca x ss fs s₀ hs0 h hfs) ⟨callB_of 1 hts (tb_gi tw_143) rfl rfl rfl (ht _ tw_1) (ht _ tw_140) (by decide +kernel) ⟨(Nat.le_of_ble_eq_true rfl), (Nat.le_of_ble_eq_true rfl)⟩, ht _ tw_142, ht _ tw_826⟩ hE hP hD 0 rfl rfl rfl [0, 1] rfl rfl rfl hl.1 rfl (Nat.le_of_ble_eq_true rfl) dCl_call_2 ⟨(Nat.le_of_ble_eq_true rfl), (Nat.le_of_ble_eq_true rfl)⟩) hP hD hS hA [0, 1] [2, 3, 4, 5, 6, 7, 8] rfl rfl rfl (by decide) (fun _ H locs _ hP hD hS => ?_)
  have hP : va_P D cls_ [(h, .inr (2, [.ref ln, .ref pe, .ref ou, .ref cs, .int (nI lk), .int (nI sn), .int (nI ac), .int (nI ex), .int (nI tr), .int (nI rj)])), (ou, .inr (0, [.ref oua, .int (nI O.2)])), (oua, .inl (ca 0, 16, .inl (fun j => nI (O.1 j)))), (cs, .inl (ca 3, 3, .inr (.inr (.inr (.inr fc))))), (q, .inr (1, [.int (nI y), .ref d, .int (nI st), .int (nI nx), .int (nI pa), .int (nI du), .int (nI ta)])), (d, .inr (0, [.ref da, .int (nI r.2)])), (da, .inl (ca 0, 2, .inl (fun j => nI (r.1 j)))), (x, .inr (3, [.ref ss])), (ss, .inl (ca 2, 2, .inr (.inr (.inr (.inr fs)))))] H := hP
  have hD : va_D A [(h, .inr (2, [.ref ln, .ref pe, .ref ou, .ref cs, .int (nI lk), .int (nI sn), .int (nI ac), .int (nI ex), .int (nI tr), .int (nI rj)])), (ou, .inr (0, [.ref oua, .int (nI O.2)])), (oua, .inl (ca 0, 16, .inl (fun j => nI (O.1 j)))), (cs, .inl (ca 3, 3, .inr (.inr (.inr (.inr fc))))), (q, .inr (1, [.int (nI y), .ref d, .int (nI st), .int (nI nx), .int (nI pa), .int (nI du), .int (nI ta)])), (d, .inr (0, [.ref da, .int (nI r.2)])), (da, .inl (ca 0, 2, .inl (fun j => nI (r.1 j)))), (x, .inr (3, [.ref ss])), (ss, .inl (ca 2, 2, .inr (.inr (.inr (.inr fs)))))] := hD
  refine lv_astore_n hx hb dCl_call_5 rfl hl (by decide) rfl (fun ls hl => ?_)
  have hl : lv_has ls 5 [(3, .ref h), (0, .ref x), (1, .int (nI s₀)), (2, .int (nI cn))] := hl
  refine lv_aload_n hx hb dCl_call_6 rfl (lv_at hl 0 rfl) ?_
  refine lv_iload_n hx hb dCl_call_7 rfl (lv_at hl 3 rfl) ?_
  refine kA (rS fx (c_Cl_channelAt l D ca h ln pe ou cs lk sn ac ex tr rj fc cn q (by omega) hq) ⟨callB_of 2 hts (tb_gi tw_474) rfl rfl rfl (ht _ tw_1) (ht _ tw_472) (by decide +kernel) ⟨(Nat.le_of_ble_eq_true rfl), (Nat.le_of_ble_eq_true rfl)⟩, ht _ tw_473⟩ hE hP hD [0, 3] rfl rfl rfl hl.1 rfl (Nat.le_of_ble_eq_true rfl) dCl_call_8 ⟨(Nat.le_of_ble_eq_true rfl), (Nat.le_of_ble_eq_true rfl)⟩) hP hD hS hA [0, 3] [1, 2, 4, 5, 6, 7, 8] rfl rfl rfl (by decide) (fun _ H locs _ hP hD hS => ?_)
  have hP : va_P D cls_ [(ou, .inr (0, [.ref oua, .int (nI O.2)])), (oua, .inl (ca 0, 16, .inl (fun j => nI (O.1 j)))), (q, .inr (1, [.int (nI y), .ref d, .int (nI st), .int (nI nx), .int (nI pa), .int (nI du), .int (nI ta)])), (d, .inr (0, [.ref da, .int (nI r.2)])), (da, .inl (ca 0, 2, .inl (fun j => nI (r.1 j)))), (x, .inr (3, [.ref ss])), (ss, .inl (ca 2, 2, .inr (.inr (.inr (.inr fs))))), (h, .inr (2, [.ref ln, .ref pe, .ref ou, .ref cs, .int (nI lk), .int (nI sn), .int (nI ac), .int (nI ex), .int (nI tr), .int (nI rj)])), (cs, .inl (ca 3, 3, .inr (.inr (.inr (.inr fc)))))] H := hP
  have hD : va_D A [(ou, .inr (0, [.ref oua, .int (nI O.2)])), (oua, .inl (ca 0, 16, .inl (fun j => nI (O.1 j)))), (q, .inr (1, [.int (nI y), .ref d, .int (nI st), .int (nI nx), .int (nI pa), .int (nI du), .int (nI ta)])), (d, .inr (0, [.ref da, .int (nI r.2)])), (da, .inl (ca 0, 2, .inl (fun j => nI (r.1 j)))), (x, .inr (3, [.ref ss])), (ss, .inl (ca 2, 2, .inr (.inr (.inr (.inr fs))))), (h, .inr (2, [.ref ln, .ref pe, .ref ou, .ref cs, .int (nI lk), .int (nI sn), .int (nI ac), .int (nI ex), .int (nI tr), .int (nI rj)])), (cs, .inl (ca 3, 3, .inr (.inr (.inr (.inr fc)))))] := hD
  refine lv_astore hx hb dCl_call_11 hl (by decide) rfl (fun ls hl => ?_)
  have hl : lv_has ls 5 [(4, .ref q), (3, .ref h), (0, .ref x), (1, .int (nI s₀)), (2, .int (nI cn))] := hl
  refine lv_aload_n hx hb dCl_call_13 rfl (lv_at hl 1 rfl) ?_
  refine kI (rV fx (c_St_takesCalls l D ca h ln pe ou cs lk sn ac ex tr rj oua O (by omega) (by omega)) ⟨callB_of 0 hts (tb_gi tw_478) rfl rfl rfl (ht _ tw_3) (ht _ tw_475) (by decide +kernel) ⟨(Nat.le_of_ble_eq_true rfl), (Nat.le_of_ble_eq_true rfl)⟩, ht _ tw_476, ht _ tw_477⟩ hE hP hD 7 rfl rfl rfl [7, 0, 1] rfl rfl rfl hl.1 rfl (Nat.le_of_ble_eq_true rfl) dCl_call_14 ⟨(Nat.le_of_ble_eq_true rfl), (Nat.le_of_ble_eq_true rfl)⟩) hP hD hS hA [7, 0, 1] [2, 3, 4, 5, 6, 8] rfl rfl rfl (by decide) (fun _ H locs _ hP hD hS => ?_)
  have hP : va_P D cls_ [(q, .inr (1, [.int (nI y), .ref d, .int (nI st), .int (nI nx), .int (nI pa), .int (nI du), .int (nI ta)])), (d, .inr (0, [.ref da, .int (nI r.2)])), (da, .inl (ca 0, 2, .inl (fun j => nI (r.1 j)))), (x, .inr (3, [.ref ss])), (ss, .inl (ca 2, 2, .inr (.inr (.inr (.inr fs))))), (cs, .inl (ca 3, 3, .inr (.inr (.inr (.inr fc))))), (h, .inr (2, [.ref ln, .ref pe, .ref ou, .ref cs, .int (nI lk), .int (nI sn), .int (nI ac), .int (nI ex), .int (nI tr), .int (nI rj)])), (ou, .inr (0, [.ref oua, .int (nI O.2)])), (oua, .inl (ca 0, 16, .inl (fun j => nI (O.1 j))))] H := hP
  have hD : va_D A [(q, .inr (1, [.int (nI y), .ref d, .int (nI st), .int (nI nx), .int (nI pa), .int (nI du), .int (nI ta)])), (d, .inr (0, [.ref da, .int (nI r.2)])), (da, .inl (ca 0, 2, .inl (fun j => nI (r.1 j)))), (x, .inr (3, [.ref ss])), (ss, .inl (ca 2, 2, .inr (.inr (.inr (.inr fs))))), (cs, .inl (ca 3, 3, .inr (.inr (.inr (.inr fc))))), (h, .inr (2, [.ref ln, .ref pe, .ref ou, .ref cs, .int (nI lk), .int (nI sn), .int (nI ac), .int (nI ex), .int (nI tr), .int (nI rj)])), (ou, .inr (0, [.ref oua, .int (nI O.2)])), (oua, .inl (ca 0, 16, .inl (fun j => nI (O.1 j))))] := hD
  refine k_is (y := nI 1) (by rw [e3]) ?_
  refine k_if_eq (tgt := 32) hx hb (by omega) dCl_call_17 rfl (fun hz => absurd hz (by omega)) (fun h17 => ?_)
  refine lv_aload hx hb dCl_call_20 (lv_at hl 0 rfl) ?_
  refine va_getN (D := D) (ci := 1) (v := .int (nI st)) (host := "ChannelledLink") (C := RCh) (T := TCh) (N := 7) hx hb ht inCh hown hE.1 hP 0 rfl rfl 2 (by decide) (hE.nestU tw_64 rfl) (fun _ h => h) rfl dCl_call_22 ?_
  refine k_if_ne (tgt := 32) hx hb (by omega) dCl_call_25 rfl (fun h25 => ?_) (fun hz => absurd hz (by omega))
  refine lv_iconst (v := nI 0) hx hb dCl_call_32 (by decide) ?_
  refine kX (xS fx (x_Cl_requireState l hlT D ca) ⟨callB_of 1 hts (tb_gi tw_253) rfl rfl rfl (ht _ tw_1) (ht _ tw_251) (by decide +kernel) ⟨(Nat.le_of_ble_eq_true rfl), (Nat.le_of_ble_eq_true rfl)⟩, ht _ tw_252⟩ hE hZ hP hD hS hA [] rfl rfl rfl hl.1 rfl (Nat.le_of_ble_eq_true rfl) dCl_call_33 ⟨(Nat.le_of_ble_eq_true rfl), (Nat.le_of_ble_eq_true rfl)⟩) hP hD hS hA [] [0, 1, 2, 3, 4, 5, 6, 7, 8] rfl rfl rfl (by decide) (fun ce q9 H locs hP hD hS hce hcv hcl => ?_)
  have hP : va_P D cls_ [(q, .inr (1, [.int (nI y), .ref d, .int (nI st), .int (nI nx), .int (nI pa), .int (nI du), .int (nI ta)])), (d, .inr (0, [.ref da, .int (nI r.2)])), (da, .inl (ca 0, 2, .inl (fun j => nI (r.1 j)))), (x, .inr (3, [.ref ss])), (ss, .inl (ca 2, 2, .inr (.inr (.inr (.inr fs))))), (cs, .inl (ca 3, 3, .inr (.inr (.inr (.inr fc))))), (h, .inr (2, [.ref ln, .ref pe, .ref ou, .ref cs, .int (nI lk), .int (nI sn), .int (nI ac), .int (nI ex), .int (nI tr), .int (nI rj)])), (ou, .inr (0, [.ref oua, .int (nI O.2)])), (oua, .inl (ca 0, 16, .inl (fun j => nI (O.1 j))))] H := hP
  have hD : va_D A [(q, .inr (1, [.int (nI y), .ref d, .int (nI st), .int (nI nx), .int (nI pa), .int (nI du), .int (nI ta)])), (d, .inr (0, [.ref da, .int (nI r.2)])), (da, .inl (ca 0, 2, .inl (fun j => nI (r.1 j)))), (x, .inr (3, [.ref ss])), (ss, .inl (ca 2, 2, .inr (.inr (.inr (.inr fs))))), (cs, .inl (ca 3, 3, .inr (.inr (.inr (.inr fc))))), (h, .inr (2, [.ref ln, .ref pe, .ref ou, .ref cs, .int (nI lk), .int (nI sn), .int (nI ac), .int (nI ex), .int (nI tr), .int (nI rj)])), (ou, .inr (0, [.ref oua, .int (nI O.2)])), (oua, .inl (ca 0, 16, .inl (fun j => nI (O.1 j))))] := hD
  have hP : va_P D cls_ [(x, .inr (3, [.ref ss])), (ss, .inl (ca 2, 2, .inr (.inr (.inr (.inr fs))))), (h, .inr (2, [.ref ln, .ref pe, .ref ou, .ref cs, .int (nI lk), .int (nI sn), .int (nI ac), .int (nI ex), .int (nI tr), .int (nI rj)])), (ou, .inr (0, [.ref oua, .int (nI O.2)])), (oua, .inl (ca 0, 16, .inl (fun j => nI (O.1 j)))), (cs, .inl (ca 3, 3, .inr (.inr (.inr (.inr fc))))), (q, .inr (1, [.int (nI y), .ref d, .int (nI st), .int (nI nx), .int (nI pa), .int (nI du), .int (nI ta)])), (d, .inr (0, [.ref da, .int (nI r.2)])), (da, .inl (ca 0, 2, .inl (fun j => nI (r.1 j))))] H := hP.sub [3, 4, 6, 7, 8, 5, 0, 1, 2] rfl
  have hD : va_D A [(x, .inr (3, [.ref ss])), (ss, .inl (ca 2, 2, .inr (.inr (.inr (.inr fs))))), (h, .inr (2, [.ref ln, .ref pe, .ref ou, .ref cs, .int (nI lk), .int (nI sn), .int (nI ac), .int (nI ex), .int (nI tr), .int (nI rj)])), (ou, .inr (0, [.ref oua, .int (nI O.2)])), (oua, .inl (ca 0, 16, .inl (fun j => nI (O.1 j)))), (cs, .inl (ca 3, 3, .inr (.inr (.inr (.inr fc))))), (q, .inr (1, [.int (nI y), .ref d, .int (nI st), .int (nI nx), .int (nI pa), .int (nI du), .int (nI ta)])), (d, .inr (0, [.ref da, .int (nI r.2)])), (da, .inl (ca 0, 2, .inl (fun j => nI (r.1 j))))] := hD.sub [3, 4, 6, 7, 8, 5, 0, 1, 2] rfl rfl
  exact xout hnt hlk hce hcv hcl hP hD hS (Nat.le_of_ble_eq_true rfl) (Nat.le_of_ble_eq_true rfl)
set_option maxHeartbeats 4000000 in
set_option maxRecDepth 100000 in
theorem x_Cl_accept_u (l : Launch) (hlT : l.stackTraces = false) (D : va_G) (ca : Nat → ClassId) (x ss : Nat) (fs : Nat → Option Nat) (s₀ : Nat) (hs0 : s₀ < 2) (h ln pe ou cs lk sn ac ex tr rj : Nat) (oua : Nat) (O : Rw_) (fc : Nat → Option Nat) (q d da y st nx pa du ta : Nat) (r : Rw_) (cn : Nat) (hcn : cn < 3) (hq : fc cn = some q) (hfs : fs s₀ = some h) (hlk2 : lk < 3) (hO1 : O.2 ≤ 16) (hst : st < 6) (hup : ¬ (lk = 2 ∧ O.2 ≤ 9)) : CoX l yCl_accept (Cond.code yCl_accept cCl_accept 5 none :: tb_) { frames := 8, cells := 1, slots := 6, locals := 256 } D ca [.ref x, .int (nI s₀), .int (nI cn)] [(x, .inr (3, [.ref ss])), (ss, .inl (ca 2, 2, .inr (.inr (.inr (.inr fs))))), (h, .inr (2, [.ref ln, .ref pe, .ref ou, .ref cs, .int (nI lk), .int (nI sn), .int (nI ac), .int (nI ex), .int (nI tr), .int (nI rj)])), (ou, .inr (0, [.ref oua, .int (nI O.2)])), (oua, .inl (ca 0, 16, .inl (fun j => nI (O.1 j)))), (cs, .inl (ca 3, 3, .inr (.inr (.inr (.inr fc))))), (q, .inr (1, [.int (nI y), .ref d, .int (nI st), .int (nI nx), .int (nI pa), .int (nI du), .int (nI ta)])), (d, .inr (0, [.ref da, .int (nI r.2)])), (da, .inl (ca 0, 2, .inl (fun j => nI (r.1 j))))] "java/lang/IllegalStateException" 1 6 := by
  refine CoX.of cCl_accept 5 none (by decide) (Nat.le_of_ble_eq_true rfl) ?_
  intro p e s m args below meth c A ls fx hret hlk hnt hE hZ hP hD hS hA hl
  have hx := fx.1
  have hb := fx.2.1
  have hown : s.vm.findClass RCl = some m.cls := fx.2.2.2.1
  have hts := fx.2.2.2.2
  have ht : ∀ w ∈ tb_, w.before args s = true := fun w h => hts w (List.mem_cons_of_mem _ h)
  have e3 : (if lk = 2 ∧ O.2 ≤ 9 then 1 else 0) = 0 := if_neg hup
  have hl : lv_has ls 5 [(0, .ref x), (1, .int (nI s₀)), (2, .int (nI cn))] := hl
  refine lv_aload_n hx hb dCl_accept_0 rfl (lv_at hl 0 rfl) ?_
  refine lv_iload_n hx hb dCl_accept_1 rfl (lv_at hl 1 rfl) ?_
  refine kA (rV fx (c_Cl_stationAt l D ca x ss fs s₀ hs0 h hfs) ⟨callB_of 1 hts (tb_gi tw_143) rfl rfl rfl (ht _ tw_1) (ht _ tw_140) (by decide +kernel) ⟨(Nat.le_of_ble_eq_true rfl), (Nat.le_of_ble_eq_true rfl)⟩, ht _ tw_142, ht _ tw_826⟩ hE hP hD 0 rfl rfl rfl [0, 1] rfl rfl rfl hl.1 rfl (Nat.le_of_ble_eq_true rfl) dCl_accept_2 ⟨(Nat.le_of_ble_eq_true rfl), (Nat.le_of_ble_eq_true rfl)⟩) hP hD hS hA [0, 1] [2, 3, 4, 5, 6, 7, 8] rfl rfl rfl (by decide) (fun _ H locs _ hP hD hS => ?_)
  have hP : va_P D cls_ [(h, .inr (2, [.ref ln, .ref pe, .ref ou, .ref cs, .int (nI lk), .int (nI sn), .int (nI ac), .int (nI ex), .int (nI tr), .int (nI rj)])), (ou, .inr (0, [.ref oua, .int (nI O.2)])), (oua, .inl (ca 0, 16, .inl (fun j => nI (O.1 j)))), (cs, .inl (ca 3, 3, .inr (.inr (.inr (.inr fc))))), (q, .inr (1, [.int (nI y), .ref d, .int (nI st), .int (nI nx), .int (nI pa), .int (nI du), .int (nI ta)])), (d, .inr (0, [.ref da, .int (nI r.2)])), (da, .inl (ca 0, 2, .inl (fun j => nI (r.1 j)))), (x, .inr (3, [.ref ss])), (ss, .inl (ca 2, 2, .inr (.inr (.inr (.inr fs)))))] H := hP
  have hD : va_D A [(h, .inr (2, [.ref ln, .ref pe, .ref ou, .ref cs, .int (nI lk), .int (nI sn), .int (nI ac), .int (nI ex), .int (nI tr), .int (nI rj)])), (ou, .inr (0, [.ref oua, .int (nI O.2)])), (oua, .inl (ca 0, 16, .inl (fun j => nI (O.1 j)))), (cs, .inl (ca 3, 3, .inr (.inr (.inr (.inr fc))))), (q, .inr (1, [.int (nI y), .ref d, .int (nI st), .int (nI nx), .int (nI pa), .int (nI du), .int (nI ta)])), (d, .inr (0, [.ref da, .int (nI r.2)])), (da, .inl (ca 0, 2, .inl (fun j => nI (r.1 j)))), (x, .inr (3, [.ref ss])), (ss, .inl (ca 2, 2, .inr (.inr (.inr (.inr fs)))))] := hD
  refine lv_astore_n hx hb dCl_accept_5 rfl hl (by decide) rfl (fun ls hl => ?_)
  have hl : lv_has ls 5 [(3, .ref h), (0, .ref x), (1, .int (nI s₀)), (2, .int (nI cn))] := hl
  refine lv_aload_n hx hb dCl_accept_6 rfl (lv_at hl 0 rfl) ?_
  refine lv_iload_n hx hb dCl_accept_7 rfl (lv_at hl 3 rfl) ?_
  refine kA (rS fx (c_Cl_channelAt l D ca h ln pe ou cs lk sn ac ex tr rj fc cn q (by omega) hq) ⟨callB_of 2 hts (tb_gi tw_474) rfl rfl rfl (ht _ tw_1) (ht _ tw_472) (by decide +kernel) ⟨(Nat.le_of_ble_eq_true rfl), (Nat.le_of_ble_eq_true rfl)⟩, ht _ tw_473⟩ hE hP hD [0, 3] rfl rfl rfl hl.1 rfl (Nat.le_of_ble_eq_true rfl) dCl_accept_8 ⟨(Nat.le_of_ble_eq_true rfl), (Nat.le_of_ble_eq_true rfl)⟩) hP hD hS hA [0, 3] [1, 2, 4, 5, 6, 7, 8] rfl rfl rfl (by decide) (fun _ H locs _ hP hD hS => ?_)
  have hP : va_P D cls_ [(ou, .inr (0, [.ref oua, .int (nI O.2)])), (oua, .inl (ca 0, 16, .inl (fun j => nI (O.1 j)))), (q, .inr (1, [.int (nI y), .ref d, .int (nI st), .int (nI nx), .int (nI pa), .int (nI du), .int (nI ta)])), (d, .inr (0, [.ref da, .int (nI r.2)])), (da, .inl (ca 0, 2, .inl (fun j => nI (r.1 j)))), (x, .inr (3, [.ref ss])), (ss, .inl (ca 2, 2, .inr (.inr (.inr (.inr fs))))), (h, .inr (2, [.ref ln, .ref pe, .ref ou, .ref cs, .int (nI lk), .int (nI sn), .int (nI ac), .int (nI ex), .int (nI tr), .int (nI rj)])), (cs, .inl (ca 3, 3, .inr (.inr (.inr (.inr fc)))))] H := hP
  have hD : va_D A [(ou, .inr (0, [.ref oua, .int (nI O.2)])), (oua, .inl (ca 0, 16, .inl (fun j => nI (O.1 j)))), (q, .inr (1, [.int (nI y), .ref d, .int (nI st), .int (nI nx), .int (nI pa), .int (nI du), .int (nI ta)])), (d, .inr (0, [.ref da, .int (nI r.2)])), (da, .inl (ca 0, 2, .inl (fun j => nI (r.1 j)))), (x, .inr (3, [.ref ss])), (ss, .inl (ca 2, 2, .inr (.inr (.inr (.inr fs))))), (h, .inr (2, [.ref ln, .ref pe, .ref ou, .ref cs, .int (nI lk), .int (nI sn), .int (nI ac), .int (nI ex), .int (nI tr), .int (nI rj)])), (cs, .inl (ca 3, 3, .inr (.inr (.inr (.inr fc)))))] := hD
  refine lv_astore hx hb dCl_accept_11 hl (by decide) rfl (fun ls hl => ?_)
  have hl : lv_has ls 5 [(4, .ref q), (3, .ref h), (0, .ref x), (1, .int (nI s₀)), (2, .int (nI cn))] := hl
  refine lv_aload_n hx hb dCl_accept_13 rfl (lv_at hl 1 rfl) ?_
  refine kI (rV fx (c_St_takesCalls l D ca h ln pe ou cs lk sn ac ex tr rj oua O (by omega) (by omega)) ⟨callB_of 0 hts (tb_gi tw_478) rfl rfl rfl (ht _ tw_3) (ht _ tw_475) (by decide +kernel) ⟨(Nat.le_of_ble_eq_true rfl), (Nat.le_of_ble_eq_true rfl)⟩, ht _ tw_476, ht _ tw_477⟩ hE hP hD 7 rfl rfl rfl [7, 0, 1] rfl rfl rfl hl.1 rfl (Nat.le_of_ble_eq_true rfl) dCl_accept_14 ⟨(Nat.le_of_ble_eq_true rfl), (Nat.le_of_ble_eq_true rfl)⟩) hP hD hS hA [7, 0, 1] [2, 3, 4, 5, 6, 8] rfl rfl rfl (by decide) (fun _ H locs _ hP hD hS => ?_)
  have hP : va_P D cls_ [(q, .inr (1, [.int (nI y), .ref d, .int (nI st), .int (nI nx), .int (nI pa), .int (nI du), .int (nI ta)])), (d, .inr (0, [.ref da, .int (nI r.2)])), (da, .inl (ca 0, 2, .inl (fun j => nI (r.1 j)))), (x, .inr (3, [.ref ss])), (ss, .inl (ca 2, 2, .inr (.inr (.inr (.inr fs))))), (cs, .inl (ca 3, 3, .inr (.inr (.inr (.inr fc))))), (h, .inr (2, [.ref ln, .ref pe, .ref ou, .ref cs, .int (nI lk), .int (nI sn), .int (nI ac), .int (nI ex), .int (nI tr), .int (nI rj)])), (ou, .inr (0, [.ref oua, .int (nI O.2)])), (oua, .inl (ca 0, 16, .inl (fun j => nI (O.1 j))))] H := hP
  have hD : va_D A [(q, .inr (1, [.int (nI y), .ref d, .int (nI st), .int (nI nx), .int (nI pa), .int (nI du), .int (nI ta)])), (d, .inr (0, [.ref da, .int (nI r.2)])), (da, .inl (ca 0, 2, .inl (fun j => nI (r.1 j)))), (x, .inr (3, [.ref ss])), (ss, .inl (ca 2, 2, .inr (.inr (.inr (.inr fs))))), (cs, .inl (ca 3, 3, .inr (.inr (.inr (.inr fc))))), (h, .inr (2, [.ref ln, .ref pe, .ref ou, .ref cs, .int (nI lk), .int (nI sn), .int (nI ac), .int (nI ex), .int (nI tr), .int (nI rj)])), (ou, .inr (0, [.ref oua, .int (nI O.2)])), (oua, .inl (ca 0, 16, .inl (fun j => nI (O.1 j))))] := hD
  refine k_is (y := nI 0) (by rw [e3]) ?_
  refine k_if_eq (tgt := 33) hx hb (by omega) dCl_accept_17 rfl (fun h17 => ?_) (fun hz => absurd hz (by omega))
  refine lv_iconst (v := nI 0) hx hb dCl_accept_33 (by decide) ?_
  refine kX (xS fx (x_Cl_requireState l hlT D ca) ⟨callB_of 1 hts (tb_gi tw_253) rfl rfl rfl (ht _ tw_1) (ht _ tw_251) (by decide +kernel) ⟨(Nat.le_of_ble_eq_true rfl), (Nat.le_of_ble_eq_true rfl)⟩, ht _ tw_252⟩ hE hZ hP hD hS hA [] rfl rfl rfl hl.1 rfl (Nat.le_of_ble_eq_true rfl) dCl_accept_34 ⟨(Nat.le_of_ble_eq_true rfl), (Nat.le_of_ble_eq_true rfl)⟩) hP hD hS hA [] [0, 1, 2, 3, 4, 5, 6, 7, 8] rfl rfl rfl (by decide) (fun ce q9 H locs hP hD hS hce hcv hcl => ?_)
  have hP : va_P D cls_ [(q, .inr (1, [.int (nI y), .ref d, .int (nI st), .int (nI nx), .int (nI pa), .int (nI du), .int (nI ta)])), (d, .inr (0, [.ref da, .int (nI r.2)])), (da, .inl (ca 0, 2, .inl (fun j => nI (r.1 j)))), (x, .inr (3, [.ref ss])), (ss, .inl (ca 2, 2, .inr (.inr (.inr (.inr fs))))), (cs, .inl (ca 3, 3, .inr (.inr (.inr (.inr fc))))), (h, .inr (2, [.ref ln, .ref pe, .ref ou, .ref cs, .int (nI lk), .int (nI sn), .int (nI ac), .int (nI ex), .int (nI tr), .int (nI rj)])), (ou, .inr (0, [.ref oua, .int (nI O.2)])), (oua, .inl (ca 0, 16, .inl (fun j => nI (O.1 j))))] H := hP
  have hD : va_D A [(q, .inr (1, [.int (nI y), .ref d, .int (nI st), .int (nI nx), .int (nI pa), .int (nI du), .int (nI ta)])), (d, .inr (0, [.ref da, .int (nI r.2)])), (da, .inl (ca 0, 2, .inl (fun j => nI (r.1 j)))), (x, .inr (3, [.ref ss])), (ss, .inl (ca 2, 2, .inr (.inr (.inr (.inr fs))))), (cs, .inl (ca 3, 3, .inr (.inr (.inr (.inr fc))))), (h, .inr (2, [.ref ln, .ref pe, .ref ou, .ref cs, .int (nI lk), .int (nI sn), .int (nI ac), .int (nI ex), .int (nI tr), .int (nI rj)])), (ou, .inr (0, [.ref oua, .int (nI O.2)])), (oua, .inl (ca 0, 16, .inl (fun j => nI (O.1 j))))] := hD
  have hP : va_P D cls_ [(x, .inr (3, [.ref ss])), (ss, .inl (ca 2, 2, .inr (.inr (.inr (.inr fs))))), (h, .inr (2, [.ref ln, .ref pe, .ref ou, .ref cs, .int (nI lk), .int (nI sn), .int (nI ac), .int (nI ex), .int (nI tr), .int (nI rj)])), (ou, .inr (0, [.ref oua, .int (nI O.2)])), (oua, .inl (ca 0, 16, .inl (fun j => nI (O.1 j)))), (cs, .inl (ca 3, 3, .inr (.inr (.inr (.inr fc))))), (q, .inr (1, [.int (nI y), .ref d, .int (nI st), .int (nI nx), .int (nI pa), .int (nI du), .int (nI ta)])), (d, .inr (0, [.ref da, .int (nI r.2)])), (da, .inl (ca 0, 2, .inl (fun j => nI (r.1 j))))] H := hP.sub [3, 4, 6, 7, 8, 5, 0, 1, 2] rfl
  have hD : va_D A [(x, .inr (3, [.ref ss])), (ss, .inl (ca 2, 2, .inr (.inr (.inr (.inr fs))))), (h, .inr (2, [.ref ln, .ref pe, .ref ou, .ref cs, .int (nI lk), .int (nI sn), .int (nI ac), .int (nI ex), .int (nI tr), .int (nI rj)])), (ou, .inr (0, [.ref oua, .int (nI O.2)])), (oua, .inl (ca 0, 16, .inl (fun j => nI (O.1 j)))), (cs, .inl (ca 3, 3, .inr (.inr (.inr (.inr fc))))), (q, .inr (1, [.int (nI y), .ref d, .int (nI st), .int (nI nx), .int (nI pa), .int (nI du), .int (nI ta)])), (d, .inr (0, [.ref da, .int (nI r.2)])), (da, .inl (ca 0, 2, .inl (fun j => nI (r.1 j))))] := hD.sub [3, 4, 6, 7, 8, 5, 0, 1, 2] rfl rfl
  exact xout hnt hlk hce hcv hcl hP hD hS (Nat.le_of_ble_eq_true rfl) (Nat.le_of_ble_eq_true rfl)
set_option maxHeartbeats 4000000 in
set_option maxRecDepth 100000 in
theorem x_Cl_accept_t (l : Launch) (hlT : l.stackTraces = false) (D : va_G) (ca : Nat → ClassId) (x ss : Nat) (fs : Nat → Option Nat) (s₀ : Nat) (hs0 : s₀ < 2) (h ln pe ou cs lk sn ac ex tr rj : Nat) (oua : Nat) (O : Rw_) (fc : Nat → Option Nat) (q d da y st nx pa du ta : Nat) (r : Rw_) (cn : Nat) (hcn : cn < 3) (hq : fc cn = some q) (hfs : fs s₀ = some h) (hlk2 : lk < 3) (hO1 : O.2 ≤ 16) (hst : st < 6) (hup : lk = 2 ∧ O.2 ≤ 9) (hst2 : st ≠ 2) : CoX l yCl_accept (Cond.code yCl_accept cCl_accept 5 none :: tb_) { frames := 8, cells := 1, slots := 6, locals := 256 } D ca [.ref x, .int (nI s₀), .int (nI cn)] [(x, .inr (3, [.ref ss])), (ss, .inl (ca 2, 2, .inr (.inr (.inr (.inr fs))))), (h, .inr (2, [.ref ln, .ref pe, .ref ou, .ref cs, .int (nI lk), .int (nI sn), .int (nI ac), .int (nI ex), .int (nI tr), .int (nI rj)])), (ou, .inr (0, [.ref oua, .int (nI O.2)])), (oua, .inl (ca 0, 16, .inl (fun j => nI (O.1 j)))), (cs, .inl (ca 3, 3, .inr (.inr (.inr (.inr fc))))), (q, .inr (1, [.int (nI y), .ref d, .int (nI st), .int (nI nx), .int (nI pa), .int (nI du), .int (nI ta)])), (d, .inr (0, [.ref da, .int (nI r.2)])), (da, .inl (ca 0, 2, .inl (fun j => nI (r.1 j))))] "java/lang/IllegalStateException" 1 6 := by
  refine CoX.of cCl_accept 5 none (by decide) (Nat.le_of_ble_eq_true rfl) ?_
  intro p e s m args below meth c A ls fx hret hlk hnt hE hZ hP hD hS hA hl
  have hx := fx.1
  have hb := fx.2.1
  have hown : s.vm.findClass RCl = some m.cls := fx.2.2.2.1
  have hts := fx.2.2.2.2
  have ht : ∀ w ∈ tb_, w.before args s = true := fun w h => hts w (List.mem_cons_of_mem _ h)
  have e3 : (if lk = 2 ∧ O.2 ≤ 9 then 1 else 0) = 1 := if_pos hup
  have hl : lv_has ls 5 [(0, .ref x), (1, .int (nI s₀)), (2, .int (nI cn))] := hl
  refine lv_aload_n hx hb dCl_accept_0 rfl (lv_at hl 0 rfl) ?_
  refine lv_iload_n hx hb dCl_accept_1 rfl (lv_at hl 1 rfl) ?_
  refine kA (rV fx (c_Cl_stationAt l D ca x ss fs s₀ hs0 h hfs) ⟨callB_of 1 hts (tb_gi tw_143) rfl rfl rfl (ht _ tw_1) (ht _ tw_140) (by decide +kernel) ⟨(Nat.le_of_ble_eq_true rfl), (Nat.le_of_ble_eq_true rfl)⟩, ht _ tw_142, ht _ tw_826⟩ hE hP hD 0 rfl rfl rfl [0, 1] rfl rfl rfl hl.1 rfl (Nat.le_of_ble_eq_true rfl) dCl_accept_2 ⟨(Nat.le_of_ble_eq_true rfl), (Nat.le_of_ble_eq_true rfl)⟩) hP hD hS hA [0, 1] [2, 3, 4, 5, 6, 7, 8] rfl rfl rfl (by decide) (fun _ H locs _ hP hD hS => ?_)
  have hP : va_P D cls_ [(h, .inr (2, [.ref ln, .ref pe, .ref ou, .ref cs, .int (nI lk), .int (nI sn), .int (nI ac), .int (nI ex), .int (nI tr), .int (nI rj)])), (ou, .inr (0, [.ref oua, .int (nI O.2)])), (oua, .inl (ca 0, 16, .inl (fun j => nI (O.1 j)))), (cs, .inl (ca 3, 3, .inr (.inr (.inr (.inr fc))))), (q, .inr (1, [.int (nI y), .ref d, .int (nI st), .int (nI nx), .int (nI pa), .int (nI du), .int (nI ta)])), (d, .inr (0, [.ref da, .int (nI r.2)])), (da, .inl (ca 0, 2, .inl (fun j => nI (r.1 j)))), (x, .inr (3, [.ref ss])), (ss, .inl (ca 2, 2, .inr (.inr (.inr (.inr fs)))))] H := hP
  have hD : va_D A [(h, .inr (2, [.ref ln, .ref pe, .ref ou, .ref cs, .int (nI lk), .int (nI sn), .int (nI ac), .int (nI ex), .int (nI tr), .int (nI rj)])), (ou, .inr (0, [.ref oua, .int (nI O.2)])), (oua, .inl (ca 0, 16, .inl (fun j => nI (O.1 j)))), (cs, .inl (ca 3, 3, .inr (.inr (.inr (.inr fc))))), (q, .inr (1, [.int (nI y), .ref d, .int (nI st), .int (nI nx), .int (nI pa), .int (nI du), .int (nI ta)])), (d, .inr (0, [.ref da, .int (nI r.2)])), (da, .inl (ca 0, 2, .inl (fun j => nI (r.1 j)))), (x, .inr (3, [.ref ss])), (ss, .inl (ca 2, 2, .inr (.inr (.inr (.inr fs)))))] := hD
  refine lv_astore_n hx hb dCl_accept_5 rfl hl (by decide) rfl (fun ls hl => ?_)
  have hl : lv_has ls 5 [(3, .ref h), (0, .ref x), (1, .int (nI s₀)), (2, .int (nI cn))] := hl
  refine lv_aload_n hx hb dCl_accept_6 rfl (lv_at hl 0 rfl) ?_
  refine lv_iload_n hx hb dCl_accept_7 rfl (lv_at hl 3 rfl) ?_
  refine kA (rS fx (c_Cl_channelAt l D ca h ln pe ou cs lk sn ac ex tr rj fc cn q (by omega) hq) ⟨callB_of 2 hts (tb_gi tw_474) rfl rfl rfl (ht _ tw_1) (ht _ tw_472) (by decide +kernel) ⟨(Nat.le_of_ble_eq_true rfl), (Nat.le_of_ble_eq_true rfl)⟩, ht _ tw_473⟩ hE hP hD [0, 3] rfl rfl rfl hl.1 rfl (Nat.le_of_ble_eq_true rfl) dCl_accept_8 ⟨(Nat.le_of_ble_eq_true rfl), (Nat.le_of_ble_eq_true rfl)⟩) hP hD hS hA [0, 3] [1, 2, 4, 5, 6, 7, 8] rfl rfl rfl (by decide) (fun _ H locs _ hP hD hS => ?_)
  have hP : va_P D cls_ [(ou, .inr (0, [.ref oua, .int (nI O.2)])), (oua, .inl (ca 0, 16, .inl (fun j => nI (O.1 j)))), (q, .inr (1, [.int (nI y), .ref d, .int (nI st), .int (nI nx), .int (nI pa), .int (nI du), .int (nI ta)])), (d, .inr (0, [.ref da, .int (nI r.2)])), (da, .inl (ca 0, 2, .inl (fun j => nI (r.1 j)))), (x, .inr (3, [.ref ss])), (ss, .inl (ca 2, 2, .inr (.inr (.inr (.inr fs))))), (h, .inr (2, [.ref ln, .ref pe, .ref ou, .ref cs, .int (nI lk), .int (nI sn), .int (nI ac), .int (nI ex), .int (nI tr), .int (nI rj)])), (cs, .inl (ca 3, 3, .inr (.inr (.inr (.inr fc)))))] H := hP
  have hD : va_D A [(ou, .inr (0, [.ref oua, .int (nI O.2)])), (oua, .inl (ca 0, 16, .inl (fun j => nI (O.1 j)))), (q, .inr (1, [.int (nI y), .ref d, .int (nI st), .int (nI nx), .int (nI pa), .int (nI du), .int (nI ta)])), (d, .inr (0, [.ref da, .int (nI r.2)])), (da, .inl (ca 0, 2, .inl (fun j => nI (r.1 j)))), (x, .inr (3, [.ref ss])), (ss, .inl (ca 2, 2, .inr (.inr (.inr (.inr fs))))), (h, .inr (2, [.ref ln, .ref pe, .ref ou, .ref cs, .int (nI lk), .int (nI sn), .int (nI ac), .int (nI ex), .int (nI tr), .int (nI rj)])), (cs, .inl (ca 3, 3, .inr (.inr (.inr (.inr fc)))))] := hD
  refine lv_astore hx hb dCl_accept_11 hl (by decide) rfl (fun ls hl => ?_)
  have hl : lv_has ls 5 [(4, .ref q), (3, .ref h), (0, .ref x), (1, .int (nI s₀)), (2, .int (nI cn))] := hl
  refine lv_aload_n hx hb dCl_accept_13 rfl (lv_at hl 1 rfl) ?_
  refine kI (rV fx (c_St_takesCalls l D ca h ln pe ou cs lk sn ac ex tr rj oua O (by omega) (by omega)) ⟨callB_of 0 hts (tb_gi tw_478) rfl rfl rfl (ht _ tw_3) (ht _ tw_475) (by decide +kernel) ⟨(Nat.le_of_ble_eq_true rfl), (Nat.le_of_ble_eq_true rfl)⟩, ht _ tw_476, ht _ tw_477⟩ hE hP hD 7 rfl rfl rfl [7, 0, 1] rfl rfl rfl hl.1 rfl (Nat.le_of_ble_eq_true rfl) dCl_accept_14 ⟨(Nat.le_of_ble_eq_true rfl), (Nat.le_of_ble_eq_true rfl)⟩) hP hD hS hA [7, 0, 1] [2, 3, 4, 5, 6, 8] rfl rfl rfl (by decide) (fun _ H locs _ hP hD hS => ?_)
  have hP : va_P D cls_ [(q, .inr (1, [.int (nI y), .ref d, .int (nI st), .int (nI nx), .int (nI pa), .int (nI du), .int (nI ta)])), (d, .inr (0, [.ref da, .int (nI r.2)])), (da, .inl (ca 0, 2, .inl (fun j => nI (r.1 j)))), (x, .inr (3, [.ref ss])), (ss, .inl (ca 2, 2, .inr (.inr (.inr (.inr fs))))), (cs, .inl (ca 3, 3, .inr (.inr (.inr (.inr fc))))), (h, .inr (2, [.ref ln, .ref pe, .ref ou, .ref cs, .int (nI lk), .int (nI sn), .int (nI ac), .int (nI ex), .int (nI tr), .int (nI rj)])), (ou, .inr (0, [.ref oua, .int (nI O.2)])), (oua, .inl (ca 0, 16, .inl (fun j => nI (O.1 j))))] H := hP
  have hD : va_D A [(q, .inr (1, [.int (nI y), .ref d, .int (nI st), .int (nI nx), .int (nI pa), .int (nI du), .int (nI ta)])), (d, .inr (0, [.ref da, .int (nI r.2)])), (da, .inl (ca 0, 2, .inl (fun j => nI (r.1 j)))), (x, .inr (3, [.ref ss])), (ss, .inl (ca 2, 2, .inr (.inr (.inr (.inr fs))))), (cs, .inl (ca 3, 3, .inr (.inr (.inr (.inr fc))))), (h, .inr (2, [.ref ln, .ref pe, .ref ou, .ref cs, .int (nI lk), .int (nI sn), .int (nI ac), .int (nI ex), .int (nI tr), .int (nI rj)])), (ou, .inr (0, [.ref oua, .int (nI O.2)])), (oua, .inl (ca 0, 16, .inl (fun j => nI (O.1 j))))] := hD
  refine k_is (y := nI 1) (by rw [e3]) ?_
  refine k_if_eq (tgt := 33) hx hb (by omega) dCl_accept_17 rfl (fun hz => absurd hz (by omega)) (fun h17 => ?_)
  refine lv_aload hx hb dCl_accept_20 (lv_at hl 0 rfl) ?_
  refine va_getN (D := D) (ci := 1) (v := .int (nI st)) (host := "ChannelledLink") (C := RCh) (T := TCh) (N := 7) hx hb ht inCh hown hE.1 hP 0 rfl rfl 2 (by decide) (hE.nestU tw_64 rfl) (fun _ h => h) rfl dCl_accept_22 ?_
  refine lv_iconst (v := nI 2) hx hb dCl_accept_25 (by decide) ?_
  refine k_icmp_ne (tgt := 33) hx hb (by omega) (by omega) dCl_accept_26 rfl (fun h26 => ?_) (fun hz => absurd hz (by omega))
  refine lv_iconst (v := nI 0) hx hb dCl_accept_33 (by decide) ?_
  refine kX (xS fx (x_Cl_requireState l hlT D ca) ⟨callB_of 1 hts (tb_gi tw_253) rfl rfl rfl (ht _ tw_1) (ht _ tw_251) (by decide +kernel) ⟨(Nat.le_of_ble_eq_true rfl), (Nat.le_of_ble_eq_true rfl)⟩, ht _ tw_252⟩ hE hZ hP hD hS hA [] rfl rfl rfl hl.1 rfl (Nat.le_of_ble_eq_true rfl) dCl_accept_34 ⟨(Nat.le_of_ble_eq_true rfl), (Nat.le_of_ble_eq_true rfl)⟩) hP hD hS hA [] [0, 1, 2, 3, 4, 5, 6, 7, 8] rfl rfl rfl (by decide) (fun ce q9 H locs hP hD hS hce hcv hcl => ?_)
  have hP : va_P D cls_ [(q, .inr (1, [.int (nI y), .ref d, .int (nI st), .int (nI nx), .int (nI pa), .int (nI du), .int (nI ta)])), (d, .inr (0, [.ref da, .int (nI r.2)])), (da, .inl (ca 0, 2, .inl (fun j => nI (r.1 j)))), (x, .inr (3, [.ref ss])), (ss, .inl (ca 2, 2, .inr (.inr (.inr (.inr fs))))), (cs, .inl (ca 3, 3, .inr (.inr (.inr (.inr fc))))), (h, .inr (2, [.ref ln, .ref pe, .ref ou, .ref cs, .int (nI lk), .int (nI sn), .int (nI ac), .int (nI ex), .int (nI tr), .int (nI rj)])), (ou, .inr (0, [.ref oua, .int (nI O.2)])), (oua, .inl (ca 0, 16, .inl (fun j => nI (O.1 j))))] H := hP
  have hD : va_D A [(q, .inr (1, [.int (nI y), .ref d, .int (nI st), .int (nI nx), .int (nI pa), .int (nI du), .int (nI ta)])), (d, .inr (0, [.ref da, .int (nI r.2)])), (da, .inl (ca 0, 2, .inl (fun j => nI (r.1 j)))), (x, .inr (3, [.ref ss])), (ss, .inl (ca 2, 2, .inr (.inr (.inr (.inr fs))))), (cs, .inl (ca 3, 3, .inr (.inr (.inr (.inr fc))))), (h, .inr (2, [.ref ln, .ref pe, .ref ou, .ref cs, .int (nI lk), .int (nI sn), .int (nI ac), .int (nI ex), .int (nI tr), .int (nI rj)])), (ou, .inr (0, [.ref oua, .int (nI O.2)])), (oua, .inl (ca 0, 16, .inl (fun j => nI (O.1 j))))] := hD
  have hP : va_P D cls_ [(x, .inr (3, [.ref ss])), (ss, .inl (ca 2, 2, .inr (.inr (.inr (.inr fs))))), (h, .inr (2, [.ref ln, .ref pe, .ref ou, .ref cs, .int (nI lk), .int (nI sn), .int (nI ac), .int (nI ex), .int (nI tr), .int (nI rj)])), (ou, .inr (0, [.ref oua, .int (nI O.2)])), (oua, .inl (ca 0, 16, .inl (fun j => nI (O.1 j)))), (cs, .inl (ca 3, 3, .inr (.inr (.inr (.inr fc))))), (q, .inr (1, [.int (nI y), .ref d, .int (nI st), .int (nI nx), .int (nI pa), .int (nI du), .int (nI ta)])), (d, .inr (0, [.ref da, .int (nI r.2)])), (da, .inl (ca 0, 2, .inl (fun j => nI (r.1 j))))] H := hP.sub [3, 4, 6, 7, 8, 5, 0, 1, 2] rfl
  have hD : va_D A [(x, .inr (3, [.ref ss])), (ss, .inl (ca 2, 2, .inr (.inr (.inr (.inr fs))))), (h, .inr (2, [.ref ln, .ref pe, .ref ou, .ref cs, .int (nI lk), .int (nI sn), .int (nI ac), .int (nI ex), .int (nI tr), .int (nI rj)])), (ou, .inr (0, [.ref oua, .int (nI O.2)])), (oua, .inl (ca 0, 16, .inl (fun j => nI (O.1 j)))), (cs, .inl (ca 3, 3, .inr (.inr (.inr (.inr fc))))), (q, .inr (1, [.int (nI y), .ref d, .int (nI st), .int (nI nx), .int (nI pa), .int (nI du), .int (nI ta)])), (d, .inr (0, [.ref da, .int (nI r.2)])), (da, .inl (ca 0, 2, .inl (fun j => nI (r.1 j))))] := hD.sub [3, 4, 6, 7, 8, 5, 0, 1, 2] rfl rfl
  exact xout hnt hlk hce hcv hcl hP hD hS (Nat.le_of_ble_eq_true rfl) (Nat.le_of_ble_eq_true rfl)
set_option maxHeartbeats 4000000 in
set_option maxRecDepth 100000 in
theorem x_Cl_reset_u (l : Launch) (hlT : l.stackTraces = false) (D : va_G) (ca : Nat → ClassId) (x ss : Nat) (fs : Nat → Option Nat) (s₀ : Nat) (hs0 : s₀ < 2) (h ln pe ou cs lk sn ac ex tr rj : Nat) (oua : Nat) (O : Rw_) (fc : Nat → Option Nat) (q d da y st nx pa du ta : Nat) (r : Rw_) (cn : Nat) (hcn : cn < 3) (hq : fc cn = some q) (hfs : fs s₀ = some h) (hlk2 : lk < 3) (hO1 : O.2 ≤ 16) (hst : st < 6) (hup : ¬ (lk = 2 ∧ O.2 ≤ 9)) : CoX l yCl_reset (Cond.code yCl_reset cCl_reset 5 none :: tb_) { frames := 8, cells := 1, slots := 6, locals := 256 } D ca [.ref x, .int (nI s₀), .int (nI cn)] [(x, .inr (3, [.ref ss])), (ss, .inl (ca 2, 2, .inr (.inr (.inr (.inr fs))))), (h, .inr (2, [.ref ln, .ref pe, .ref ou, .ref cs, .int (nI lk), .int (nI sn), .int (nI ac), .int (nI ex), .int (nI tr), .int (nI rj)])), (ou, .inr (0, [.ref oua, .int (nI O.2)])), (oua, .inl (ca 0, 16, .inl (fun j => nI (O.1 j)))), (cs, .inl (ca 3, 3, .inr (.inr (.inr (.inr fc))))), (q, .inr (1, [.int (nI y), .ref d, .int (nI st), .int (nI nx), .int (nI pa), .int (nI du), .int (nI ta)])), (d, .inr (0, [.ref da, .int (nI r.2)])), (da, .inl (ca 0, 2, .inl (fun j => nI (r.1 j))))] "java/lang/IllegalStateException" 1 6 := by
  refine CoX.of cCl_reset 5 none (by decide) (Nat.le_of_ble_eq_true rfl) ?_
  intro p e s m args below meth c A ls fx hret hlk hnt hE hZ hP hD hS hA hl
  have hx := fx.1
  have hb := fx.2.1
  have hown : s.vm.findClass RCl = some m.cls := fx.2.2.2.1
  have hts := fx.2.2.2.2
  have ht : ∀ w ∈ tb_, w.before args s = true := fun w h => hts w (List.mem_cons_of_mem _ h)
  have e3 : (if lk = 2 ∧ O.2 ≤ 9 then 1 else 0) = 0 := if_neg hup
  have hl : lv_has ls 5 [(0, .ref x), (1, .int (nI s₀)), (2, .int (nI cn))] := hl
  refine lv_aload_n hx hb dCl_reset_0 rfl (lv_at hl 0 rfl) ?_
  refine lv_iload_n hx hb dCl_reset_1 rfl (lv_at hl 1 rfl) ?_
  refine kA (rV fx (c_Cl_stationAt l D ca x ss fs s₀ hs0 h hfs) ⟨callB_of 1 hts (tb_gi tw_143) rfl rfl rfl (ht _ tw_1) (ht _ tw_140) (by decide +kernel) ⟨(Nat.le_of_ble_eq_true rfl), (Nat.le_of_ble_eq_true rfl)⟩, ht _ tw_142, ht _ tw_826⟩ hE hP hD 0 rfl rfl rfl [0, 1] rfl rfl rfl hl.1 rfl (Nat.le_of_ble_eq_true rfl) dCl_reset_2 ⟨(Nat.le_of_ble_eq_true rfl), (Nat.le_of_ble_eq_true rfl)⟩) hP hD hS hA [0, 1] [2, 3, 4, 5, 6, 7, 8] rfl rfl rfl (by decide) (fun _ H locs _ hP hD hS => ?_)
  have hP : va_P D cls_ [(h, .inr (2, [.ref ln, .ref pe, .ref ou, .ref cs, .int (nI lk), .int (nI sn), .int (nI ac), .int (nI ex), .int (nI tr), .int (nI rj)])), (ou, .inr (0, [.ref oua, .int (nI O.2)])), (oua, .inl (ca 0, 16, .inl (fun j => nI (O.1 j)))), (cs, .inl (ca 3, 3, .inr (.inr (.inr (.inr fc))))), (q, .inr (1, [.int (nI y), .ref d, .int (nI st), .int (nI nx), .int (nI pa), .int (nI du), .int (nI ta)])), (d, .inr (0, [.ref da, .int (nI r.2)])), (da, .inl (ca 0, 2, .inl (fun j => nI (r.1 j)))), (x, .inr (3, [.ref ss])), (ss, .inl (ca 2, 2, .inr (.inr (.inr (.inr fs)))))] H := hP
  have hD : va_D A [(h, .inr (2, [.ref ln, .ref pe, .ref ou, .ref cs, .int (nI lk), .int (nI sn), .int (nI ac), .int (nI ex), .int (nI tr), .int (nI rj)])), (ou, .inr (0, [.ref oua, .int (nI O.2)])), (oua, .inl (ca 0, 16, .inl (fun j => nI (O.1 j)))), (cs, .inl (ca 3, 3, .inr (.inr (.inr (.inr fc))))), (q, .inr (1, [.int (nI y), .ref d, .int (nI st), .int (nI nx), .int (nI pa), .int (nI du), .int (nI ta)])), (d, .inr (0, [.ref da, .int (nI r.2)])), (da, .inl (ca 0, 2, .inl (fun j => nI (r.1 j)))), (x, .inr (3, [.ref ss])), (ss, .inl (ca 2, 2, .inr (.inr (.inr (.inr fs)))))] := hD
  refine lv_astore_n hx hb dCl_reset_5 rfl hl (by decide) rfl (fun ls hl => ?_)
  have hl : lv_has ls 5 [(3, .ref h), (0, .ref x), (1, .int (nI s₀)), (2, .int (nI cn))] := hl
  refine lv_aload_n hx hb dCl_reset_6 rfl (lv_at hl 0 rfl) ?_
  refine lv_iload_n hx hb dCl_reset_7 rfl (lv_at hl 3 rfl) ?_
  refine kA (rS fx (c_Cl_channelAt l D ca h ln pe ou cs lk sn ac ex tr rj fc cn q (by omega) hq) ⟨callB_of 2 hts (tb_gi tw_474) rfl rfl rfl (ht _ tw_1) (ht _ tw_472) (by decide +kernel) ⟨(Nat.le_of_ble_eq_true rfl), (Nat.le_of_ble_eq_true rfl)⟩, ht _ tw_473⟩ hE hP hD [0, 3] rfl rfl rfl hl.1 rfl (Nat.le_of_ble_eq_true rfl) dCl_reset_8 ⟨(Nat.le_of_ble_eq_true rfl), (Nat.le_of_ble_eq_true rfl)⟩) hP hD hS hA [0, 3] [1, 2, 4, 5, 6, 7, 8] rfl rfl rfl (by decide) (fun _ H locs _ hP hD hS => ?_)
  have hP : va_P D cls_ [(ou, .inr (0, [.ref oua, .int (nI O.2)])), (oua, .inl (ca 0, 16, .inl (fun j => nI (O.1 j)))), (q, .inr (1, [.int (nI y), .ref d, .int (nI st), .int (nI nx), .int (nI pa), .int (nI du), .int (nI ta)])), (d, .inr (0, [.ref da, .int (nI r.2)])), (da, .inl (ca 0, 2, .inl (fun j => nI (r.1 j)))), (x, .inr (3, [.ref ss])), (ss, .inl (ca 2, 2, .inr (.inr (.inr (.inr fs))))), (h, .inr (2, [.ref ln, .ref pe, .ref ou, .ref cs, .int (nI lk), .int (nI sn), .int (nI ac), .int (nI ex), .int (nI tr), .int (nI rj)])), (cs, .inl (ca 3, 3, .inr (.inr (.inr (.inr fc)))))] H := hP
  have hD : va_D A [(ou, .inr (0, [.ref oua, .int (nI O.2)])), (oua, .inl (ca 0, 16, .inl (fun j => nI (O.1 j)))), (q, .inr (1, [.int (nI y), .ref d, .int (nI st), .int (nI nx), .int (nI pa), .int (nI du), .int (nI ta)])), (d, .inr (0, [.ref da, .int (nI r.2)])), (da, .inl (ca 0, 2, .inl (fun j => nI (r.1 j)))), (x, .inr (3, [.ref ss])), (ss, .inl (ca 2, 2, .inr (.inr (.inr (.inr fs))))), (h, .inr (2, [.ref ln, .ref pe, .ref ou, .ref cs, .int (nI lk), .int (nI sn), .int (nI ac), .int (nI ex), .int (nI tr), .int (nI rj)])), (cs, .inl (ca 3, 3, .inr (.inr (.inr (.inr fc)))))] := hD
  refine lv_astore hx hb dCl_reset_11 hl (by decide) rfl (fun ls hl => ?_)
  have hl : lv_has ls 5 [(4, .ref q), (3, .ref h), (0, .ref x), (1, .int (nI s₀)), (2, .int (nI cn))] := hl
  refine lv_aload_n hx hb dCl_reset_13 rfl (lv_at hl 1 rfl) ?_
  refine kI (rV fx (c_St_takesCalls l D ca h ln pe ou cs lk sn ac ex tr rj oua O (by omega) (by omega)) ⟨callB_of 0 hts (tb_gi tw_478) rfl rfl rfl (ht _ tw_3) (ht _ tw_475) (by decide +kernel) ⟨(Nat.le_of_ble_eq_true rfl), (Nat.le_of_ble_eq_true rfl)⟩, ht _ tw_476, ht _ tw_477⟩ hE hP hD 7 rfl rfl rfl [7, 0, 1] rfl rfl rfl hl.1 rfl (Nat.le_of_ble_eq_true rfl) dCl_reset_14 ⟨(Nat.le_of_ble_eq_true rfl), (Nat.le_of_ble_eq_true rfl)⟩) hP hD hS hA [7, 0, 1] [2, 3, 4, 5, 6, 8] rfl rfl rfl (by decide) (fun _ H locs _ hP hD hS => ?_)
  have hP : va_P D cls_ [(q, .inr (1, [.int (nI y), .ref d, .int (nI st), .int (nI nx), .int (nI pa), .int (nI du), .int (nI ta)])), (d, .inr (0, [.ref da, .int (nI r.2)])), (da, .inl (ca 0, 2, .inl (fun j => nI (r.1 j)))), (x, .inr (3, [.ref ss])), (ss, .inl (ca 2, 2, .inr (.inr (.inr (.inr fs))))), (cs, .inl (ca 3, 3, .inr (.inr (.inr (.inr fc))))), (h, .inr (2, [.ref ln, .ref pe, .ref ou, .ref cs, .int (nI lk), .int (nI sn), .int (nI ac), .int (nI ex), .int (nI tr), .int (nI rj)])), (ou, .inr (0, [.ref oua, .int (nI O.2)])), (oua, .inl (ca 0, 16, .inl (fun j => nI (O.1 j))))] H := hP
  have hD : va_D A [(q, .inr (1, [.int (nI y), .ref d, .int (nI st), .int (nI nx), .int (nI pa), .int (nI du), .int (nI ta)])), (d, .inr (0, [.ref da, .int (nI r.2)])), (da, .inl (ca 0, 2, .inl (fun j => nI (r.1 j)))), (x, .inr (3, [.ref ss])), (ss, .inl (ca 2, 2, .inr (.inr (.inr (.inr fs))))), (cs, .inl (ca 3, 3, .inr (.inr (.inr (.inr fc))))), (h, .inr (2, [.ref ln, .ref pe, .ref ou, .ref cs, .int (nI lk), .int (nI sn), .int (nI ac), .int (nI ex), .int (nI tr), .int (nI rj)])), (ou, .inr (0, [.ref oua, .int (nI O.2)])), (oua, .inl (ca 0, 16, .inl (fun j => nI (O.1 j))))] := hD
  refine k_is (y := nI 0) (by rw [e3]) ?_
  refine k_if_eq (tgt := 33) hx hb (by omega) dCl_reset_17 rfl (fun h17 => ?_) (fun hz => absurd hz (by omega))
  refine lv_iconst (v := nI 0) hx hb dCl_reset_33 (by decide) ?_
  refine kX (xS fx (x_Cl_requireState l hlT D ca) ⟨callB_of 1 hts (tb_gi tw_253) rfl rfl rfl (ht _ tw_1) (ht _ tw_251) (by decide +kernel) ⟨(Nat.le_of_ble_eq_true rfl), (Nat.le_of_ble_eq_true rfl)⟩, ht _ tw_252⟩ hE hZ hP hD hS hA [] rfl rfl rfl hl.1 rfl (Nat.le_of_ble_eq_true rfl) dCl_reset_34 ⟨(Nat.le_of_ble_eq_true rfl), (Nat.le_of_ble_eq_true rfl)⟩) hP hD hS hA [] [0, 1, 2, 3, 4, 5, 6, 7, 8] rfl rfl rfl (by decide) (fun ce q9 H locs hP hD hS hce hcv hcl => ?_)
  have hP : va_P D cls_ [(q, .inr (1, [.int (nI y), .ref d, .int (nI st), .int (nI nx), .int (nI pa), .int (nI du), .int (nI ta)])), (d, .inr (0, [.ref da, .int (nI r.2)])), (da, .inl (ca 0, 2, .inl (fun j => nI (r.1 j)))), (x, .inr (3, [.ref ss])), (ss, .inl (ca 2, 2, .inr (.inr (.inr (.inr fs))))), (cs, .inl (ca 3, 3, .inr (.inr (.inr (.inr fc))))), (h, .inr (2, [.ref ln, .ref pe, .ref ou, .ref cs, .int (nI lk), .int (nI sn), .int (nI ac), .int (nI ex), .int (nI tr), .int (nI rj)])), (ou, .inr (0, [.ref oua, .int (nI O.2)])), (oua, .inl (ca 0, 16, .inl (fun j => nI (O.1 j))))] H := hP
  have hD : va_D A [(q, .inr (1, [.int (nI y), .ref d, .int (nI st), .int (nI nx), .int (nI pa), .int (nI du), .int (nI ta)])), (d, .inr (0, [.ref da, .int (nI r.2)])), (da, .inl (ca 0, 2, .inl (fun j => nI (r.1 j)))), (x, .inr (3, [.ref ss])), (ss, .inl (ca 2, 2, .inr (.inr (.inr (.inr fs))))), (cs, .inl (ca 3, 3, .inr (.inr (.inr (.inr fc))))), (h, .inr (2, [.ref ln, .ref pe, .ref ou, .ref cs, .int (nI lk), .int (nI sn), .int (nI ac), .int (nI ex), .int (nI tr), .int (nI rj)])), (ou, .inr (0, [.ref oua, .int (nI O.2)])), (oua, .inl (ca 0, 16, .inl (fun j => nI (O.1 j))))] := hD
  have hP : va_P D cls_ [(x, .inr (3, [.ref ss])), (ss, .inl (ca 2, 2, .inr (.inr (.inr (.inr fs))))), (h, .inr (2, [.ref ln, .ref pe, .ref ou, .ref cs, .int (nI lk), .int (nI sn), .int (nI ac), .int (nI ex), .int (nI tr), .int (nI rj)])), (ou, .inr (0, [.ref oua, .int (nI O.2)])), (oua, .inl (ca 0, 16, .inl (fun j => nI (O.1 j)))), (cs, .inl (ca 3, 3, .inr (.inr (.inr (.inr fc))))), (q, .inr (1, [.int (nI y), .ref d, .int (nI st), .int (nI nx), .int (nI pa), .int (nI du), .int (nI ta)])), (d, .inr (0, [.ref da, .int (nI r.2)])), (da, .inl (ca 0, 2, .inl (fun j => nI (r.1 j))))] H := hP.sub [3, 4, 6, 7, 8, 5, 0, 1, 2] rfl
  have hD : va_D A [(x, .inr (3, [.ref ss])), (ss, .inl (ca 2, 2, .inr (.inr (.inr (.inr fs))))), (h, .inr (2, [.ref ln, .ref pe, .ref ou, .ref cs, .int (nI lk), .int (nI sn), .int (nI ac), .int (nI ex), .int (nI tr), .int (nI rj)])), (ou, .inr (0, [.ref oua, .int (nI O.2)])), (oua, .inl (ca 0, 16, .inl (fun j => nI (O.1 j)))), (cs, .inl (ca 3, 3, .inr (.inr (.inr (.inr fc))))), (q, .inr (1, [.int (nI y), .ref d, .int (nI st), .int (nI nx), .int (nI pa), .int (nI du), .int (nI ta)])), (d, .inr (0, [.ref da, .int (nI r.2)])), (da, .inl (ca 0, 2, .inl (fun j => nI (r.1 j))))] := hD.sub [3, 4, 6, 7, 8, 5, 0, 1, 2] rfl rfl
  exact xout hnt hlk hce hcv hcl hP hD hS (Nat.le_of_ble_eq_true rfl) (Nat.le_of_ble_eq_true rfl)
set_option maxHeartbeats 4000000 in
set_option maxRecDepth 100000 in
theorem x_Cl_reset_t (l : Launch) (hlT : l.stackTraces = false) (D : va_G) (ca : Nat → ClassId) (x ss : Nat) (fs : Nat → Option Nat) (s₀ : Nat) (hs0 : s₀ < 2) (h ln pe ou cs lk sn ac ex tr rj : Nat) (oua : Nat) (O : Rw_) (fc : Nat → Option Nat) (q d da y st nx pa du ta : Nat) (r : Rw_) (cn : Nat) (hcn : cn < 3) (hq : fc cn = some q) (hfs : fs s₀ = some h) (hlk2 : lk < 3) (hO1 : O.2 ≤ 16) (hst : st < 6) (hup : lk = 2 ∧ O.2 ≤ 9) (hst2 : st ≠ 3) : CoX l yCl_reset (Cond.code yCl_reset cCl_reset 5 none :: tb_) { frames := 8, cells := 1, slots := 6, locals := 256 } D ca [.ref x, .int (nI s₀), .int (nI cn)] [(x, .inr (3, [.ref ss])), (ss, .inl (ca 2, 2, .inr (.inr (.inr (.inr fs))))), (h, .inr (2, [.ref ln, .ref pe, .ref ou, .ref cs, .int (nI lk), .int (nI sn), .int (nI ac), .int (nI ex), .int (nI tr), .int (nI rj)])), (ou, .inr (0, [.ref oua, .int (nI O.2)])), (oua, .inl (ca 0, 16, .inl (fun j => nI (O.1 j)))), (cs, .inl (ca 3, 3, .inr (.inr (.inr (.inr fc))))), (q, .inr (1, [.int (nI y), .ref d, .int (nI st), .int (nI nx), .int (nI pa), .int (nI du), .int (nI ta)])), (d, .inr (0, [.ref da, .int (nI r.2)])), (da, .inl (ca 0, 2, .inl (fun j => nI (r.1 j))))] "java/lang/IllegalStateException" 1 6 := by
  refine CoX.of cCl_reset 5 none (by decide) (Nat.le_of_ble_eq_true rfl) ?_
  intro p e s m args below meth c A ls fx hret hlk hnt hE hZ hP hD hS hA hl
  have hx := fx.1
  have hb := fx.2.1
  have hown : s.vm.findClass RCl = some m.cls := fx.2.2.2.1
  have hts := fx.2.2.2.2
  have ht : ∀ w ∈ tb_, w.before args s = true := fun w h => hts w (List.mem_cons_of_mem _ h)
  have e3 : (if lk = 2 ∧ O.2 ≤ 9 then 1 else 0) = 1 := if_pos hup
  have hl : lv_has ls 5 [(0, .ref x), (1, .int (nI s₀)), (2, .int (nI cn))] := hl
  refine lv_aload_n hx hb dCl_reset_0 rfl (lv_at hl 0 rfl) ?_
  refine lv_iload_n hx hb dCl_reset_1 rfl (lv_at hl 1 rfl) ?_
  refine kA (rV fx (c_Cl_stationAt l D ca x ss fs s₀ hs0 h hfs) ⟨callB_of 1 hts (tb_gi tw_143) rfl rfl rfl (ht _ tw_1) (ht _ tw_140) (by decide +kernel) ⟨(Nat.le_of_ble_eq_true rfl), (Nat.le_of_ble_eq_true rfl)⟩, ht _ tw_142, ht _ tw_826⟩ hE hP hD 0 rfl rfl rfl [0, 1] rfl rfl rfl hl.1 rfl (Nat.le_of_ble_eq_true rfl) dCl_reset_2 ⟨(Nat.le_of_ble_eq_true rfl), (Nat.le_of_ble_eq_true rfl)⟩) hP hD hS hA [0, 1] [2, 3, 4, 5, 6, 7, 8] rfl rfl rfl (by decide) (fun _ H locs _ hP hD hS => ?_)
  have hP : va_P D cls_ [(h, .inr (2, [.ref ln, .ref pe, .ref ou, .ref cs, .int (nI lk), .int (nI sn), .int (nI ac), .int (nI ex), .int (nI tr), .int (nI rj)])), (ou, .inr (0, [.ref oua, .int (nI O.2)])), (oua, .inl (ca 0, 16, .inl (fun j => nI (O.1 j)))), (cs, .inl (ca 3, 3, .inr (.inr (.inr (.inr fc))))), (q, .inr (1, [.int (nI y), .ref d, .int (nI st), .int (nI nx), .int (nI pa), .int (nI du), .int (nI ta)])), (d, .inr (0, [.ref da, .int (nI r.2)])), (da, .inl (ca 0, 2, .inl (fun j => nI (r.1 j)))), (x, .inr (3, [.ref ss])), (ss, .inl (ca 2, 2, .inr (.inr (.inr (.inr fs)))))] H := hP
  have hD : va_D A [(h, .inr (2, [.ref ln, .ref pe, .ref ou, .ref cs, .int (nI lk), .int (nI sn), .int (nI ac), .int (nI ex), .int (nI tr), .int (nI rj)])), (ou, .inr (0, [.ref oua, .int (nI O.2)])), (oua, .inl (ca 0, 16, .inl (fun j => nI (O.1 j)))), (cs, .inl (ca 3, 3, .inr (.inr (.inr (.inr fc))))), (q, .inr (1, [.int (nI y), .ref d, .int (nI st), .int (nI nx), .int (nI pa), .int (nI du), .int (nI ta)])), (d, .inr (0, [.ref da, .int (nI r.2)])), (da, .inl (ca 0, 2, .inl (fun j => nI (r.1 j)))), (x, .inr (3, [.ref ss])), (ss, .inl (ca 2, 2, .inr (.inr (.inr (.inr fs)))))] := hD
  refine lv_astore_n hx hb dCl_reset_5 rfl hl (by decide) rfl (fun ls hl => ?_)
  have hl : lv_has ls 5 [(3, .ref h), (0, .ref x), (1, .int (nI s₀)), (2, .int (nI cn))] := hl
  refine lv_aload_n hx hb dCl_reset_6 rfl (lv_at hl 0 rfl) ?_
  refine lv_iload_n hx hb dCl_reset_7 rfl (lv_at hl 3 rfl) ?_
  refine kA (rS fx (c_Cl_channelAt l D ca h ln pe ou cs lk sn ac ex tr rj fc cn q (by omega) hq) ⟨callB_of 2 hts (tb_gi tw_474) rfl rfl rfl (ht _ tw_1) (ht _ tw_472) (by decide +kernel) ⟨(Nat.le_of_ble_eq_true rfl), (Nat.le_of_ble_eq_true rfl)⟩, ht _ tw_473⟩ hE hP hD [0, 3] rfl rfl rfl hl.1 rfl (Nat.le_of_ble_eq_true rfl) dCl_reset_8 ⟨(Nat.le_of_ble_eq_true rfl), (Nat.le_of_ble_eq_true rfl)⟩) hP hD hS hA [0, 3] [1, 2, 4, 5, 6, 7, 8] rfl rfl rfl (by decide) (fun _ H locs _ hP hD hS => ?_)
  have hP : va_P D cls_ [(ou, .inr (0, [.ref oua, .int (nI O.2)])), (oua, .inl (ca 0, 16, .inl (fun j => nI (O.1 j)))), (q, .inr (1, [.int (nI y), .ref d, .int (nI st), .int (nI nx), .int (nI pa), .int (nI du), .int (nI ta)])), (d, .inr (0, [.ref da, .int (nI r.2)])), (da, .inl (ca 0, 2, .inl (fun j => nI (r.1 j)))), (x, .inr (3, [.ref ss])), (ss, .inl (ca 2, 2, .inr (.inr (.inr (.inr fs))))), (h, .inr (2, [.ref ln, .ref pe, .ref ou, .ref cs, .int (nI lk), .int (nI sn), .int (nI ac), .int (nI ex), .int (nI tr), .int (nI rj)])), (cs, .inl (ca 3, 3, .inr (.inr (.inr (.inr fc)))))] H := hP
  have hD : va_D A [(ou, .inr (0, [.ref oua, .int (nI O.2)])), (oua, .inl (ca 0, 16, .inl (fun j => nI (O.1 j)))), (q, .inr (1, [.int (nI y), .ref d, .int (nI st), .int (nI nx), .int (nI pa), .int (nI du), .int (nI ta)])), (d, .inr (0, [.ref da, .int (nI r.2)])), (da, .inl (ca 0, 2, .inl (fun j => nI (r.1 j)))), (x, .inr (3, [.ref ss])), (ss, .inl (ca 2, 2, .inr (.inr (.inr (.inr fs))))), (h, .inr (2, [.ref ln, .ref pe, .ref ou, .ref cs, .int (nI lk), .int (nI sn), .int (nI ac), .int (nI ex), .int (nI tr), .int (nI rj)])), (cs, .inl (ca 3, 3, .inr (.inr (.inr (.inr fc)))))] := hD
  refine lv_astore hx hb dCl_reset_11 hl (by decide) rfl (fun ls hl => ?_)
  have hl : lv_has ls 5 [(4, .ref q), (3, .ref h), (0, .ref x), (1, .int (nI s₀)), (2, .int (nI cn))] := hl
  refine lv_aload_n hx hb dCl_reset_13 rfl (lv_at hl 1 rfl) ?_
  refine kI (rV fx (c_St_takesCalls l D ca h ln pe ou cs lk sn ac ex tr rj oua O (by omega) (by omega)) ⟨callB_of 0 hts (tb_gi tw_478) rfl rfl rfl (ht _ tw_3) (ht _ tw_475) (by decide +kernel) ⟨(Nat.le_of_ble_eq_true rfl), (Nat.le_of_ble_eq_true rfl)⟩, ht _ tw_476, ht _ tw_477⟩ hE hP hD 7 rfl rfl rfl [7, 0, 1] rfl rfl rfl hl.1 rfl (Nat.le_of_ble_eq_true rfl) dCl_reset_14 ⟨(Nat.le_of_ble_eq_true rfl), (Nat.le_of_ble_eq_true rfl)⟩) hP hD hS hA [7, 0, 1] [2, 3, 4, 5, 6, 8] rfl rfl rfl (by decide) (fun _ H locs _ hP hD hS => ?_)
  have hP : va_P D cls_ [(q, .inr (1, [.int (nI y), .ref d, .int (nI st), .int (nI nx), .int (nI pa), .int (nI du), .int (nI ta)])), (d, .inr (0, [.ref da, .int (nI r.2)])), (da, .inl (ca 0, 2, .inl (fun j => nI (r.1 j)))), (x, .inr (3, [.ref ss])), (ss, .inl (ca 2, 2, .inr (.inr (.inr (.inr fs))))), (cs, .inl (ca 3, 3, .inr (.inr (.inr (.inr fc))))), (h, .inr (2, [.ref ln, .ref pe, .ref ou, .ref cs, .int (nI lk), .int (nI sn), .int (nI ac), .int (nI ex), .int (nI tr), .int (nI rj)])), (ou, .inr (0, [.ref oua, .int (nI O.2)])), (oua, .inl (ca 0, 16, .inl (fun j => nI (O.1 j))))] H := hP
  have hD : va_D A [(q, .inr (1, [.int (nI y), .ref d, .int (nI st), .int (nI nx), .int (nI pa), .int (nI du), .int (nI ta)])), (d, .inr (0, [.ref da, .int (nI r.2)])), (da, .inl (ca 0, 2, .inl (fun j => nI (r.1 j)))), (x, .inr (3, [.ref ss])), (ss, .inl (ca 2, 2, .inr (.inr (.inr (.inr fs))))), (cs, .inl (ca 3, 3, .inr (.inr (.inr (.inr fc))))), (h, .inr (2, [.ref ln, .ref pe, .ref ou, .ref cs, .int (nI lk), .int (nI sn), .int (nI ac), .int (nI ex), .int (nI tr), .int (nI rj)])), (ou, .inr (0, [.ref oua, .int (nI O.2)])), (oua, .inl (ca 0, 16, .inl (fun j => nI (O.1 j))))] := hD
  refine k_is (y := nI 1) (by rw [e3]) ?_
  refine k_if_eq (tgt := 33) hx hb (by omega) dCl_reset_17 rfl (fun hz => absurd hz (by omega)) (fun h17 => ?_)
  refine lv_aload hx hb dCl_reset_20 (lv_at hl 0 rfl) ?_
  refine va_getN (D := D) (ci := 1) (v := .int (nI st)) (host := "ChannelledLink") (C := RCh) (T := TCh) (N := 7) hx hb ht inCh hown hE.1 hP 0 rfl rfl 2 (by decide) (hE.nestU tw_64 rfl) (fun _ h => h) rfl dCl_reset_22 ?_
  refine lv_iconst (v := nI 3) hx hb dCl_reset_25 (by decide) ?_
  refine k_icmp_ne (tgt := 33) hx hb (by omega) (by omega) dCl_reset_26 rfl (fun h26 => ?_) (fun hz => absurd hz (by omega))
  refine lv_iconst (v := nI 0) hx hb dCl_reset_33 (by decide) ?_
  refine kX (xS fx (x_Cl_requireState l hlT D ca) ⟨callB_of 1 hts (tb_gi tw_253) rfl rfl rfl (ht _ tw_1) (ht _ tw_251) (by decide +kernel) ⟨(Nat.le_of_ble_eq_true rfl), (Nat.le_of_ble_eq_true rfl)⟩, ht _ tw_252⟩ hE hZ hP hD hS hA [] rfl rfl rfl hl.1 rfl (Nat.le_of_ble_eq_true rfl) dCl_reset_34 ⟨(Nat.le_of_ble_eq_true rfl), (Nat.le_of_ble_eq_true rfl)⟩) hP hD hS hA [] [0, 1, 2, 3, 4, 5, 6, 7, 8] rfl rfl rfl (by decide) (fun ce q9 H locs hP hD hS hce hcv hcl => ?_)
  have hP : va_P D cls_ [(q, .inr (1, [.int (nI y), .ref d, .int (nI st), .int (nI nx), .int (nI pa), .int (nI du), .int (nI ta)])), (d, .inr (0, [.ref da, .int (nI r.2)])), (da, .inl (ca 0, 2, .inl (fun j => nI (r.1 j)))), (x, .inr (3, [.ref ss])), (ss, .inl (ca 2, 2, .inr (.inr (.inr (.inr fs))))), (cs, .inl (ca 3, 3, .inr (.inr (.inr (.inr fc))))), (h, .inr (2, [.ref ln, .ref pe, .ref ou, .ref cs, .int (nI lk), .int (nI sn), .int (nI ac), .int (nI ex), .int (nI tr), .int (nI rj)])), (ou, .inr (0, [.ref oua, .int (nI O.2)])), (oua, .inl (ca 0, 16, .inl (fun j => nI (O.1 j))))] H := hP
  have hD : va_D A [(q, .inr (1, [.int (nI y), .ref d, .int (nI st), .int (nI nx), .int (nI pa), .int (nI du), .int (nI ta)])), (d, .inr (0, [.ref da, .int (nI r.2)])), (da, .inl (ca 0, 2, .inl (fun j => nI (r.1 j)))), (x, .inr (3, [.ref ss])), (ss, .inl (ca 2, 2, .inr (.inr (.inr (.inr fs))))), (cs, .inl (ca 3, 3, .inr (.inr (.inr (.inr fc))))), (h, .inr (2, [.ref ln, .ref pe, .ref ou, .ref cs, .int (nI lk), .int (nI sn), .int (nI ac), .int (nI ex), .int (nI tr), .int (nI rj)])), (ou, .inr (0, [.ref oua, .int (nI O.2)])), (oua, .inl (ca 0, 16, .inl (fun j => nI (O.1 j))))] := hD
  have hP : va_P D cls_ [(x, .inr (3, [.ref ss])), (ss, .inl (ca 2, 2, .inr (.inr (.inr (.inr fs))))), (h, .inr (2, [.ref ln, .ref pe, .ref ou, .ref cs, .int (nI lk), .int (nI sn), .int (nI ac), .int (nI ex), .int (nI tr), .int (nI rj)])), (ou, .inr (0, [.ref oua, .int (nI O.2)])), (oua, .inl (ca 0, 16, .inl (fun j => nI (O.1 j)))), (cs, .inl (ca 3, 3, .inr (.inr (.inr (.inr fc))))), (q, .inr (1, [.int (nI y), .ref d, .int (nI st), .int (nI nx), .int (nI pa), .int (nI du), .int (nI ta)])), (d, .inr (0, [.ref da, .int (nI r.2)])), (da, .inl (ca 0, 2, .inl (fun j => nI (r.1 j))))] H := hP.sub [3, 4, 6, 7, 8, 5, 0, 1, 2] rfl
  have hD : va_D A [(x, .inr (3, [.ref ss])), (ss, .inl (ca 2, 2, .inr (.inr (.inr (.inr fs))))), (h, .inr (2, [.ref ln, .ref pe, .ref ou, .ref cs, .int (nI lk), .int (nI sn), .int (nI ac), .int (nI ex), .int (nI tr), .int (nI rj)])), (ou, .inr (0, [.ref oua, .int (nI O.2)])), (oua, .inl (ca 0, 16, .inl (fun j => nI (O.1 j)))), (cs, .inl (ca 3, 3, .inr (.inr (.inr (.inr fc))))), (q, .inr (1, [.int (nI y), .ref d, .int (nI st), .int (nI nx), .int (nI pa), .int (nI du), .int (nI ta)])), (d, .inr (0, [.ref da, .int (nI r.2)])), (da, .inl (ca 0, 2, .inl (fun j => nI (r.1 j))))] := hD.sub [3, 4, 6, 7, 8, 5, 0, 1, 2] rfl rfl
  exact xout hnt hlk hce hcv hcl hP hD hS (Nat.le_of_ble_eq_true rfl) (Nat.le_of_ble_eq_true rfl)
set_option maxHeartbeats 4000000 in
set_option maxRecDepth 100000 in
theorem x_Cl_clear_u (l : Launch) (hlT : l.stackTraces = false) (D : va_G) (ca : Nat → ClassId) (x ss : Nat) (fs : Nat → Option Nat) (s₀ : Nat) (hs0 : s₀ < 2) (h ln pe ou cs lk sn ac ex tr rj : Nat) (oua : Nat) (O : Rw_) (fc : Nat → Option Nat) (q d da y st nx pa du ta : Nat) (r : Rw_) (cn : Nat) (hcn : cn < 3) (hq : fc cn = some q) (hfs : fs s₀ = some h) (hlk2 : lk < 3) (hO1 : O.2 ≤ 16) (hst : st < 6) (hup : ¬ (lk = 2 ∧ O.2 ≤ 9)) : CoX l yCl_clear (Cond.code yCl_clear cCl_clear 6 none :: tb_) { frames := 8, cells := 1, slots := 6, locals := 256 } D ca [.ref x, .int (nI s₀), .int (nI cn)] [(x, .inr (3, [.ref ss])), (ss, .inl (ca 2, 2, .inr (.inr (.inr (.inr fs))))), (h, .inr (2, [.ref ln, .ref pe, .ref ou, .ref cs, .int (nI lk), .int (nI sn), .int (nI ac), .int (nI ex), .int (nI tr), .int (nI rj)])), (ou, .inr (0, [.ref oua, .int (nI O.2)])), (oua, .inl (ca 0, 16, .inl (fun j => nI (O.1 j)))), (cs, .inl (ca 3, 3, .inr (.inr (.inr (.inr fc))))), (q, .inr (1, [.int (nI y), .ref d, .int (nI st), .int (nI nx), .int (nI pa), .int (nI du), .int (nI ta)])), (d, .inr (0, [.ref da, .int (nI r.2)])), (da, .inl (ca 0, 2, .inl (fun j => nI (r.1 j))))] "java/lang/IllegalStateException" 1 6 := by
  refine CoX.of cCl_clear 6 none (by decide) (Nat.le_of_ble_eq_true rfl) ?_
  intro p e s m args below meth c A ls fx hret hlk hnt hE hZ hP hD hS hA hl
  have hx := fx.1
  have hb := fx.2.1
  have hown : s.vm.findClass RCl = some m.cls := fx.2.2.2.1
  have hts := fx.2.2.2.2
  have ht : ∀ w ∈ tb_, w.before args s = true := fun w h => hts w (List.mem_cons_of_mem _ h)
  have e3 : (if lk = 2 ∧ O.2 ≤ 9 then 1 else 0) = 0 := if_neg hup
  have hl : lv_has ls 6 [(0, .ref x), (1, .int (nI s₀)), (2, .int (nI cn))] := hl
  refine lv_aload_n hx hb dCl_clear_0 rfl (lv_at hl 0 rfl) ?_
  refine lv_iload_n hx hb dCl_clear_1 rfl (lv_at hl 1 rfl) ?_
  refine kA (rV fx (c_Cl_stationAt l D ca x ss fs s₀ hs0 h hfs) ⟨callB_of 1 hts (tb_gi tw_143) rfl rfl rfl (ht _ tw_1) (ht _ tw_140) (by decide +kernel) ⟨(Nat.le_of_ble_eq_true rfl), (Nat.le_of_ble_eq_true rfl)⟩, ht _ tw_142, ht _ tw_826⟩ hE hP hD 0 rfl rfl rfl [0, 1] rfl rfl rfl hl.1 rfl (Nat.le_of_ble_eq_true rfl) dCl_clear_2 ⟨(Nat.le_of_ble_eq_true rfl), (Nat.le_of_ble_eq_true rfl)⟩) hP hD hS hA [0, 1] [2, 3, 4, 5, 6, 7, 8] rfl rfl rfl (by decide) (fun _ H locs _ hP hD hS => ?_)
  have hP : va_P D cls_ [(h, .inr (2, [.ref ln, .ref pe, .ref ou, .ref cs, .int (nI lk), .int (nI sn), .int (nI ac), .int (nI ex), .int (nI tr), .int (nI rj)])), (ou, .inr (0, [.ref oua, .int (nI O.2)])), (oua, .inl (ca 0, 16, .inl (fun j => nI (O.1 j)))), (cs, .inl (ca 3, 3, .inr (.inr (.inr (.inr fc))))), (q, .inr (1, [.int (nI y), .ref d, .int (nI st), .int (nI nx), .int (nI pa), .int (nI du), .int (nI ta)])), (d, .inr (0, [.ref da, .int (nI r.2)])), (da, .inl (ca 0, 2, .inl (fun j => nI (r.1 j)))), (x, .inr (3, [.ref ss])), (ss, .inl (ca 2, 2, .inr (.inr (.inr (.inr fs)))))] H := hP
  have hD : va_D A [(h, .inr (2, [.ref ln, .ref pe, .ref ou, .ref cs, .int (nI lk), .int (nI sn), .int (nI ac), .int (nI ex), .int (nI tr), .int (nI rj)])), (ou, .inr (0, [.ref oua, .int (nI O.2)])), (oua, .inl (ca 0, 16, .inl (fun j => nI (O.1 j)))), (cs, .inl (ca 3, 3, .inr (.inr (.inr (.inr fc))))), (q, .inr (1, [.int (nI y), .ref d, .int (nI st), .int (nI nx), .int (nI pa), .int (nI du), .int (nI ta)])), (d, .inr (0, [.ref da, .int (nI r.2)])), (da, .inl (ca 0, 2, .inl (fun j => nI (r.1 j)))), (x, .inr (3, [.ref ss])), (ss, .inl (ca 2, 2, .inr (.inr (.inr (.inr fs)))))] := hD
  refine lv_astore_n hx hb dCl_clear_5 rfl hl (by decide) rfl (fun ls hl => ?_)
  have hl : lv_has ls 6 [(3, .ref h), (0, .ref x), (1, .int (nI s₀)), (2, .int (nI cn))] := hl
  refine lv_aload_n hx hb dCl_clear_6 rfl (lv_at hl 0 rfl) ?_
  refine lv_iload_n hx hb dCl_clear_7 rfl (lv_at hl 3 rfl) ?_
  refine kA (rS fx (c_Cl_channelAt l D ca h ln pe ou cs lk sn ac ex tr rj fc cn q (by omega) hq) ⟨callB_of 2 hts (tb_gi tw_474) rfl rfl rfl (ht _ tw_1) (ht _ tw_472) (by decide +kernel) ⟨(Nat.le_of_ble_eq_true rfl), (Nat.le_of_ble_eq_true rfl)⟩, ht _ tw_473⟩ hE hP hD [0, 3] rfl rfl rfl hl.1 rfl (Nat.le_of_ble_eq_true rfl) dCl_clear_8 ⟨(Nat.le_of_ble_eq_true rfl), (Nat.le_of_ble_eq_true rfl)⟩) hP hD hS hA [0, 3] [1, 2, 4, 5, 6, 7, 8] rfl rfl rfl (by decide) (fun _ H locs _ hP hD hS => ?_)
  have hP : va_P D cls_ [(ou, .inr (0, [.ref oua, .int (nI O.2)])), (oua, .inl (ca 0, 16, .inl (fun j => nI (O.1 j)))), (q, .inr (1, [.int (nI y), .ref d, .int (nI st), .int (nI nx), .int (nI pa), .int (nI du), .int (nI ta)])), (d, .inr (0, [.ref da, .int (nI r.2)])), (da, .inl (ca 0, 2, .inl (fun j => nI (r.1 j)))), (x, .inr (3, [.ref ss])), (ss, .inl (ca 2, 2, .inr (.inr (.inr (.inr fs))))), (h, .inr (2, [.ref ln, .ref pe, .ref ou, .ref cs, .int (nI lk), .int (nI sn), .int (nI ac), .int (nI ex), .int (nI tr), .int (nI rj)])), (cs, .inl (ca 3, 3, .inr (.inr (.inr (.inr fc)))))] H := hP
  have hD : va_D A [(ou, .inr (0, [.ref oua, .int (nI O.2)])), (oua, .inl (ca 0, 16, .inl (fun j => nI (O.1 j)))), (q, .inr (1, [.int (nI y), .ref d, .int (nI st), .int (nI nx), .int (nI pa), .int (nI du), .int (nI ta)])), (d, .inr (0, [.ref da, .int (nI r.2)])), (da, .inl (ca 0, 2, .inl (fun j => nI (r.1 j)))), (x, .inr (3, [.ref ss])), (ss, .inl (ca 2, 2, .inr (.inr (.inr (.inr fs))))), (h, .inr (2, [.ref ln, .ref pe, .ref ou, .ref cs, .int (nI lk), .int (nI sn), .int (nI ac), .int (nI ex), .int (nI tr), .int (nI rj)])), (cs, .inl (ca 3, 3, .inr (.inr (.inr (.inr fc)))))] := hD
  refine lv_astore hx hb dCl_clear_11 hl (by decide) rfl (fun ls hl => ?_)
  have hl : lv_has ls 6 [(4, .ref q), (3, .ref h), (0, .ref x), (1, .int (nI s₀)), (2, .int (nI cn))] := hl
  refine lv_aload hx hb dCl_clear_13 (lv_at hl 0 rfl) ?_
  refine va_getN (D := D) (ci := 1) (v := .int (nI st)) (host := "ChannelledLink") (C := RCh) (T := TCh) (N := 7) hx hb ht inCh hown hE.1 hP 2 rfl rfl 2 (by decide) (hE.nestU tw_64 rfl) (fun _ h => h) rfl dCl_clear_15 ?_
  refine k_if_eq (tgt := 34) hx hb (by omega) dCl_clear_18 rfl (fun h18 => ?_) (fun h18 => ?_)
  · refine lv_iconst (v := nI 0) hx hb dCl_clear_34 (by decide) ?_
    refine lv_istore hx hb dCl_clear_35 hl (by decide) rfl (fun ls hl => ?_)
    have hl : lv_has ls 6 [(5, .int (nI 0)), (4, .ref q), (3, .ref h), (0, .ref x), (1, .int (nI s₀)), (2, .int (nI cn))] := hl
    refine lv_aload_n hx hb dCl_clear_37 rfl (lv_at hl 2 rfl) ?_
    refine kI (rV fx (c_St_takesCalls l D ca h ln pe ou cs lk sn ac ex tr rj oua O (by omega) (by omega)) ⟨callB_of 0 hts (tb_gi tw_478) rfl rfl rfl (ht _ tw_3) (ht _ tw_475) (by decide +kernel) ⟨(Nat.le_of_ble_eq_true rfl), (Nat.le_of_ble_eq_true rfl)⟩, ht _ tw_476, ht _ tw_477⟩ hE hP hD 7 rfl rfl rfl [7, 0, 1] rfl rfl rfl hl.1 rfl (Nat.le_of_ble_eq_true rfl) dCl_clear_38 ⟨(Nat.le_of_ble_eq_true rfl), (Nat.le_of_ble_eq_true rfl)⟩) hP hD hS hA [7, 0, 1] [2, 3, 4, 5, 6, 8] rfl rfl rfl (by decide) (fun _ H locs _ hP hD hS => ?_)
    have hP : va_P D cls_ [(q, .inr (1, [.int (nI y), .ref d, .int (nI st), .int (nI nx), .int (nI pa), .int (nI du), .int (nI ta)])), (d, .inr (0, [.ref da, .int (nI r.2)])), (da, .inl (ca 0, 2, .inl (fun j => nI (r.1 j)))), (x, .inr (3, [.ref ss])), (ss, .inl (ca 2, 2, .inr (.inr (.inr (.inr fs))))), (cs, .inl (ca 3, 3, .inr (.inr (.inr (.inr fc))))), (h, .inr (2, [.ref ln, .ref pe, .ref ou, .ref cs, .int (nI lk), .int (nI sn), .int (nI ac), .int (nI ex), .int (nI tr), .int (nI rj)])), (ou, .inr (0, [.ref oua, .int (nI O.2)])), (oua, .inl (ca 0, 16, .inl (fun j => nI (O.1 j))))] H := hP
    have hD : va_D A [(q, .inr (1, [.int (nI y), .ref d, .int (nI st), .int (nI nx), .int (nI pa), .int (nI du), .int (nI ta)])), (d, .inr (0, [.ref da, .int (nI r.2)])), (da, .inl (ca 0, 2, .inl (fun j => nI (r.1 j)))), (x, .inr (3, [.ref ss])), (ss, .inl (ca 2, 2, .inr (.inr (.inr (.inr fs))))), (cs, .inl (ca 3, 3, .inr (.inr (.inr (.inr fc))))), (h, .inr (2, [.ref ln, .ref pe, .ref ou, .ref cs, .int (nI lk), .int (nI sn), .int (nI ac), .int (nI ex), .int (nI tr), .int (nI rj)])), (ou, .inr (0, [.ref oua, .int (nI O.2)])), (oua, .inl (ca 0, 16, .inl (fun j => nI (O.1 j))))] := hD
    refine k_is (y := nI 0) (by rw [e3]) ?_
    refine k_if_eq (tgt := 53) hx hb (by omega) dCl_clear_41 rfl (fun h41 => ?_) (fun hz => absurd hz (by omega))
    refine lv_iconst (v := nI 0) hx hb dCl_clear_53 (by decide) ?_
    refine kX (xS fx (x_Cl_requireState l hlT D ca) ⟨callB_of 1 hts (tb_gi tw_253) rfl rfl rfl (ht _ tw_1) (ht _ tw_251) (by decide +kernel) ⟨(Nat.le_of_ble_eq_true rfl), (Nat.le_of_ble_eq_true rfl)⟩, ht _ tw_252⟩ hE hZ hP hD hS hA [] rfl rfl rfl hl.1 rfl (Nat.le_of_ble_eq_true rfl) dCl_clear_54 ⟨(Nat.le_of_ble_eq_true rfl), (Nat.le_of_ble_eq_true rfl)⟩) hP hD hS hA [] [0, 1, 2, 3, 4, 5, 6, 7, 8] rfl rfl rfl (by decide) (fun ce q9 H locs hP hD hS hce hcv hcl => ?_)
    have hP : va_P D cls_ [(q, .inr (1, [.int (nI y), .ref d, .int (nI st), .int (nI nx), .int (nI pa), .int (nI du), .int (nI ta)])), (d, .inr (0, [.ref da, .int (nI r.2)])), (da, .inl (ca 0, 2, .inl (fun j => nI (r.1 j)))), (x, .inr (3, [.ref ss])), (ss, .inl (ca 2, 2, .inr (.inr (.inr (.inr fs))))), (cs, .inl (ca 3, 3, .inr (.inr (.inr (.inr fc))))), (h, .inr (2, [.ref ln, .ref pe, .ref ou, .ref cs, .int (nI lk), .int (nI sn), .int (nI ac), .int (nI ex), .int (nI tr), .int (nI rj)])), (ou, .inr (0, [.ref oua, .int (nI O.2)])), (oua, .inl (ca 0, 16, .inl (fun j => nI (O.1 j))))] H := hP
    have hD : va_D A [(q, .inr (1, [.int (nI y), .ref d, .int (nI st), .int (nI nx), .int (nI pa), .int (nI du), .int (nI ta)])), (d, .inr (0, [.ref da, .int (nI r.2)])), (da, .inl (ca 0, 2, .inl (fun j => nI (r.1 j)))), (x, .inr (3, [.ref ss])), (ss, .inl (ca 2, 2, .inr (.inr (.inr (.inr fs))))), (cs, .inl (ca 3, 3, .inr (.inr (.inr (.inr fc))))), (h, .inr (2, [.ref ln, .ref pe, .ref ou, .ref cs, .int (nI lk), .int (nI sn), .int (nI ac), .int (nI ex), .int (nI tr), .int (nI rj)])), (ou, .inr (0, [.ref oua, .int (nI O.2)])), (oua, .inl (ca 0, 16, .inl (fun j => nI (O.1 j))))] := hD
    have hP : va_P D cls_ [(x, .inr (3, [.ref ss])), (ss, .inl (ca 2, 2, .inr (.inr (.inr (.inr fs))))), (h, .inr (2, [.ref ln, .ref pe, .ref ou, .ref cs, .int (nI lk), .int (nI sn), .int (nI ac), .int (nI ex), .int (nI tr), .int (nI rj)])), (ou, .inr (0, [.ref oua, .int (nI O.2)])), (oua, .inl (ca 0, 16, .inl (fun j => nI (O.1 j)))), (cs, .inl (ca 3, 3, .inr (.inr (.inr (.inr fc))))), (q, .inr (1, [.int (nI y), .ref d, .int (nI st), .int (nI nx), .int (nI pa), .int (nI du), .int (nI ta)])), (d, .inr (0, [.ref da, .int (nI r.2)])), (da, .inl (ca 0, 2, .inl (fun j => nI (r.1 j))))] H := hP.sub [3, 4, 6, 7, 8, 5, 0, 1, 2] rfl
    have hD : va_D A [(x, .inr (3, [.ref ss])), (ss, .inl (ca 2, 2, .inr (.inr (.inr (.inr fs))))), (h, .inr (2, [.ref ln, .ref pe, .ref ou, .ref cs, .int (nI lk), .int (nI sn), .int (nI ac), .int (nI ex), .int (nI tr), .int (nI rj)])), (ou, .inr (0, [.ref oua, .int (nI O.2)])), (oua, .inl (ca 0, 16, .inl (fun j => nI (O.1 j)))), (cs, .inl (ca 3, 3, .inr (.inr (.inr (.inr fc))))), (q, .inr (1, [.int (nI y), .ref d, .int (nI st), .int (nI nx), .int (nI pa), .int (nI du), .int (nI ta)])), (d, .inr (0, [.ref da, .int (nI r.2)])), (da, .inl (ca 0, 2, .inl (fun j => nI (r.1 j))))] := hD.sub [3, 4, 6, 7, 8, 5, 0, 1, 2] rfl rfl
    exact xout hnt hlk hce hcv hcl hP hD hS (Nat.le_of_ble_eq_true rfl) (Nat.le_of_ble_eq_true rfl)
  · refine lv_aload hx hb dCl_clear_21 (lv_at hl 0 rfl) ?_
    refine va_getN (D := D) (ci := 1) (v := .int (nI st)) (host := "ChannelledLink") (C := RCh) (T := TCh) (N := 7) hx hb ht inCh hown hE.1 hP 2 rfl rfl 2 (by decide) (hE.nestU tw_64 rfl) (fun _ h => h) rfl dCl_clear_23 ?_
    refine lv_iconst (v := nI 4) hx hb dCl_clear_26 (by decide) ?_
    refine k_icmp_eq (tgt := 34) hx hb (by omega) (by omega) dCl_clear_27 rfl (fun h27 => ?_) (fun h27 => ?_)
    · refine lv_iconst (v := nI 0) hx hb dCl_clear_34 (by decide) ?_
      refine lv_istore hx hb dCl_clear_35 hl (by decide) rfl (fun ls hl => ?_)
      have hl : lv_has ls 6 [(5, .int (nI 0)), (4, .ref q), (3, .ref h), (0, .ref x), (1, .int (nI s₀)), (2, .int (nI cn))] := hl
      refine lv_aload_n hx hb dCl_clear_37 rfl (lv_at hl 2 rfl) ?_
      refine kI (rV fx (c_St_takesCalls l D ca h ln pe ou cs lk sn ac ex tr rj oua O (by omega) (by omega)) ⟨callB_of 0 hts (tb_gi tw_478) rfl rfl rfl (ht _ tw_3) (ht _ tw_475) (by decide +kernel) ⟨(Nat.le_of_ble_eq_true rfl), (Nat.le_of_ble_eq_true rfl)⟩, ht _ tw_476, ht _ tw_477⟩ hE hP hD 7 rfl rfl rfl [7, 0, 1] rfl rfl rfl hl.1 rfl (Nat.le_of_ble_eq_true rfl) dCl_clear_38 ⟨(Nat.le_of_ble_eq_true rfl), (Nat.le_of_ble_eq_true rfl)⟩) hP hD hS hA [7, 0, 1] [2, 3, 4, 5, 6, 8] rfl rfl rfl (by decide) (fun _ H locs _ hP hD hS => ?_)
      have hP : va_P D cls_ [(q, .inr (1, [.int (nI y), .ref d, .int (nI st), .int (nI nx), .int (nI pa), .int (nI du), .int (nI ta)])), (d, .inr (0, [.ref da, .int (nI r.2)])), (da, .inl (ca 0, 2, .inl (fun j => nI (r.1 j)))), (x, .inr (3, [.ref ss])), (ss, .inl (ca 2, 2, .inr (.inr (.inr (.inr fs))))), (cs, .inl (ca 3, 3, .inr (.inr (.inr (.inr fc))))), (h, .inr (2, [.ref ln, .ref pe, .ref ou, .ref cs, .int (nI lk), .int (nI sn), .int (nI ac), .int (nI ex), .int (nI tr), .int (nI rj)])), (ou, .inr (0, [.ref oua, .int (nI O.2)])), (oua, .inl (ca 0, 16, .inl (fun j => nI (O.1 j))))] H := hP
      have hD : va_D A [(q, .inr (1, [.int (nI y), .ref d, .int (nI st), .int (nI nx), .int (nI pa), .int (nI du), .int (nI ta)])), (d, .inr (0, [.ref da, .int (nI r.2)])), (da, .inl (ca 0, 2, .inl (fun j => nI (r.1 j)))), (x, .inr (3, [.ref ss])), (ss, .inl (ca 2, 2, .inr (.inr (.inr (.inr fs))))), (cs, .inl (ca 3, 3, .inr (.inr (.inr (.inr fc))))), (h, .inr (2, [.ref ln, .ref pe, .ref ou, .ref cs, .int (nI lk), .int (nI sn), .int (nI ac), .int (nI ex), .int (nI tr), .int (nI rj)])), (ou, .inr (0, [.ref oua, .int (nI O.2)])), (oua, .inl (ca 0, 16, .inl (fun j => nI (O.1 j))))] := hD
      refine k_is (y := nI 0) (by rw [e3]) ?_
      refine k_if_eq (tgt := 53) hx hb (by omega) dCl_clear_41 rfl (fun h41 => ?_) (fun hz => absurd hz (by omega))
      refine lv_iconst (v := nI 0) hx hb dCl_clear_53 (by decide) ?_
      refine kX (xS fx (x_Cl_requireState l hlT D ca) ⟨callB_of 1 hts (tb_gi tw_253) rfl rfl rfl (ht _ tw_1) (ht _ tw_251) (by decide +kernel) ⟨(Nat.le_of_ble_eq_true rfl), (Nat.le_of_ble_eq_true rfl)⟩, ht _ tw_252⟩ hE hZ hP hD hS hA [] rfl rfl rfl hl.1 rfl (Nat.le_of_ble_eq_true rfl) dCl_clear_54 ⟨(Nat.le_of_ble_eq_true rfl), (Nat.le_of_ble_eq_true rfl)⟩) hP hD hS hA [] [0, 1, 2, 3, 4, 5, 6, 7, 8] rfl rfl rfl (by decide) (fun ce q9 H locs hP hD hS hce hcv hcl => ?_)
      have hP : va_P D cls_ [(q, .inr (1, [.int (nI y), .ref d, .int (nI st), .int (nI nx), .int (nI pa), .int (nI du), .int (nI ta)])), (d, .inr (0, [.ref da, .int (nI r.2)])), (da, .inl (ca 0, 2, .inl (fun j => nI (r.1 j)))), (x, .inr (3, [.ref ss])), (ss, .inl (ca 2, 2, .inr (.inr (.inr (.inr fs))))), (cs, .inl (ca 3, 3, .inr (.inr (.inr (.inr fc))))), (h, .inr (2, [.ref ln, .ref pe, .ref ou, .ref cs, .int (nI lk), .int (nI sn), .int (nI ac), .int (nI ex), .int (nI tr), .int (nI rj)])), (ou, .inr (0, [.ref oua, .int (nI O.2)])), (oua, .inl (ca 0, 16, .inl (fun j => nI (O.1 j))))] H := hP
      have hD : va_D A [(q, .inr (1, [.int (nI y), .ref d, .int (nI st), .int (nI nx), .int (nI pa), .int (nI du), .int (nI ta)])), (d, .inr (0, [.ref da, .int (nI r.2)])), (da, .inl (ca 0, 2, .inl (fun j => nI (r.1 j)))), (x, .inr (3, [.ref ss])), (ss, .inl (ca 2, 2, .inr (.inr (.inr (.inr fs))))), (cs, .inl (ca 3, 3, .inr (.inr (.inr (.inr fc))))), (h, .inr (2, [.ref ln, .ref pe, .ref ou, .ref cs, .int (nI lk), .int (nI sn), .int (nI ac), .int (nI ex), .int (nI tr), .int (nI rj)])), (ou, .inr (0, [.ref oua, .int (nI O.2)])), (oua, .inl (ca 0, 16, .inl (fun j => nI (O.1 j))))] := hD
      have hP : va_P D cls_ [(x, .inr (3, [.ref ss])), (ss, .inl (ca 2, 2, .inr (.inr (.inr (.inr fs))))), (h, .inr (2, [.ref ln, .ref pe, .ref ou, .ref cs, .int (nI lk), .int (nI sn), .int (nI ac), .int (nI ex), .int (nI tr), .int (nI rj)])), (ou, .inr (0, [.ref oua, .int (nI O.2)])), (oua, .inl (ca 0, 16, .inl (fun j => nI (O.1 j)))), (cs, .inl (ca 3, 3, .inr (.inr (.inr (.inr fc))))), (q, .inr (1, [.int (nI y), .ref d, .int (nI st), .int (nI nx), .int (nI pa), .int (nI du), .int (nI ta)])), (d, .inr (0, [.ref da, .int (nI r.2)])), (da, .inl (ca 0, 2, .inl (fun j => nI (r.1 j))))] H := hP.sub [3, 4, 6, 7, 8, 5, 0, 1, 2] rfl
      have hD : va_D A [(x, .inr (3, [.ref ss])), (ss, .inl (ca 2, 2, .inr (.inr (.inr (.inr fs))))), (h, .inr (2, [.ref ln, .ref pe, .ref ou, .ref cs, .int (nI lk), .int (nI sn), .int (nI ac), .int (nI ex), .int (nI tr), .int (nI rj)])), (ou, .inr (0, [.ref oua, .int (nI O.2)])), (oua, .inl (ca 0, 16, .inl (fun j => nI (O.1 j)))), (cs, .inl (ca 3, 3, .inr (.inr (.inr (.inr fc))))), (q, .inr (1, [.int (nI y), .ref d, .int (nI st), .int (nI nx), .int (nI pa), .int (nI du), .int (nI ta)])), (d, .inr (0, [.ref da, .int (nI r.2)])), (da, .inl (ca 0, 2, .inl (fun j => nI (r.1 j))))] := hD.sub [3, 4, 6, 7, 8, 5, 0, 1, 2] rfl rfl
      exact xout hnt hlk hce hcv hcl hP hD hS (Nat.le_of_ble_eq_true rfl) (Nat.le_of_ble_eq_true rfl)
    · refine lv_iconst (v := nI 1) hx hb dCl_clear_30 (by decide) ?_
      refine lv_goto (tgt := 35) hx hb dCl_clear_31 rfl ?_
      refine lv_istore hx hb dCl_clear_35 hl (by decide) rfl (fun ls hl => ?_)
      have hl : lv_has ls 6 [(5, .int (nI 1)), (4, .ref q), (3, .ref h), (0, .ref x), (1, .int (nI s₀)), (2, .int (nI cn))] := hl
      refine lv_aload_n hx hb dCl_clear_37 rfl (lv_at hl 2 rfl) ?_
      refine kI (rV fx (c_St_takesCalls l D ca h ln pe ou cs lk sn ac ex tr rj oua O (by omega) (by omega)) ⟨callB_of 0 hts (tb_gi tw_478) rfl rfl rfl (ht _ tw_3) (ht _ tw_475) (by decide +kernel) ⟨(Nat.le_of_ble_eq_true rfl), (Nat.le_of_ble_eq_true rfl)⟩, ht _ tw_476, ht _ tw_477⟩ hE hP hD 7 rfl rfl rfl [7, 0, 1] rfl rfl rfl hl.1 rfl (Nat.le_of_ble_eq_true rfl) dCl_clear_38 ⟨(Nat.le_of_ble_eq_true rfl), (Nat.le_of_ble_eq_true rfl)⟩) hP hD hS hA [7, 0, 1] [2, 3, 4, 5, 6, 8] rfl rfl rfl (by decide) (fun _ H locs _ hP hD hS => ?_)
      have hP : va_P D cls_ [(q, .inr (1, [.int (nI y), .ref d, .int (nI st), .int (nI nx), .int (nI pa), .int (nI du), .int (nI ta)])), (d, .inr (0, [.ref da, .int (nI r.2)])), (da, .inl (ca 0, 2, .inl (fun j => nI (r.1 j)))), (x, .inr (3, [.ref ss])), (ss, .inl (ca 2, 2, .inr (.inr (.inr (.inr fs))))), (cs, .inl (ca 3, 3, .inr (.inr (.inr (.inr fc))))), (h, .inr (2, [.ref ln, .ref pe, .ref ou, .ref cs, .int (nI lk), .int (nI sn), .int (nI ac), .int (nI ex), .int (nI tr), .int (nI rj)])), (ou, .inr (0, [.ref oua, .int (nI O.2)])), (oua, .inl (ca 0, 16, .inl (fun j => nI (O.1 j))))] H := hP
      have hD : va_D A [(q, .inr (1, [.int (nI y), .ref d, .int (nI st), .int (nI nx), .int (nI pa), .int (nI du), .int (nI ta)])), (d, .inr (0, [.ref da, .int (nI r.2)])), (da, .inl (ca 0, 2, .inl (fun j => nI (r.1 j)))), (x, .inr (3, [.ref ss])), (ss, .inl (ca 2, 2, .inr (.inr (.inr (.inr fs))))), (cs, .inl (ca 3, 3, .inr (.inr (.inr (.inr fc))))), (h, .inr (2, [.ref ln, .ref pe, .ref ou, .ref cs, .int (nI lk), .int (nI sn), .int (nI ac), .int (nI ex), .int (nI tr), .int (nI rj)])), (ou, .inr (0, [.ref oua, .int (nI O.2)])), (oua, .inl (ca 0, 16, .inl (fun j => nI (O.1 j))))] := hD
      refine k_is (y := nI 0) (by rw [e3]) ?_
      refine k_if_eq (tgt := 53) hx hb (by omega) dCl_clear_41 rfl (fun h41 => ?_) (fun hz => absurd hz (by omega))
      refine lv_iconst (v := nI 0) hx hb dCl_clear_53 (by decide) ?_
      refine kX (xS fx (x_Cl_requireState l hlT D ca) ⟨callB_of 1 hts (tb_gi tw_253) rfl rfl rfl (ht _ tw_1) (ht _ tw_251) (by decide +kernel) ⟨(Nat.le_of_ble_eq_true rfl), (Nat.le_of_ble_eq_true rfl)⟩, ht _ tw_252⟩ hE hZ hP hD hS hA [] rfl rfl rfl hl.1 rfl (Nat.le_of_ble_eq_true rfl) dCl_clear_54 ⟨(Nat.le_of_ble_eq_true rfl), (Nat.le_of_ble_eq_true rfl)⟩) hP hD hS hA [] [0, 1, 2, 3, 4, 5, 6, 7, 8] rfl rfl rfl (by decide) (fun ce q9 H locs hP hD hS hce hcv hcl => ?_)
      have hP : va_P D cls_ [(q, .inr (1, [.int (nI y), .ref d, .int (nI st), .int (nI nx), .int (nI pa), .int (nI du), .int (nI ta)])), (d, .inr (0, [.ref da, .int (nI r.2)])), (da, .inl (ca 0, 2, .inl (fun j => nI (r.1 j)))), (x, .inr (3, [.ref ss])), (ss, .inl (ca 2, 2, .inr (.inr (.inr (.inr fs))))), (cs, .inl (ca 3, 3, .inr (.inr (.inr (.inr fc))))), (h, .inr (2, [.ref ln, .ref pe, .ref ou, .ref cs, .int (nI lk), .int (nI sn), .int (nI ac), .int (nI ex), .int (nI tr), .int (nI rj)])), (ou, .inr (0, [.ref oua, .int (nI O.2)])), (oua, .inl (ca 0, 16, .inl (fun j => nI (O.1 j))))] H := hP
      have hD : va_D A [(q, .inr (1, [.int (nI y), .ref d, .int (nI st), .int (nI nx), .int (nI pa), .int (nI du), .int (nI ta)])), (d, .inr (0, [.ref da, .int (nI r.2)])), (da, .inl (ca 0, 2, .inl (fun j => nI (r.1 j)))), (x, .inr (3, [.ref ss])), (ss, .inl (ca 2, 2, .inr (.inr (.inr (.inr fs))))), (cs, .inl (ca 3, 3, .inr (.inr (.inr (.inr fc))))), (h, .inr (2, [.ref ln, .ref pe, .ref ou, .ref cs, .int (nI lk), .int (nI sn), .int (nI ac), .int (nI ex), .int (nI tr), .int (nI rj)])), (ou, .inr (0, [.ref oua, .int (nI O.2)])), (oua, .inl (ca 0, 16, .inl (fun j => nI (O.1 j))))] := hD
      have hP : va_P D cls_ [(x, .inr (3, [.ref ss])), (ss, .inl (ca 2, 2, .inr (.inr (.inr (.inr fs))))), (h, .inr (2, [.ref ln, .ref pe, .ref ou, .ref cs, .int (nI lk), .int (nI sn), .int (nI ac), .int (nI ex), .int (nI tr), .int (nI rj)])), (ou, .inr (0, [.ref oua, .int (nI O.2)])), (oua, .inl (ca 0, 16, .inl (fun j => nI (O.1 j)))), (cs, .inl (ca 3, 3, .inr (.inr (.inr (.inr fc))))), (q, .inr (1, [.int (nI y), .ref d, .int (nI st), .int (nI nx), .int (nI pa), .int (nI du), .int (nI ta)])), (d, .inr (0, [.ref da, .int (nI r.2)])), (da, .inl (ca 0, 2, .inl (fun j => nI (r.1 j))))] H := hP.sub [3, 4, 6, 7, 8, 5, 0, 1, 2] rfl
      have hD : va_D A [(x, .inr (3, [.ref ss])), (ss, .inl (ca 2, 2, .inr (.inr (.inr (.inr fs))))), (h, .inr (2, [.ref ln, .ref pe, .ref ou, .ref cs, .int (nI lk), .int (nI sn), .int (nI ac), .int (nI ex), .int (nI tr), .int (nI rj)])), (ou, .inr (0, [.ref oua, .int (nI O.2)])), (oua, .inl (ca 0, 16, .inl (fun j => nI (O.1 j)))), (cs, .inl (ca 3, 3, .inr (.inr (.inr (.inr fc))))), (q, .inr (1, [.int (nI y), .ref d, .int (nI st), .int (nI nx), .int (nI pa), .int (nI du), .int (nI ta)])), (d, .inr (0, [.ref da, .int (nI r.2)])), (da, .inl (ca 0, 2, .inl (fun j => nI (r.1 j))))] := hD.sub [3, 4, 6, 7, 8, 5, 0, 1, 2] rfl rfl
      exact xout hnt hlk hce hcv hcl hP hD hS (Nat.le_of_ble_eq_true rfl) (Nat.le_of_ble_eq_true rfl)
set_option maxHeartbeats 4000000 in
set_option maxRecDepth 100000 in
theorem x_Cl_clear_t (l : Launch) (hlT : l.stackTraces = false) (D : va_G) (ca : Nat → ClassId) (x ss : Nat) (fs : Nat → Option Nat) (s₀ : Nat) (hs0 : s₀ < 2) (h ln pe ou cs lk sn ac ex tr rj : Nat) (oua : Nat) (O : Rw_) (fc : Nat → Option Nat) (q d da y st nx pa du ta : Nat) (r : Rw_) (cn : Nat) (hcn : cn < 3) (hq : fc cn = some q) (hfs : fs s₀ = some h) (hlk2 : lk < 3) (hO1 : O.2 ≤ 16) (hst : st < 6) (hup : lk = 2 ∧ O.2 ≤ 9) (hst2 : (st = 0 ∨ st = 4)) : CoX l yCl_clear (Cond.code yCl_clear cCl_clear 6 none :: tb_) { frames := 8, cells := 1, slots := 6, locals := 256 } D ca [.ref x, .int (nI s₀), .int (nI cn)] [(x, .inr (3, [.ref ss])), (ss, .inl (ca 2, 2, .inr (.inr (.inr (.inr fs))))), (h, .inr (2, [.ref ln, .ref pe, .ref ou, .ref cs, .int (nI lk), .int (nI sn), .int (nI ac), .int (nI ex), .int (nI tr), .int (nI rj)])), (ou, .inr (0, [.ref oua, .int (nI O.2)])), (oua, .inl (ca 0, 16, .inl (fun j => nI (O.1 j)))), (cs, .inl (ca 3, 3, .inr (.inr (.inr (.inr fc))))), (q, .inr (1, [.int (nI y), .ref d, .int (nI st), .int (nI nx), .int (nI pa), .int (nI du), .int (nI ta)])), (d, .inr (0, [.ref da, .int (nI r.2)])), (da, .inl (ca 0, 2, .inl (fun j => nI (r.1 j))))] "java/lang/IllegalStateException" 1 6 := by
  refine CoX.of cCl_clear 6 none (by decide) (Nat.le_of_ble_eq_true rfl) ?_
  intro p e s m args below meth c A ls fx hret hlk hnt hE hZ hP hD hS hA hl
  have hx := fx.1
  have hb := fx.2.1
  have hown : s.vm.findClass RCl = some m.cls := fx.2.2.2.1
  have hts := fx.2.2.2.2
  have ht : ∀ w ∈ tb_, w.before args s = true := fun w h => hts w (List.mem_cons_of_mem _ h)
  have e3 : (if lk = 2 ∧ O.2 ≤ 9 then 1 else 0) = 1 := if_pos hup
  have hl : lv_has ls 6 [(0, .ref x), (1, .int (nI s₀)), (2, .int (nI cn))] := hl
  refine lv_aload_n hx hb dCl_clear_0 rfl (lv_at hl 0 rfl) ?_
  refine lv_iload_n hx hb dCl_clear_1 rfl (lv_at hl 1 rfl) ?_
  refine kA (rV fx (c_Cl_stationAt l D ca x ss fs s₀ hs0 h hfs) ⟨callB_of 1 hts (tb_gi tw_143) rfl rfl rfl (ht _ tw_1) (ht _ tw_140) (by decide +kernel) ⟨(Nat.le_of_ble_eq_true rfl), (Nat.le_of_ble_eq_true rfl)⟩, ht _ tw_142, ht _ tw_826⟩ hE hP hD 0 rfl rfl rfl [0, 1] rfl rfl rfl hl.1 rfl (Nat.le_of_ble_eq_true rfl) dCl_clear_2 ⟨(Nat.le_of_ble_eq_true rfl), (Nat.le_of_ble_eq_true rfl)⟩) hP hD hS hA [0, 1] [2, 3, 4, 5, 6, 7, 8] rfl rfl rfl (by decide) (fun _ H locs _ hP hD hS => ?_)
  have hP : va_P D cls_ [(h, .inr (2, [.ref ln, .ref pe, .ref ou, .ref cs, .int (nI lk), .int (nI sn), .int (nI ac), .int (nI ex), .int (nI tr), .int (nI rj)])), (ou, .inr (0, [.ref oua, .int (nI O.2)])), (oua, .inl (ca 0, 16, .inl (fun j => nI (O.1 j)))), (cs, .inl (ca 3, 3, .inr (.inr (.inr (.inr fc))))), (q, .inr (1, [.int (nI y), .ref d, .int (nI st), .int (nI nx), .int (nI pa), .int (nI du), .int (nI ta)])), (d, .inr (0, [.ref da, .int (nI r.2)])), (da, .inl (ca 0, 2, .inl (fun j => nI (r.1 j)))), (x, .inr (3, [.ref ss])), (ss, .inl (ca 2, 2, .inr (.inr (.inr (.inr fs)))))] H := hP
  have hD : va_D A [(h, .inr (2, [.ref ln, .ref pe, .ref ou, .ref cs, .int (nI lk), .int (nI sn), .int (nI ac), .int (nI ex), .int (nI tr), .int (nI rj)])), (ou, .inr (0, [.ref oua, .int (nI O.2)])), (oua, .inl (ca 0, 16, .inl (fun j => nI (O.1 j)))), (cs, .inl (ca 3, 3, .inr (.inr (.inr (.inr fc))))), (q, .inr (1, [.int (nI y), .ref d, .int (nI st), .int (nI nx), .int (nI pa), .int (nI du), .int (nI ta)])), (d, .inr (0, [.ref da, .int (nI r.2)])), (da, .inl (ca 0, 2, .inl (fun j => nI (r.1 j)))), (x, .inr (3, [.ref ss])), (ss, .inl (ca 2, 2, .inr (.inr (.inr (.inr fs)))))] := hD
  refine lv_astore_n hx hb dCl_clear_5 rfl hl (by decide) rfl (fun ls hl => ?_)
  have hl : lv_has ls 6 [(3, .ref h), (0, .ref x), (1, .int (nI s₀)), (2, .int (nI cn))] := hl
  refine lv_aload_n hx hb dCl_clear_6 rfl (lv_at hl 0 rfl) ?_
  refine lv_iload_n hx hb dCl_clear_7 rfl (lv_at hl 3 rfl) ?_
  refine kA (rS fx (c_Cl_channelAt l D ca h ln pe ou cs lk sn ac ex tr rj fc cn q (by omega) hq) ⟨callB_of 2 hts (tb_gi tw_474) rfl rfl rfl (ht _ tw_1) (ht _ tw_472) (by decide +kernel) ⟨(Nat.le_of_ble_eq_true rfl), (Nat.le_of_ble_eq_true rfl)⟩, ht _ tw_473⟩ hE hP hD [0, 3] rfl rfl rfl hl.1 rfl (Nat.le_of_ble_eq_true rfl) dCl_clear_8 ⟨(Nat.le_of_ble_eq_true rfl), (Nat.le_of_ble_eq_true rfl)⟩) hP hD hS hA [0, 3] [1, 2, 4, 5, 6, 7, 8] rfl rfl rfl (by decide) (fun _ H locs _ hP hD hS => ?_)
  have hP : va_P D cls_ [(ou, .inr (0, [.ref oua, .int (nI O.2)])), (oua, .inl (ca 0, 16, .inl (fun j => nI (O.1 j)))), (q, .inr (1, [.int (nI y), .ref d, .int (nI st), .int (nI nx), .int (nI pa), .int (nI du), .int (nI ta)])), (d, .inr (0, [.ref da, .int (nI r.2)])), (da, .inl (ca 0, 2, .inl (fun j => nI (r.1 j)))), (x, .inr (3, [.ref ss])), (ss, .inl (ca 2, 2, .inr (.inr (.inr (.inr fs))))), (h, .inr (2, [.ref ln, .ref pe, .ref ou, .ref cs, .int (nI lk), .int (nI sn), .int (nI ac), .int (nI ex), .int (nI tr), .int (nI rj)])), (cs, .inl (ca 3, 3, .inr (.inr (.inr (.inr fc)))))] H := hP
  have hD : va_D A [(ou, .inr (0, [.ref oua, .int (nI O.2)])), (oua, .inl (ca 0, 16, .inl (fun j => nI (O.1 j)))), (q, .inr (1, [.int (nI y), .ref d, .int (nI st), .int (nI nx), .int (nI pa), .int (nI du), .int (nI ta)])), (d, .inr (0, [.ref da, .int (nI r.2)])), (da, .inl (ca 0, 2, .inl (fun j => nI (r.1 j)))), (x, .inr (3, [.ref ss])), (ss, .inl (ca 2, 2, .inr (.inr (.inr (.inr fs))))), (h, .inr (2, [.ref ln, .ref pe, .ref ou, .ref cs, .int (nI lk), .int (nI sn), .int (nI ac), .int (nI ex), .int (nI tr), .int (nI rj)])), (cs, .inl (ca 3, 3, .inr (.inr (.inr (.inr fc)))))] := hD
  refine lv_astore hx hb dCl_clear_11 hl (by decide) rfl (fun ls hl => ?_)
  have hl : lv_has ls 6 [(4, .ref q), (3, .ref h), (0, .ref x), (1, .int (nI s₀)), (2, .int (nI cn))] := hl
  refine lv_aload hx hb dCl_clear_13 (lv_at hl 0 rfl) ?_
  refine va_getN (D := D) (ci := 1) (v := .int (nI st)) (host := "ChannelledLink") (C := RCh) (T := TCh) (N := 7) hx hb ht inCh hown hE.1 hP 2 rfl rfl 2 (by decide) (hE.nestU tw_64 rfl) (fun _ h => h) rfl dCl_clear_15 ?_
  refine k_if_eq (tgt := 34) hx hb (by omega) dCl_clear_18 rfl (fun h18 => ?_) (fun h18 => ?_)
  · refine lv_iconst (v := nI 0) hx hb dCl_clear_34 (by decide) ?_
    refine lv_istore hx hb dCl_clear_35 hl (by decide) rfl (fun ls hl => ?_)
    have hl : lv_has ls 6 [(5, .int (nI 0)), (4, .ref q), (3, .ref h), (0, .ref x), (1, .int (nI s₀)), (2, .int (nI cn))] := hl
    refine lv_aload_n hx hb dCl_clear_37 rfl (lv_at hl 2 rfl) ?_
    refine kI (rV fx (c_St_takesCalls l D ca h ln pe ou cs lk sn ac ex tr rj oua O (by omega) (by omega)) ⟨callB_of 0 hts (tb_gi tw_478) rfl rfl rfl (ht _ tw_3) (ht _ tw_475) (by decide +kernel) ⟨(Nat.le_of_ble_eq_true rfl), (Nat.le_of_ble_eq_true rfl)⟩, ht _ tw_476, ht _ tw_477⟩ hE hP hD 7 rfl rfl rfl [7, 0, 1] rfl rfl rfl hl.1 rfl (Nat.le_of_ble_eq_true rfl) dCl_clear_38 ⟨(Nat.le_of_ble_eq_true rfl), (Nat.le_of_ble_eq_true rfl)⟩) hP hD hS hA [7, 0, 1] [2, 3, 4, 5, 6, 8] rfl rfl rfl (by decide) (fun _ H locs _ hP hD hS => ?_)
    have hP : va_P D cls_ [(q, .inr (1, [.int (nI y), .ref d, .int (nI st), .int (nI nx), .int (nI pa), .int (nI du), .int (nI ta)])), (d, .inr (0, [.ref da, .int (nI r.2)])), (da, .inl (ca 0, 2, .inl (fun j => nI (r.1 j)))), (x, .inr (3, [.ref ss])), (ss, .inl (ca 2, 2, .inr (.inr (.inr (.inr fs))))), (cs, .inl (ca 3, 3, .inr (.inr (.inr (.inr fc))))), (h, .inr (2, [.ref ln, .ref pe, .ref ou, .ref cs, .int (nI lk), .int (nI sn), .int (nI ac), .int (nI ex), .int (nI tr), .int (nI rj)])), (ou, .inr (0, [.ref oua, .int (nI O.2)])), (oua, .inl (ca 0, 16, .inl (fun j => nI (O.1 j))))] H := hP
    have hD : va_D A [(q, .inr (1, [.int (nI y), .ref d, .int (nI st), .int (nI nx), .int (nI pa), .int (nI du), .int (nI ta)])), (d, .inr (0, [.ref da, .int (nI r.2)])), (da, .inl (ca 0, 2, .inl (fun j => nI (r.1 j)))), (x, .inr (3, [.ref ss])), (ss, .inl (ca 2, 2, .inr (.inr (.inr (.inr fs))))), (cs, .inl (ca 3, 3, .inr (.inr (.inr (.inr fc))))), (h, .inr (2, [.ref ln, .ref pe, .ref ou, .ref cs, .int (nI lk), .int (nI sn), .int (nI ac), .int (nI ex), .int (nI tr), .int (nI rj)])), (ou, .inr (0, [.ref oua, .int (nI O.2)])), (oua, .inl (ca 0, 16, .inl (fun j => nI (O.1 j))))] := hD
    refine k_is (y := nI 1) (by rw [e3]) ?_
    refine k_if_eq (tgt := 53) hx hb (by omega) dCl_clear_41 rfl (fun hz => absurd hz (by omega)) (fun h41 => ?_)
    refine lv_iload hx hb dCl_clear_44 (lv_at hl 0 rfl) ?_
    refine k_if_eq (tgt := 53) hx hb (by omega) dCl_clear_46 rfl (fun h46 => ?_) (fun hz => absurd hz (by omega))
    refine lv_iconst (v := nI 0) hx hb dCl_clear_53 (by decide) ?_
    refine kX (xS fx (x_Cl_requireState l hlT D ca) ⟨callB_of 1 hts (tb_gi tw_253) rfl rfl rfl (ht _ tw_1) (ht _ tw_251) (by decide +kernel) ⟨(Nat.le_of_ble_eq_true rfl), (Nat.le_of_ble_eq_true rfl)⟩, ht _ tw_252⟩ hE hZ hP hD hS hA [] rfl rfl rfl hl.1 rfl (Nat.le_of_ble_eq_true rfl) dCl_clear_54 ⟨(Nat.le_of_ble_eq_true rfl), (Nat.le_of_ble_eq_true rfl)⟩) hP hD hS hA [] [0, 1, 2, 3, 4, 5, 6, 7, 8] rfl rfl rfl (by decide) (fun ce q9 H locs hP hD hS hce hcv hcl => ?_)
    have hP : va_P D cls_ [(q, .inr (1, [.int (nI y), .ref d, .int (nI st), .int (nI nx), .int (nI pa), .int (nI du), .int (nI ta)])), (d, .inr (0, [.ref da, .int (nI r.2)])), (da, .inl (ca 0, 2, .inl (fun j => nI (r.1 j)))), (x, .inr (3, [.ref ss])), (ss, .inl (ca 2, 2, .inr (.inr (.inr (.inr fs))))), (cs, .inl (ca 3, 3, .inr (.inr (.inr (.inr fc))))), (h, .inr (2, [.ref ln, .ref pe, .ref ou, .ref cs, .int (nI lk), .int (nI sn), .int (nI ac), .int (nI ex), .int (nI tr), .int (nI rj)])), (ou, .inr (0, [.ref oua, .int (nI O.2)])), (oua, .inl (ca 0, 16, .inl (fun j => nI (O.1 j))))] H := hP
    have hD : va_D A [(q, .inr (1, [.int (nI y), .ref d, .int (nI st), .int (nI nx), .int (nI pa), .int (nI du), .int (nI ta)])), (d, .inr (0, [.ref da, .int (nI r.2)])), (da, .inl (ca 0, 2, .inl (fun j => nI (r.1 j)))), (x, .inr (3, [.ref ss])), (ss, .inl (ca 2, 2, .inr (.inr (.inr (.inr fs))))), (cs, .inl (ca 3, 3, .inr (.inr (.inr (.inr fc))))), (h, .inr (2, [.ref ln, .ref pe, .ref ou, .ref cs, .int (nI lk), .int (nI sn), .int (nI ac), .int (nI ex), .int (nI tr), .int (nI rj)])), (ou, .inr (0, [.ref oua, .int (nI O.2)])), (oua, .inl (ca 0, 16, .inl (fun j => nI (O.1 j))))] := hD
    have hP : va_P D cls_ [(x, .inr (3, [.ref ss])), (ss, .inl (ca 2, 2, .inr (.inr (.inr (.inr fs))))), (h, .inr (2, [.ref ln, .ref pe, .ref ou, .ref cs, .int (nI lk), .int (nI sn), .int (nI ac), .int (nI ex), .int (nI tr), .int (nI rj)])), (ou, .inr (0, [.ref oua, .int (nI O.2)])), (oua, .inl (ca 0, 16, .inl (fun j => nI (O.1 j)))), (cs, .inl (ca 3, 3, .inr (.inr (.inr (.inr fc))))), (q, .inr (1, [.int (nI y), .ref d, .int (nI st), .int (nI nx), .int (nI pa), .int (nI du), .int (nI ta)])), (d, .inr (0, [.ref da, .int (nI r.2)])), (da, .inl (ca 0, 2, .inl (fun j => nI (r.1 j))))] H := hP.sub [3, 4, 6, 7, 8, 5, 0, 1, 2] rfl
    have hD : va_D A [(x, .inr (3, [.ref ss])), (ss, .inl (ca 2, 2, .inr (.inr (.inr (.inr fs))))), (h, .inr (2, [.ref ln, .ref pe, .ref ou, .ref cs, .int (nI lk), .int (nI sn), .int (nI ac), .int (nI ex), .int (nI tr), .int (nI rj)])), (ou, .inr (0, [.ref oua, .int (nI O.2)])), (oua, .inl (ca 0, 16, .inl (fun j => nI (O.1 j)))), (cs, .inl (ca 3, 3, .inr (.inr (.inr (.inr fc))))), (q, .inr (1, [.int (nI y), .ref d, .int (nI st), .int (nI nx), .int (nI pa), .int (nI du), .int (nI ta)])), (d, .inr (0, [.ref da, .int (nI r.2)])), (da, .inl (ca 0, 2, .inl (fun j => nI (r.1 j))))] := hD.sub [3, 4, 6, 7, 8, 5, 0, 1, 2] rfl rfl
    exact xout hnt hlk hce hcv hcl hP hD hS (Nat.le_of_ble_eq_true rfl) (Nat.le_of_ble_eq_true rfl)
  · refine lv_aload hx hb dCl_clear_21 (lv_at hl 0 rfl) ?_
    refine va_getN (D := D) (ci := 1) (v := .int (nI st)) (host := "ChannelledLink") (C := RCh) (T := TCh) (N := 7) hx hb ht inCh hown hE.1 hP 2 rfl rfl 2 (by decide) (hE.nestU tw_64 rfl) (fun _ h => h) rfl dCl_clear_23 ?_
    refine lv_iconst (v := nI 4) hx hb dCl_clear_26 (by decide) ?_
    refine k_icmp_eq (tgt := 34) hx hb (by omega) (by omega) dCl_clear_27 rfl (fun h27 => ?_) (fun hz => absurd hz (by omega))
    refine lv_iconst (v := nI 0) hx hb dCl_clear_34 (by decide) ?_
    refine lv_istore hx hb dCl_clear_35 hl (by decide) rfl (fun ls hl => ?_)
    have hl : lv_has ls 6 [(5, .int (nI 0)), (4, .ref q), (3, .ref h), (0, .ref x), (1, .int (nI s₀)), (2, .int (nI cn))] := hl
    refine lv_aload_n hx hb dCl_clear_37 rfl (lv_at hl 2 rfl) ?_
    refine kI (rV fx (c_St_takesCalls l D ca h ln pe ou cs lk sn ac ex tr rj oua O (by omega) (by omega)) ⟨callB_of 0 hts (tb_gi tw_478) rfl rfl rfl (ht _ tw_3) (ht _ tw_475) (by decide +kernel) ⟨(Nat.le_of_ble_eq_true rfl), (Nat.le_of_ble_eq_true rfl)⟩, ht _ tw_476, ht _ tw_477⟩ hE hP hD 7 rfl rfl rfl [7, 0, 1] rfl rfl rfl hl.1 rfl (Nat.le_of_ble_eq_true rfl) dCl_clear_38 ⟨(Nat.le_of_ble_eq_true rfl), (Nat.le_of_ble_eq_true rfl)⟩) hP hD hS hA [7, 0, 1] [2, 3, 4, 5, 6, 8] rfl rfl rfl (by decide) (fun _ H locs _ hP hD hS => ?_)
    have hP : va_P D cls_ [(q, .inr (1, [.int (nI y), .ref d, .int (nI st), .int (nI nx), .int (nI pa), .int (nI du), .int (nI ta)])), (d, .inr (0, [.ref da, .int (nI r.2)])), (da, .inl (ca 0, 2, .inl (fun j => nI (r.1 j)))), (x, .inr (3, [.ref ss])), (ss, .inl (ca 2, 2, .inr (.inr (.inr (.inr fs))))), (cs, .inl (ca 3, 3, .inr (.inr (.inr (.inr fc))))), (h, .inr (2, [.ref ln, .ref pe, .ref ou, .ref cs, .int (nI lk), .int (nI sn), .int (nI ac), .int (nI ex), .int (nI tr), .int (nI rj)])), (ou, .inr (0, [.ref oua, .int (nI O.2)])), (oua, .inl (ca 0, 16, .inl (fun j => nI (O.1 j))))] H := hP
    have hD : va_D A [(q, .inr (1, [.int (nI y), .ref d, .int (nI st), .int (nI nx), .int (nI pa), .int (nI du), .int (nI ta)])), (d, .inr (0, [.ref da, .int (nI r.2)])), (da, .inl (ca 0, 2, .inl (fun j => nI (r.1 j)))), (x, .inr (3, [.ref ss])), (ss, .inl (ca 2, 2, .inr (.inr (.inr (.inr fs))))), (cs, .inl (ca 3, 3, .inr (.inr (.inr (.inr fc))))), (h, .inr (2, [.ref ln, .ref pe, .ref ou, .ref cs, .int (nI lk), .int (nI sn), .int (nI ac), .int (nI ex), .int (nI tr), .int (nI rj)])), (ou, .inr (0, [.ref oua, .int (nI O.2)])), (oua, .inl (ca 0, 16, .inl (fun j => nI (O.1 j))))] := hD
    refine k_is (y := nI 1) (by rw [e3]) ?_
    refine k_if_eq (tgt := 53) hx hb (by omega) dCl_clear_41 rfl (fun hz => absurd hz (by omega)) (fun h41 => ?_)
    refine lv_iload hx hb dCl_clear_44 (lv_at hl 0 rfl) ?_
    refine k_if_eq (tgt := 53) hx hb (by omega) dCl_clear_46 rfl (fun h46 => ?_) (fun hz => absurd hz (by omega))
    refine lv_iconst (v := nI 0) hx hb dCl_clear_53 (by decide) ?_
    refine kX (xS fx (x_Cl_requireState l hlT D ca) ⟨callB_of 1 hts (tb_gi tw_253) rfl rfl rfl (ht _ tw_1) (ht _ tw_251) (by decide +kernel) ⟨(Nat.le_of_ble_eq_true rfl), (Nat.le_of_ble_eq_true rfl)⟩, ht _ tw_252⟩ hE hZ hP hD hS hA [] rfl rfl rfl hl.1 rfl (Nat.le_of_ble_eq_true rfl) dCl_clear_54 ⟨(Nat.le_of_ble_eq_true rfl), (Nat.le_of_ble_eq_true rfl)⟩) hP hD hS hA [] [0, 1, 2, 3, 4, 5, 6, 7, 8] rfl rfl rfl (by decide) (fun ce q9 H locs hP hD hS hce hcv hcl => ?_)
    have hP : va_P D cls_ [(q, .inr (1, [.int (nI y), .ref d, .int (nI st), .int (nI nx), .int (nI pa), .int (nI du), .int (nI ta)])), (d, .inr (0, [.ref da, .int (nI r.2)])), (da, .inl (ca 0, 2, .inl (fun j => nI (r.1 j)))), (x, .inr (3, [.ref ss])), (ss, .inl (ca 2, 2, .inr (.inr (.inr (.inr fs))))), (cs, .inl (ca 3, 3, .inr (.inr (.inr (.inr fc))))), (h, .inr (2, [.ref ln, .ref pe, .ref ou, .ref cs, .int (nI lk), .int (nI sn), .int (nI ac), .int (nI ex), .int (nI tr), .int (nI rj)])), (ou, .inr (0, [.ref oua, .int (nI O.2)])), (oua, .inl (ca 0, 16, .inl (fun j => nI (O.1 j))))] H := hP
    have hD : va_D A [(q, .inr (1, [.int (nI y), .ref d, .int (nI st), .int (nI nx), .int (nI pa), .int (nI du), .int (nI ta)])), (d, .inr (0, [.ref da, .int (nI r.2)])), (da, .inl (ca 0, 2, .inl (fun j => nI (r.1 j)))), (x, .inr (3, [.ref ss])), (ss, .inl (ca 2, 2, .inr (.inr (.inr (.inr fs))))), (cs, .inl (ca 3, 3, .inr (.inr (.inr (.inr fc))))), (h, .inr (2, [.ref ln, .ref pe, .ref ou, .ref cs, .int (nI lk), .int (nI sn), .int (nI ac), .int (nI ex), .int (nI tr), .int (nI rj)])), (ou, .inr (0, [.ref oua, .int (nI O.2)])), (oua, .inl (ca 0, 16, .inl (fun j => nI (O.1 j))))] := hD
    have hP : va_P D cls_ [(x, .inr (3, [.ref ss])), (ss, .inl (ca 2, 2, .inr (.inr (.inr (.inr fs))))), (h, .inr (2, [.ref ln, .ref pe, .ref ou, .ref cs, .int (nI lk), .int (nI sn), .int (nI ac), .int (nI ex), .int (nI tr), .int (nI rj)])), (ou, .inr (0, [.ref oua, .int (nI O.2)])), (oua, .inl (ca 0, 16, .inl (fun j => nI (O.1 j)))), (cs, .inl (ca 3, 3, .inr (.inr (.inr (.inr fc))))), (q, .inr (1, [.int (nI y), .ref d, .int (nI st), .int (nI nx), .int (nI pa), .int (nI du), .int (nI ta)])), (d, .inr (0, [.ref da, .int (nI r.2)])), (da, .inl (ca 0, 2, .inl (fun j => nI (r.1 j))))] H := hP.sub [3, 4, 6, 7, 8, 5, 0, 1, 2] rfl
    have hD : va_D A [(x, .inr (3, [.ref ss])), (ss, .inl (ca 2, 2, .inr (.inr (.inr (.inr fs))))), (h, .inr (2, [.ref ln, .ref pe, .ref ou, .ref cs, .int (nI lk), .int (nI sn), .int (nI ac), .int (nI ex), .int (nI tr), .int (nI rj)])), (ou, .inr (0, [.ref oua, .int (nI O.2)])), (oua, .inl (ca 0, 16, .inl (fun j => nI (O.1 j)))), (cs, .inl (ca 3, 3, .inr (.inr (.inr (.inr fc))))), (q, .inr (1, [.int (nI y), .ref d, .int (nI st), .int (nI nx), .int (nI pa), .int (nI du), .int (nI ta)])), (d, .inr (0, [.ref da, .int (nI r.2)])), (da, .inl (ca 0, 2, .inl (fun j => nI (r.1 j))))] := hD.sub [3, 4, 6, 7, 8, 5, 0, 1, 2] rfl rfl
    exact xout hnt hlk hce hcv hcl hP hD hS (Nat.le_of_ble_eq_true rfl) (Nat.le_of_ble_eq_true rfl)
set_option maxHeartbeats 4000000 in
set_option maxRecDepth 100000 in
theorem x_Cl_receive_u (l : Launch) (hlT : l.stackTraces = false) (D : va_G) (ca : Nat → ClassId) (x ss : Nat) (fs : Nat → Option Nat) (s₀ : Nat) (hs0 : s₀ < 2) (h ln pe ou cs lk sn ac ex tr rj : Nat) (oua : Nat) (O : Rw_) (fc : Nat → Option Nat) (q d da y st nx pa du ta : Nat) (r : Rw_) (cn : Nat) (hcn : cn < 3) (hq : fc cn = some q) (hfs : fs s₀ = some h) (hlk2 : lk < 3) (hO1 : O.2 ≤ 16) (hst : st < 6) (hup : ¬ (lk = 2 ∧ O.2 ≤ 9)) : CoX l yCl_receive (Cond.code yCl_receive cCl_receive 6 (some FieldType.int) :: tb_) { frames := 8, cells := 1, slots := 6, locals := 256 } D ca [.ref x, .int (nI s₀), .int (nI cn)] [(x, .inr (3, [.ref ss])), (ss, .inl (ca 2, 2, .inr (.inr (.inr (.inr fs))))), (h, .inr (2, [.ref ln, .ref pe, .ref ou, .ref cs, .int (nI lk), .int (nI sn), .int (nI ac), .int (nI ex), .int (nI tr), .int (nI rj)])), (ou, .inr (0, [.ref oua, .int (nI O.2)])), (oua, .inl (ca 0, 16, .inl (fun j => nI (O.1 j)))), (cs, .inl (ca 3, 3, .inr (.inr (.inr (.inr fc))))), (q, .inr (1, [.int (nI y), .ref d, .int (nI st), .int (nI nx), .int (nI pa), .int (nI du), .int (nI ta)])), (d, .inr (0, [.ref da, .int (nI r.2)])), (da, .inl (ca 0, 2, .inl (fun j => nI (r.1 j))))] "java/lang/IllegalStateException" 1 6 := by
  refine CoX.of cCl_receive 6 (some FieldType.int) (by decide) (Nat.le_of_ble_eq_true rfl) ?_
  intro p e s m args below meth c A ls fx hret hlk hnt hE hZ hP hD hS hA hl
  have hx := fx.1
  have hb := fx.2.1
  have hown : s.vm.findClass RCl = some m.cls := fx.2.2.2.1
  have hts := fx.2.2.2.2
  have ht : ∀ w ∈ tb_, w.before args s = true := fun w h => hts w (List.mem_cons_of_mem _ h)
  have e3 : (if lk = 2 ∧ O.2 ≤ 9 then 1 else 0) = 0 := if_neg hup
  have hl : lv_has ls 6 [(0, .ref x), (1, .int (nI s₀)), (2, .int (nI cn))] := hl
  refine lv_aload_n hx hb dCl_receive_0 rfl (lv_at hl 0 rfl) ?_
  refine lv_iload_n hx hb dCl_receive_1 rfl (lv_at hl 1 rfl) ?_
  refine kA (rV fx (c_Cl_stationAt l D ca x ss fs s₀ hs0 h hfs) ⟨callB_of 1 hts (tb_gi tw_143) rfl rfl rfl (ht _ tw_1) (ht _ tw_140) (by decide +kernel) ⟨(Nat.le_of_ble_eq_true rfl), (Nat.le_of_ble_eq_true rfl)⟩, ht _ tw_142, ht _ tw_826⟩ hE hP hD 0 rfl rfl rfl [0, 1] rfl rfl rfl hl.1 rfl (Nat.le_of_ble_eq_true rfl) dCl_receive_2 ⟨(Nat.le_of_ble_eq_true rfl), (Nat.le_of_ble_eq_true rfl)⟩) hP hD hS hA [0, 1] [2, 3, 4, 5, 6, 7, 8] rfl rfl rfl (by decide) (fun _ H locs _ hP hD hS => ?_)
  have hP : va_P D cls_ [(h, .inr (2, [.ref ln, .ref pe, .ref ou, .ref cs, .int (nI lk), .int (nI sn), .int (nI ac), .int (nI ex), .int (nI tr), .int (nI rj)])), (ou, .inr (0, [.ref oua, .int (nI O.2)])), (oua, .inl (ca 0, 16, .inl (fun j => nI (O.1 j)))), (cs, .inl (ca 3, 3, .inr (.inr (.inr (.inr fc))))), (q, .inr (1, [.int (nI y), .ref d, .int (nI st), .int (nI nx), .int (nI pa), .int (nI du), .int (nI ta)])), (d, .inr (0, [.ref da, .int (nI r.2)])), (da, .inl (ca 0, 2, .inl (fun j => nI (r.1 j)))), (x, .inr (3, [.ref ss])), (ss, .inl (ca 2, 2, .inr (.inr (.inr (.inr fs)))))] H := hP
  have hD : va_D A [(h, .inr (2, [.ref ln, .ref pe, .ref ou, .ref cs, .int (nI lk), .int (nI sn), .int (nI ac), .int (nI ex), .int (nI tr), .int (nI rj)])), (ou, .inr (0, [.ref oua, .int (nI O.2)])), (oua, .inl (ca 0, 16, .inl (fun j => nI (O.1 j)))), (cs, .inl (ca 3, 3, .inr (.inr (.inr (.inr fc))))), (q, .inr (1, [.int (nI y), .ref d, .int (nI st), .int (nI nx), .int (nI pa), .int (nI du), .int (nI ta)])), (d, .inr (0, [.ref da, .int (nI r.2)])), (da, .inl (ca 0, 2, .inl (fun j => nI (r.1 j)))), (x, .inr (3, [.ref ss])), (ss, .inl (ca 2, 2, .inr (.inr (.inr (.inr fs)))))] := hD
  refine lv_astore_n hx hb dCl_receive_5 rfl hl (by decide) rfl (fun ls hl => ?_)
  have hl : lv_has ls 6 [(3, .ref h), (0, .ref x), (1, .int (nI s₀)), (2, .int (nI cn))] := hl
  refine lv_aload_n hx hb dCl_receive_6 rfl (lv_at hl 0 rfl) ?_
  refine lv_iload_n hx hb dCl_receive_7 rfl (lv_at hl 3 rfl) ?_
  refine kA (rS fx (c_Cl_channelAt l D ca h ln pe ou cs lk sn ac ex tr rj fc cn q (by omega) hq) ⟨callB_of 2 hts (tb_gi tw_474) rfl rfl rfl (ht _ tw_1) (ht _ tw_472) (by decide +kernel) ⟨(Nat.le_of_ble_eq_true rfl), (Nat.le_of_ble_eq_true rfl)⟩, ht _ tw_473⟩ hE hP hD [0, 3] rfl rfl rfl hl.1 rfl (Nat.le_of_ble_eq_true rfl) dCl_receive_8 ⟨(Nat.le_of_ble_eq_true rfl), (Nat.le_of_ble_eq_true rfl)⟩) hP hD hS hA [0, 3] [1, 2, 4, 5, 6, 7, 8] rfl rfl rfl (by decide) (fun _ H locs _ hP hD hS => ?_)
  have hP : va_P D cls_ [(ou, .inr (0, [.ref oua, .int (nI O.2)])), (oua, .inl (ca 0, 16, .inl (fun j => nI (O.1 j)))), (q, .inr (1, [.int (nI y), .ref d, .int (nI st), .int (nI nx), .int (nI pa), .int (nI du), .int (nI ta)])), (d, .inr (0, [.ref da, .int (nI r.2)])), (da, .inl (ca 0, 2, .inl (fun j => nI (r.1 j)))), (x, .inr (3, [.ref ss])), (ss, .inl (ca 2, 2, .inr (.inr (.inr (.inr fs))))), (h, .inr (2, [.ref ln, .ref pe, .ref ou, .ref cs, .int (nI lk), .int (nI sn), .int (nI ac), .int (nI ex), .int (nI tr), .int (nI rj)])), (cs, .inl (ca 3, 3, .inr (.inr (.inr (.inr fc)))))] H := hP
  have hD : va_D A [(ou, .inr (0, [.ref oua, .int (nI O.2)])), (oua, .inl (ca 0, 16, .inl (fun j => nI (O.1 j)))), (q, .inr (1, [.int (nI y), .ref d, .int (nI st), .int (nI nx), .int (nI pa), .int (nI du), .int (nI ta)])), (d, .inr (0, [.ref da, .int (nI r.2)])), (da, .inl (ca 0, 2, .inl (fun j => nI (r.1 j)))), (x, .inr (3, [.ref ss])), (ss, .inl (ca 2, 2, .inr (.inr (.inr (.inr fs))))), (h, .inr (2, [.ref ln, .ref pe, .ref ou, .ref cs, .int (nI lk), .int (nI sn), .int (nI ac), .int (nI ex), .int (nI tr), .int (nI rj)])), (cs, .inl (ca 3, 3, .inr (.inr (.inr (.inr fc)))))] := hD
  refine lv_astore hx hb dCl_receive_11 hl (by decide) rfl (fun ls hl => ?_)
  have hl : lv_has ls 6 [(4, .ref q), (3, .ref h), (0, .ref x), (1, .int (nI s₀)), (2, .int (nI cn))] := hl
  refine lv_aload_n hx hb dCl_receive_13 rfl (lv_at hl 1 rfl) ?_
  refine kI (rV fx (c_St_takesCalls l D ca h ln pe ou cs lk sn ac ex tr rj oua O (by omega) (by omega)) ⟨callB_of 0 hts (tb_gi tw_478) rfl rfl rfl (ht _ tw_3) (ht _ tw_475) (by decide +kernel) ⟨(Nat.le_of_ble_eq_true rfl), (Nat.le_of_ble_eq_true rfl)⟩, ht _ tw_476, ht _ tw_477⟩ hE hP hD 7 rfl rfl rfl [7, 0, 1] rfl rfl rfl hl.1 rfl (Nat.le_of_ble_eq_true rfl) dCl_receive_14 ⟨(Nat.le_of_ble_eq_true rfl), (Nat.le_of_ble_eq_true rfl)⟩) hP hD hS hA [7, 0, 1] [2, 3, 4, 5, 6, 8] rfl rfl rfl (by decide) (fun _ H locs _ hP hD hS => ?_)
  have hP : va_P D cls_ [(q, .inr (1, [.int (nI y), .ref d, .int (nI st), .int (nI nx), .int (nI pa), .int (nI du), .int (nI ta)])), (d, .inr (0, [.ref da, .int (nI r.2)])), (da, .inl (ca 0, 2, .inl (fun j => nI (r.1 j)))), (x, .inr (3, [.ref ss])), (ss, .inl (ca 2, 2, .inr (.inr (.inr (.inr fs))))), (cs, .inl (ca 3, 3, .inr (.inr (.inr (.inr fc))))), (h, .inr (2, [.ref ln, .ref pe, .ref ou, .ref cs, .int (nI lk), .int (nI sn), .int (nI ac), .int (nI ex), .int (nI tr), .int (nI rj)])), (ou, .inr (0, [.ref oua, .int (nI O.2)])), (oua, .inl (ca 0, 16, .inl (fun j => nI (O.1 j))))] H := hP
  have hD : va_D A [(q, .inr (1, [.int (nI y), .ref d, .int (nI st), .int (nI nx), .int (nI pa), .int (nI du), .int (nI ta)])), (d, .inr (0, [.ref da, .int (nI r.2)])), (da, .inl (ca 0, 2, .inl (fun j => nI (r.1 j)))), (x, .inr (3, [.ref ss])), (ss, .inl (ca 2, 2, .inr (.inr (.inr (.inr fs))))), (cs, .inl (ca 3, 3, .inr (.inr (.inr (.inr fc))))), (h, .inr (2, [.ref ln, .ref pe, .ref ou, .ref cs, .int (nI lk), .int (nI sn), .int (nI ac), .int (nI ex), .int (nI tr), .int (nI rj)])), (ou, .inr (0, [.ref oua, .int (nI O.2)])), (oua, .inl (ca 0, 16, .inl (fun j => nI (O.1 j))))] := hD
  refine k_is (y := nI 0) (by rw [e3]) ?_
  refine k_if_eq (tgt := 33) hx hb (by omega) dCl_receive_17 rfl (fun h17 => ?_) (fun hz => absurd hz (by omega))
  refine lv_iconst (v := nI 0) hx hb dCl_receive_33 (by decide) ?_
  refine kX (xS fx (x_Cl_requireState l hlT D ca) ⟨callB_of 1 hts (tb_gi tw_253) rfl rfl rfl (ht _ tw_1) (ht _ tw_251) (by decide +kernel) ⟨(Nat.le_of_ble_eq_true rfl), (Nat.le_of_ble_eq_true rfl)⟩, ht _ tw_252⟩ hE hZ hP hD hS hA [] rfl rfl rfl hl.1 rfl (Nat.le_of_ble_eq_true rfl) dCl_receive_34 ⟨(Nat.le_of_ble_eq_true rfl), (Nat.le_of_ble_eq_true rfl)⟩) hP hD hS hA [] [0, 1, 2, 3, 4, 5, 6, 7, 8] rfl rfl rfl (by decide) (fun ce q9 H locs hP hD hS hce hcv hcl => ?_)
  have hP : va_P D cls_ [(q, .inr (1, [.int (nI y), .ref d, .int (nI st), .int (nI nx), .int (nI pa), .int (nI du), .int (nI ta)])), (d, .inr (0, [.ref da, .int (nI r.2)])), (da, .inl (ca 0, 2, .inl (fun j => nI (r.1 j)))), (x, .inr (3, [.ref ss])), (ss, .inl (ca 2, 2, .inr (.inr (.inr (.inr fs))))), (cs, .inl (ca 3, 3, .inr (.inr (.inr (.inr fc))))), (h, .inr (2, [.ref ln, .ref pe, .ref ou, .ref cs, .int (nI lk), .int (nI sn), .int (nI ac), .int (nI ex), .int (nI tr), .int (nI rj)])), (ou, .inr (0, [.ref oua, .int (nI O.2)])), (oua, .inl (ca 0, 16, .inl (fun j => nI (O.1 j))))] H := hP
  have hD : va_D A [(q, .inr (1, [.int (nI y), .ref d, .int (nI st), .int (nI nx), .int (nI pa), .int (nI du), .int (nI ta)])), (d, .inr (0, [.ref da, .int (nI r.2)])), (da, .inl (ca 0, 2, .inl (fun j => nI (r.1 j)))), (x, .inr (3, [.ref ss])), (ss, .inl (ca 2, 2, .inr (.inr (.inr (.inr fs))))), (cs, .inl (ca 3, 3, .inr (.inr (.inr (.inr fc))))), (h, .inr (2, [.ref ln, .ref pe, .ref ou, .ref cs, .int (nI lk), .int (nI sn), .int (nI ac), .int (nI ex), .int (nI tr), .int (nI rj)])), (ou, .inr (0, [.ref oua, .int (nI O.2)])), (oua, .inl (ca 0, 16, .inl (fun j => nI (O.1 j))))] := hD
  have hP : va_P D cls_ [(x, .inr (3, [.ref ss])), (ss, .inl (ca 2, 2, .inr (.inr (.inr (.inr fs))))), (h, .inr (2, [.ref ln, .ref pe, .ref ou, .ref cs, .int (nI lk), .int (nI sn), .int (nI ac), .int (nI ex), .int (nI tr), .int (nI rj)])), (ou, .inr (0, [.ref oua, .int (nI O.2)])), (oua, .inl (ca 0, 16, .inl (fun j => nI (O.1 j)))), (cs, .inl (ca 3, 3, .inr (.inr (.inr (.inr fc))))), (q, .inr (1, [.int (nI y), .ref d, .int (nI st), .int (nI nx), .int (nI pa), .int (nI du), .int (nI ta)])), (d, .inr (0, [.ref da, .int (nI r.2)])), (da, .inl (ca 0, 2, .inl (fun j => nI (r.1 j))))] H := hP.sub [3, 4, 6, 7, 8, 5, 0, 1, 2] rfl
  have hD : va_D A [(x, .inr (3, [.ref ss])), (ss, .inl (ca 2, 2, .inr (.inr (.inr (.inr fs))))), (h, .inr (2, [.ref ln, .ref pe, .ref ou, .ref cs, .int (nI lk), .int (nI sn), .int (nI ac), .int (nI ex), .int (nI tr), .int (nI rj)])), (ou, .inr (0, [.ref oua, .int (nI O.2)])), (oua, .inl (ca 0, 16, .inl (fun j => nI (O.1 j)))), (cs, .inl (ca 3, 3, .inr (.inr (.inr (.inr fc))))), (q, .inr (1, [.int (nI y), .ref d, .int (nI st), .int (nI nx), .int (nI pa), .int (nI du), .int (nI ta)])), (d, .inr (0, [.ref da, .int (nI r.2)])), (da, .inl (ca 0, 2, .inl (fun j => nI (r.1 j))))] := hD.sub [3, 4, 6, 7, 8, 5, 0, 1, 2] rfl rfl
  exact xout hnt hlk hce hcv hcl hP hD hS (Nat.le_of_ble_eq_true rfl) (Nat.le_of_ble_eq_true rfl)
set_option maxHeartbeats 4000000 in
set_option maxRecDepth 100000 in
theorem x_Cl_receive_t (l : Launch) (hlT : l.stackTraces = false) (D : va_G) (ca : Nat → ClassId) (x ss : Nat) (fs : Nat → Option Nat) (s₀ : Nat) (hs0 : s₀ < 2) (h ln pe ou cs lk sn ac ex tr rj : Nat) (oua : Nat) (O : Rw_) (fc : Nat → Option Nat) (q d da y st nx pa du ta : Nat) (r : Rw_) (cn : Nat) (hcn : cn < 3) (hq : fc cn = some q) (hfs : fs s₀ = some h) (hlk2 : lk < 3) (hO1 : O.2 ≤ 16) (hst : st < 6) (hup : lk = 2 ∧ O.2 ≤ 9) (hst2 : st ≠ 3) : CoX l yCl_receive (Cond.code yCl_receive cCl_receive 6 (some FieldType.int) :: tb_) { frames := 8, cells := 1, slots := 6, locals := 256 } D ca [.ref x, .int (nI s₀), .int (nI cn)] [(x, .inr (3, [.ref ss])), (ss, .inl (ca 2, 2, .inr (.inr (.inr (.inr fs))))), (h, .inr (2, [.ref ln, .ref pe, .ref ou, .ref cs, .int (nI lk), .int (nI sn), .int (nI ac), .int (nI ex), .int (nI tr), .int (nI rj)])), (ou, .inr (0, [.ref oua, .int (nI O.2)])), (oua, .inl (ca 0, 16, .inl (fun j => nI (O.1 j)))), (cs, .inl (ca 3, 3, .inr (.inr (.inr (.inr fc))))), (q, .inr (1, [.int (nI y), .ref d, .int (nI st), .int (nI nx), .int (nI pa), .int (nI du), .int (nI ta)])), (d, .inr (0, [.ref da, .int (nI r.2)])), (da, .inl (ca 0, 2, .inl (fun j => nI (r.1 j))))] "java/lang/IllegalStateException" 1 6 := by
  refine CoX.of cCl_receive 6 (some FieldType.int) (by decide) (Nat.le_of_ble_eq_true rfl) ?_
  intro p e s m args below meth c A ls fx hret hlk hnt hE hZ hP hD hS hA hl
  have hx := fx.1
  have hb := fx.2.1
  have hown : s.vm.findClass RCl = some m.cls := fx.2.2.2.1
  have hts := fx.2.2.2.2
  have ht : ∀ w ∈ tb_, w.before args s = true := fun w h => hts w (List.mem_cons_of_mem _ h)
  have e3 : (if lk = 2 ∧ O.2 ≤ 9 then 1 else 0) = 1 := if_pos hup
  have hl : lv_has ls 6 [(0, .ref x), (1, .int (nI s₀)), (2, .int (nI cn))] := hl
  refine lv_aload_n hx hb dCl_receive_0 rfl (lv_at hl 0 rfl) ?_
  refine lv_iload_n hx hb dCl_receive_1 rfl (lv_at hl 1 rfl) ?_
  refine kA (rV fx (c_Cl_stationAt l D ca x ss fs s₀ hs0 h hfs) ⟨callB_of 1 hts (tb_gi tw_143) rfl rfl rfl (ht _ tw_1) (ht _ tw_140) (by decide +kernel) ⟨(Nat.le_of_ble_eq_true rfl), (Nat.le_of_ble_eq_true rfl)⟩, ht _ tw_142, ht _ tw_826⟩ hE hP hD 0 rfl rfl rfl [0, 1] rfl rfl rfl hl.1 rfl (Nat.le_of_ble_eq_true rfl) dCl_receive_2 ⟨(Nat.le_of_ble_eq_true rfl), (Nat.le_of_ble_eq_true rfl)⟩) hP hD hS hA [0, 1] [2, 3, 4, 5, 6, 7, 8] rfl rfl rfl (by decide) (fun _ H locs _ hP hD hS => ?_)
  have hP : va_P D cls_ [(h, .inr (2, [.ref ln, .ref pe, .ref ou, .ref cs, .int (nI lk), .int (nI sn), .int (nI ac), .int (nI ex), .int (nI tr), .int (nI rj)])), (ou, .inr (0, [.ref oua, .int (nI O.2)])), (oua, .inl (ca 0, 16, .inl (fun j => nI (O.1 j)))), (cs, .inl (ca 3, 3, .inr (.inr (.inr (.inr fc))))), (q, .inr (1, [.int (nI y), .ref d, .int (nI st), .int (nI nx), .int (nI pa), .int (nI du), .int (nI ta)])), (d, .inr (0, [.ref da, .int (nI r.2)])), (da, .inl (ca 0, 2, .inl (fun j => nI (r.1 j)))), (x, .inr (3, [.ref ss])), (ss, .inl (ca 2, 2, .inr (.inr (.inr (.inr fs)))))] H := hP
  have hD : va_D A [(h, .inr (2, [.ref ln, .ref pe, .ref ou, .ref cs, .int (nI lk), .int (nI sn), .int (nI ac), .int (nI ex), .int (nI tr), .int (nI rj)])), (ou, .inr (0, [.ref oua, .int (nI O.2)])), (oua, .inl (ca 0, 16, .inl (fun j => nI (O.1 j)))), (cs, .inl (ca 3, 3, .inr (.inr (.inr (.inr fc))))), (q, .inr (1, [.int (nI y), .ref d, .int (nI st), .int (nI nx), .int (nI pa), .int (nI du), .int (nI ta)])), (d, .inr (0, [.ref da, .int (nI r.2)])), (da, .inl (ca 0, 2, .inl (fun j => nI (r.1 j)))), (x, .inr (3, [.ref ss])), (ss, .inl (ca 2, 2, .inr (.inr (.inr (.inr fs)))))] := hD
  refine lv_astore_n hx hb dCl_receive_5 rfl hl (by decide) rfl (fun ls hl => ?_)
  have hl : lv_has ls 6 [(3, .ref h), (0, .ref x), (1, .int (nI s₀)), (2, .int (nI cn))] := hl
  refine lv_aload_n hx hb dCl_receive_6 rfl (lv_at hl 0 rfl) ?_
  refine lv_iload_n hx hb dCl_receive_7 rfl (lv_at hl 3 rfl) ?_
  refine kA (rS fx (c_Cl_channelAt l D ca h ln pe ou cs lk sn ac ex tr rj fc cn q (by omega) hq) ⟨callB_of 2 hts (tb_gi tw_474) rfl rfl rfl (ht _ tw_1) (ht _ tw_472) (by decide +kernel) ⟨(Nat.le_of_ble_eq_true rfl), (Nat.le_of_ble_eq_true rfl)⟩, ht _ tw_473⟩ hE hP hD [0, 3] rfl rfl rfl hl.1 rfl (Nat.le_of_ble_eq_true rfl) dCl_receive_8 ⟨(Nat.le_of_ble_eq_true rfl), (Nat.le_of_ble_eq_true rfl)⟩) hP hD hS hA [0, 3] [1, 2, 4, 5, 6, 7, 8] rfl rfl rfl (by decide) (fun _ H locs _ hP hD hS => ?_)
  have hP : va_P D cls_ [(ou, .inr (0, [.ref oua, .int (nI O.2)])), (oua, .inl (ca 0, 16, .inl (fun j => nI (O.1 j)))), (q, .inr (1, [.int (nI y), .ref d, .int (nI st), .int (nI nx), .int (nI pa), .int (nI du), .int (nI ta)])), (d, .inr (0, [.ref da, .int (nI r.2)])), (da, .inl (ca 0, 2, .inl (fun j => nI (r.1 j)))), (x, .inr (3, [.ref ss])), (ss, .inl (ca 2, 2, .inr (.inr (.inr (.inr fs))))), (h, .inr (2, [.ref ln, .ref pe, .ref ou, .ref cs, .int (nI lk), .int (nI sn), .int (nI ac), .int (nI ex), .int (nI tr), .int (nI rj)])), (cs, .inl (ca 3, 3, .inr (.inr (.inr (.inr fc)))))] H := hP
  have hD : va_D A [(ou, .inr (0, [.ref oua, .int (nI O.2)])), (oua, .inl (ca 0, 16, .inl (fun j => nI (O.1 j)))), (q, .inr (1, [.int (nI y), .ref d, .int (nI st), .int (nI nx), .int (nI pa), .int (nI du), .int (nI ta)])), (d, .inr (0, [.ref da, .int (nI r.2)])), (da, .inl (ca 0, 2, .inl (fun j => nI (r.1 j)))), (x, .inr (3, [.ref ss])), (ss, .inl (ca 2, 2, .inr (.inr (.inr (.inr fs))))), (h, .inr (2, [.ref ln, .ref pe, .ref ou, .ref cs, .int (nI lk), .int (nI sn), .int (nI ac), .int (nI ex), .int (nI tr), .int (nI rj)])), (cs, .inl (ca 3, 3, .inr (.inr (.inr (.inr fc)))))] := hD
  refine lv_astore hx hb dCl_receive_11 hl (by decide) rfl (fun ls hl => ?_)
  have hl : lv_has ls 6 [(4, .ref q), (3, .ref h), (0, .ref x), (1, .int (nI s₀)), (2, .int (nI cn))] := hl
  refine lv_aload_n hx hb dCl_receive_13 rfl (lv_at hl 1 rfl) ?_
  refine kI (rV fx (c_St_takesCalls l D ca h ln pe ou cs lk sn ac ex tr rj oua O (by omega) (by omega)) ⟨callB_of 0 hts (tb_gi tw_478) rfl rfl rfl (ht _ tw_3) (ht _ tw_475) (by decide +kernel) ⟨(Nat.le_of_ble_eq_true rfl), (Nat.le_of_ble_eq_true rfl)⟩, ht _ tw_476, ht _ tw_477⟩ hE hP hD 7 rfl rfl rfl [7, 0, 1] rfl rfl rfl hl.1 rfl (Nat.le_of_ble_eq_true rfl) dCl_receive_14 ⟨(Nat.le_of_ble_eq_true rfl), (Nat.le_of_ble_eq_true rfl)⟩) hP hD hS hA [7, 0, 1] [2, 3, 4, 5, 6, 8] rfl rfl rfl (by decide) (fun _ H locs _ hP hD hS => ?_)
  have hP : va_P D cls_ [(q, .inr (1, [.int (nI y), .ref d, .int (nI st), .int (nI nx), .int (nI pa), .int (nI du), .int (nI ta)])), (d, .inr (0, [.ref da, .int (nI r.2)])), (da, .inl (ca 0, 2, .inl (fun j => nI (r.1 j)))), (x, .inr (3, [.ref ss])), (ss, .inl (ca 2, 2, .inr (.inr (.inr (.inr fs))))), (cs, .inl (ca 3, 3, .inr (.inr (.inr (.inr fc))))), (h, .inr (2, [.ref ln, .ref pe, .ref ou, .ref cs, .int (nI lk), .int (nI sn), .int (nI ac), .int (nI ex), .int (nI tr), .int (nI rj)])), (ou, .inr (0, [.ref oua, .int (nI O.2)])), (oua, .inl (ca 0, 16, .inl (fun j => nI (O.1 j))))] H := hP
  have hD : va_D A [(q, .inr (1, [.int (nI y), .ref d, .int (nI st), .int (nI nx), .int (nI pa), .int (nI du), .int (nI ta)])), (d, .inr (0, [.ref da, .int (nI r.2)])), (da, .inl (ca 0, 2, .inl (fun j => nI (r.1 j)))), (x, .inr (3, [.ref ss])), (ss, .inl (ca 2, 2, .inr (.inr (.inr (.inr fs))))), (cs, .inl (ca 3, 3, .inr (.inr (.inr (.inr fc))))), (h, .inr (2, [.ref ln, .ref pe, .ref ou, .ref cs, .int (nI lk), .int (nI sn), .int (nI ac), .int (nI ex), .int (nI tr), .int (nI rj)])), (ou, .inr (0, [.ref oua, .int (nI O.2)])), (oua, .inl (ca 0, 16, .inl (fun j => nI (O.1 j))))] := hD
  refine k_is (y := nI 1) (by rw [e3]) ?_
  refine k_if_eq (tgt := 33) hx hb (by omega) dCl_receive_17 rfl (fun hz => absurd hz (by omega)) (fun h17 => ?_)
  refine lv_aload hx hb dCl_receive_20 (lv_at hl 0 rfl) ?_
  refine va_getN (D := D) (ci := 1) (v := .int (nI st)) (host := "ChannelledLink") (C := RCh) (T := TCh) (N := 7) hx hb ht inCh hown hE.1 hP 0 rfl rfl 2 (by decide) (hE.nestU tw_64 rfl) (fun _ h => h) rfl dCl_receive_22 ?_
  refine lv_iconst (v := nI 3) hx hb dCl_receive_25 (by decide) ?_
  refine k_icmp_ne (tgt := 33) hx hb (by omega) (by omega) dCl_receive_26 rfl (fun h26 => ?_) (fun hz => absurd hz (by omega))
  refine lv_iconst (v := nI 0) hx hb dCl_receive_33 (by decide) ?_
  refine kX (xS fx (x_Cl_requireState l hlT D ca) ⟨callB_of 1 hts (tb_gi tw_253) rfl rfl rfl (ht _ tw_1) (ht _ tw_251) (by decide +kernel) ⟨(Nat.le_of_ble_eq_true rfl), (Nat.le_of_ble_eq_true rfl)⟩, ht _ tw_252⟩ hE hZ hP hD hS hA [] rfl rfl rfl hl.1 rfl (Nat.le_of_ble_eq_true rfl) dCl_receive_34 ⟨(Nat.le_of_ble_eq_true rfl), (Nat.le_of_ble_eq_true rfl)⟩) hP hD hS hA [] [0, 1, 2, 3, 4, 5, 6, 7, 8] rfl rfl rfl (by decide) (fun ce q9 H locs hP hD hS hce hcv hcl => ?_)
  have hP : va_P D cls_ [(q, .inr (1, [.int (nI y), .ref d, .int (nI st), .int (nI nx), .int (nI pa), .int (nI du), .int (nI ta)])), (d, .inr (0, [.ref da, .int (nI r.2)])), (da, .inl (ca 0, 2, .inl (fun j => nI (r.1 j)))), (x, .inr (3, [.ref ss])), (ss, .inl (ca 2, 2, .inr (.inr (.inr (.inr fs))))), (cs, .inl (ca 3, 3, .inr (.inr (.inr (.inr fc))))), (h, .inr (2, [.ref ln, .ref pe, .ref ou, .ref cs, .int (nI lk), .int (nI sn), .int (nI ac), .int (nI ex), .int (nI tr), .int (nI rj)])), (ou, .inr (0, [.ref oua, .int (nI O.2)])), (oua, .inl (ca 0, 16, .inl (fun j => nI (O.1 j))))] H := hP
  have hD : va_D A [(q, .inr (1, [.int (nI y), .ref d, .int (nI st), .int (nI nx), .int (nI pa), .int (nI du), .int (nI ta)])), (d, .inr (0, [.ref da, .int (nI r.2)])), (da, .inl (ca 0, 2, .inl (fun j => nI (r.1 j)))), (x, .inr (3, [.ref ss])), (ss, .inl (ca 2, 2, .inr (.inr (.inr (.inr fs))))), (cs, .inl (ca 3, 3, .inr (.inr (.inr (.inr fc))))), (h, .inr (2, [.ref ln, .ref pe, .ref ou, .ref cs, .int (nI lk), .int (nI sn), .int (nI ac), .int (nI ex), .int (nI tr), .int (nI rj)])), (ou, .inr (0, [.ref oua, .int (nI O.2)])), (oua, .inl (ca 0, 16, .inl (fun j => nI (O.1 j))))] := hD
  have hP : va_P D cls_ [(x, .inr (3, [.ref ss])), (ss, .inl (ca 2, 2, .inr (.inr (.inr (.inr fs))))), (h, .inr (2, [.ref ln, .ref pe, .ref ou, .ref cs, .int (nI lk), .int (nI sn), .int (nI ac), .int (nI ex), .int (nI tr), .int (nI rj)])), (ou, .inr (0, [.ref oua, .int (nI O.2)])), (oua, .inl (ca 0, 16, .inl (fun j => nI (O.1 j)))), (cs, .inl (ca 3, 3, .inr (.inr (.inr (.inr fc))))), (q, .inr (1, [.int (nI y), .ref d, .int (nI st), .int (nI nx), .int (nI pa), .int (nI du), .int (nI ta)])), (d, .inr (0, [.ref da, .int (nI r.2)])), (da, .inl (ca 0, 2, .inl (fun j => nI (r.1 j))))] H := hP.sub [3, 4, 6, 7, 8, 5, 0, 1, 2] rfl
  have hD : va_D A [(x, .inr (3, [.ref ss])), (ss, .inl (ca 2, 2, .inr (.inr (.inr (.inr fs))))), (h, .inr (2, [.ref ln, .ref pe, .ref ou, .ref cs, .int (nI lk), .int (nI sn), .int (nI ac), .int (nI ex), .int (nI tr), .int (nI rj)])), (ou, .inr (0, [.ref oua, .int (nI O.2)])), (oua, .inl (ca 0, 16, .inl (fun j => nI (O.1 j)))), (cs, .inl (ca 3, 3, .inr (.inr (.inr (.inr fc))))), (q, .inr (1, [.int (nI y), .ref d, .int (nI st), .int (nI nx), .int (nI pa), .int (nI du), .int (nI ta)])), (d, .inr (0, [.ref da, .int (nI r.2)])), (da, .inl (ca 0, 2, .inl (fun j => nI (r.1 j))))] := hD.sub [3, 4, 6, 7, 8, 5, 0, 1, 2] rfl rfl
  exact xout hnt hlk hce hcv hcl hP hD hS (Nat.le_of_ble_eq_true rfl) (Nat.le_of_ble_eq_true rfl)
set_option maxHeartbeats 4000000 in
set_option maxRecDepth 100000 in
theorem x_Cl_send_u (l : Launch) (hlT : l.stackTraces = false) (D : va_G) (ca : Nat → ClassId) (x ss : Nat) (fs : Nat → Option Nat) (s₀ : Nat) (hs0 : s₀ < 2) (h ln pe ou cs lk sn ac ex tr rj : Nat) (oua : Nat) (O : Rw_) (fc : Nat → Option Nat) (q d da y st nx pa du ta : Nat) (r : Rw_) (cn : Nat) (hcn : cn < 3) (hq : fc cn = some q) (hfs : fs s₀ = some h) (hlk2 : lk < 3) (hO1 : O.2 ≤ 16) (hst : st < 6) (vl mo : Nat) (hvl : vl < 256) (hup : ¬ (lk = 2 ∧ O.2 ≤ 9)) : CoX l yCl_send (Cond.code yCl_send cCl_send 9 (some FieldType.boolean) :: tb_) { frames := 8, cells := 1, slots := 6, locals := 256 } D ca [.ref x, .int (nI s₀), .int (nI cn), .int (nI vl), .int (nI mo)] [(x, .inr (3, [.ref ss])), (ss, .inl (ca 2, 2, .inr (.inr (.inr (.inr fs))))), (h, .inr (2, [.ref ln, .ref pe, .ref ou, .ref cs, .int (nI lk), .int (nI sn), .int (nI ac), .int (nI ex), .int (nI tr), .int (nI rj)])), (ou, .inr (0, [.ref oua, .int (nI O.2)])), (oua, .inl (ca 0, 16, .inl (fun j => nI (O.1 j)))), (cs, .inl (ca 3, 3, .inr (.inr (.inr (.inr fc))))), (q, .inr (1, [.int (nI y), .ref d, .int (nI st), .int (nI nx), .int (nI pa), .int (nI du), .int (nI ta)])), (d, .inr (0, [.ref da, .int (nI r.2)])), (da, .inl (ca 0, 2, .inl (fun j => nI (r.1 j))))] "java/lang/IllegalStateException" 1 6 := by
  refine CoX.of cCl_send 9 (some FieldType.boolean) (by decide) (Nat.le_of_ble_eq_true rfl) ?_
  intro p e s m args below meth c A ls fx hret hlk hnt hE hZ hP hD hS hA hl
  have hx := fx.1
  have hb := fx.2.1
  have hown : s.vm.findClass RCl = some m.cls := fx.2.2.2.1
  have hts := fx.2.2.2.2
  have ht : ∀ w ∈ tb_, w.before args s = true := fun w h => hts w (List.mem_cons_of_mem _ h)
  have e3 : (if lk = 2 ∧ O.2 ≤ 9 then 1 else 0) = 0 := if_neg hup
  have hl : lv_has ls 9 [(0, .ref x), (1, .int (nI s₀)), (2, .int (nI cn)), (3, .int (nI vl)), (4, .int (nI mo))] := hl
  refine lv_aload_n hx hb dCl_send_0 rfl (lv_at hl 0 rfl) ?_
  refine lv_iload_n hx hb dCl_send_1 rfl (lv_at hl 1 rfl) ?_
  refine kA (rV fx (c_Cl_stationAt l D ca x ss fs s₀ hs0 h hfs) ⟨callB_of 1 hts (tb_gi tw_143) rfl rfl rfl (ht _ tw_1) (ht _ tw_140) (by decide +kernel) ⟨(Nat.le_of_ble_eq_true rfl), (Nat.le_of_ble_eq_true rfl)⟩, ht _ tw_142, ht _ tw_826⟩ hE hP hD 0 rfl rfl rfl [0, 1] rfl rfl rfl hl.1 rfl (Nat.le_of_ble_eq_true rfl) dCl_send_2 ⟨(Nat.le_of_ble_eq_true rfl), (Nat.le_of_ble_eq_true rfl)⟩) hP hD hS hA [0, 1] [2, 3, 4, 5, 6, 7, 8] rfl rfl rfl (by decide) (fun _ H locs _ hP hD hS => ?_)
  have hP : va_P D cls_ [(h, .inr (2, [.ref ln, .ref pe, .ref ou, .ref cs, .int (nI lk), .int (nI sn), .int (nI ac), .int (nI ex), .int (nI tr), .int (nI rj)])), (ou, .inr (0, [.ref oua, .int (nI O.2)])), (oua, .inl (ca 0, 16, .inl (fun j => nI (O.1 j)))), (cs, .inl (ca 3, 3, .inr (.inr (.inr (.inr fc))))), (q, .inr (1, [.int (nI y), .ref d, .int (nI st), .int (nI nx), .int (nI pa), .int (nI du), .int (nI ta)])), (d, .inr (0, [.ref da, .int (nI r.2)])), (da, .inl (ca 0, 2, .inl (fun j => nI (r.1 j)))), (x, .inr (3, [.ref ss])), (ss, .inl (ca 2, 2, .inr (.inr (.inr (.inr fs)))))] H := hP
  have hD : va_D A [(h, .inr (2, [.ref ln, .ref pe, .ref ou, .ref cs, .int (nI lk), .int (nI sn), .int (nI ac), .int (nI ex), .int (nI tr), .int (nI rj)])), (ou, .inr (0, [.ref oua, .int (nI O.2)])), (oua, .inl (ca 0, 16, .inl (fun j => nI (O.1 j)))), (cs, .inl (ca 3, 3, .inr (.inr (.inr (.inr fc))))), (q, .inr (1, [.int (nI y), .ref d, .int (nI st), .int (nI nx), .int (nI pa), .int (nI du), .int (nI ta)])), (d, .inr (0, [.ref da, .int (nI r.2)])), (da, .inl (ca 0, 2, .inl (fun j => nI (r.1 j)))), (x, .inr (3, [.ref ss])), (ss, .inl (ca 2, 2, .inr (.inr (.inr (.inr fs)))))] := hD
  refine lv_astore hx hb dCl_send_5 hl (by decide) rfl (fun ls hl => ?_)
  have hl : lv_has ls 9 [(5, .ref h), (0, .ref x), (1, .int (nI s₀)), (2, .int (nI cn)), (3, .int (nI vl)), (4, .int (nI mo))] := hl
  refine lv_aload hx hb dCl_send_7 (lv_at hl 0 rfl) ?_
  refine lv_iload_n hx hb dCl_send_9 rfl (lv_at hl 3 rfl) ?_
  refine kA (rS fx (c_Cl_channelAt l D ca h ln pe ou cs lk sn ac ex tr rj fc cn q (by omega) hq) ⟨callB_of 2 hts (tb_gi tw_474) rfl rfl rfl (ht _ tw_1) (ht _ tw_472) (by decide +kernel) ⟨(Nat.le_of_ble_eq_true rfl), (Nat.le_of_ble_eq_true rfl)⟩, ht _ tw_473⟩ hE hP hD [0, 3] rfl rfl rfl hl.1 rfl (Nat.le_of_ble_eq_true rfl) dCl_send_10 ⟨(Nat.le_of_ble_eq_true rfl), (Nat.le_of_ble_eq_true rfl)⟩) hP hD hS hA [0, 3] [1, 2, 4, 5, 6, 7, 8] rfl rfl rfl (by decide) (fun _ H locs _ hP hD hS => ?_)
  have hP : va_P D cls_ [(ou, .inr (0, [.ref oua, .int (nI O.2)])), (oua, .inl (ca 0, 16, .inl (fun j => nI (O.1 j)))), (q, .inr (1, [.int (nI y), .ref d, .int (nI st), .int (nI nx), .int (nI pa), .int (nI du), .int (nI ta)])), (d, .inr (0, [.ref da, .int (nI r.2)])), (da, .inl (ca 0, 2, .inl (fun j => nI (r.1 j)))), (x, .inr (3, [.ref ss])), (ss, .inl (ca 2, 2, .inr (.inr (.inr (.inr fs))))), (h, .inr (2, [.ref ln, .ref pe, .ref ou, .ref cs, .int (nI lk), .int (nI sn), .int (nI ac), .int (nI ex), .int (nI tr), .int (nI rj)])), (cs, .inl (ca 3, 3, .inr (.inr (.inr (.inr fc)))))] H := hP
  have hD : va_D A [(ou, .inr (0, [.ref oua, .int (nI O.2)])), (oua, .inl (ca 0, 16, .inl (fun j => nI (O.1 j)))), (q, .inr (1, [.int (nI y), .ref d, .int (nI st), .int (nI nx), .int (nI pa), .int (nI du), .int (nI ta)])), (d, .inr (0, [.ref da, .int (nI r.2)])), (da, .inl (ca 0, 2, .inl (fun j => nI (r.1 j)))), (x, .inr (3, [.ref ss])), (ss, .inl (ca 2, 2, .inr (.inr (.inr (.inr fs))))), (h, .inr (2, [.ref ln, .ref pe, .ref ou, .ref cs, .int (nI lk), .int (nI sn), .int (nI ac), .int (nI ex), .int (nI tr), .int (nI rj)])), (cs, .inl (ca 3, 3, .inr (.inr (.inr (.inr fc)))))] := hD
  refine lv_astore hx hb dCl_send_13 hl (by decide) rfl (fun ls hl => ?_)
  have hl : lv_has ls 9 [(6, .ref q), (5, .ref h), (0, .ref x), (1, .int (nI s₀)), (2, .int (nI cn)), (3, .int (nI vl)), (4, .int (nI mo))] := hl
  refine lv_iload_n hx hb dCl_send_15 rfl (lv_at hl 5 rfl) ?_
  refine kV (rS fx (c_Cl_requireValue l D ca vl (by omega)) ⟨callB_of 1 hts (tb_gi tw_513) rfl rfl rfl (ht _ tw_1) (ht _ tw_511) (by decide +kernel) ⟨(Nat.le_of_ble_eq_true rfl), (Nat.le_of_ble_eq_true rfl)⟩, ht _ tw_512⟩ hE hP hD [] rfl rfl rfl hl.1 rfl (Nat.le_of_ble_eq_true rfl) dCl_send_16 ⟨(Nat.le_of_ble_eq_true rfl), (Nat.le_of_ble_eq_true rfl)⟩) hP hD hS hA [] [0, 1, 2, 3, 4, 5, 6, 7, 8] rfl rfl rfl (by decide) (fun _ H locs _ hP hD hS => ?_)
  have hP : va_P D cls_ [(ou, .inr (0, [.ref oua, .int (nI O.2)])), (oua, .inl (ca 0, 16, .inl (fun j => nI (O.1 j)))), (q, .inr (1, [.int (nI y), .ref d, .int (nI st), .int (nI nx), .int (nI pa), .int (nI du), .int (nI ta)])), (d, .inr (0, [.ref da, .int (nI r.2)])), (da, .inl (ca 0, 2, .inl (fun j => nI (r.1 j)))), (x, .inr (3, [.ref ss])), (ss, .inl (ca 2, 2, .inr (.inr (.inr (.inr fs))))), (h, .inr (2, [.ref ln, .ref pe, .ref ou, .ref cs, .int (nI lk), .int (nI sn), .int (nI ac), .int (nI ex), .int (nI tr), .int (nI rj)])), (cs, .inl (ca 3, 3, .inr (.inr (.inr (.inr fc)))))] H := hP
  have hD : va_D A [(ou, .inr (0, [.ref oua, .int (nI O.2)])), (oua, .inl (ca 0, 16, .inl (fun j => nI (O.1 j)))), (q, .inr (1, [.int (nI y), .ref d, .int (nI st), .int (nI nx), .int (nI pa), .int (nI du), .int (nI ta)])), (d, .inr (0, [.ref da, .int (nI r.2)])), (da, .inl (ca 0, 2, .inl (fun j => nI (r.1 j)))), (x, .inr (3, [.ref ss])), (ss, .inl (ca 2, 2, .inr (.inr (.inr (.inr fs))))), (h, .inr (2, [.ref ln, .ref pe, .ref ou, .ref cs, .int (nI lk), .int (nI sn), .int (nI ac), .int (nI ex), .int (nI tr), .int (nI rj)])), (cs, .inl (ca 3, 3, .inr (.inr (.inr (.inr fc)))))] := hD
  refine lv_aload hx hb dCl_send_19 (lv_at hl 1 rfl) ?_
  refine kI (rV fx (c_St_takesCalls l D ca h ln pe ou cs lk sn ac ex tr rj oua O (by omega) (by omega)) ⟨callB_of 0 hts (tb_gi tw_478) rfl rfl rfl (ht _ tw_3) (ht _ tw_475) (by decide +kernel) ⟨(Nat.le_of_ble_eq_true rfl), (Nat.le_of_ble_eq_true rfl)⟩, ht _ tw_476, ht _ tw_477⟩ hE hP hD 7 rfl rfl rfl [7, 0, 1] rfl rfl rfl hl.1 rfl (Nat.le_of_ble_eq_true rfl) dCl_send_21 ⟨(Nat.le_of_ble_eq_true rfl), (Nat.le_of_ble_eq_true rfl)⟩) hP hD hS hA [7, 0, 1] [2, 3, 4, 5, 6, 8] rfl rfl rfl (by decide) (fun _ H locs _ hP hD hS => ?_)
  have hP : va_P D cls_ [(q, .inr (1, [.int (nI y), .ref d, .int (nI st), .int (nI nx), .int (nI pa), .int (nI du), .int (nI ta)])), (d, .inr (0, [.ref da, .int (nI r.2)])), (da, .inl (ca 0, 2, .inl (fun j => nI (r.1 j)))), (x, .inr (3, [.ref ss])), (ss, .inl (ca 2, 2, .inr (.inr (.inr (.inr fs))))), (cs, .inl (ca 3, 3, .inr (.inr (.inr (.inr fc))))), (h, .inr (2, [.ref ln, .ref pe, .ref ou, .ref cs, .int (nI lk), .int (nI sn), .int (nI ac), .int (nI ex), .int (nI tr), .int (nI rj)])), (ou, .inr (0, [.ref oua, .int (nI O.2)])), (oua, .inl (ca 0, 16, .inl (fun j => nI (O.1 j))))] H := hP
  have hD : va_D A [(q, .inr (1, [.int (nI y), .ref d, .int (nI st), .int (nI nx), .int (nI pa), .int (nI du), .int (nI ta)])), (d, .inr (0, [.ref da, .int (nI r.2)])), (da, .inl (ca 0, 2, .inl (fun j => nI (r.1 j)))), (x, .inr (3, [.ref ss])), (ss, .inl (ca 2, 2, .inr (.inr (.inr (.inr fs))))), (cs, .inl (ca 3, 3, .inr (.inr (.inr (.inr fc))))), (h, .inr (2, [.ref ln, .ref pe, .ref ou, .ref cs, .int (nI lk), .int (nI sn), .int (nI ac), .int (nI ex), .int (nI tr), .int (nI rj)])), (ou, .inr (0, [.ref oua, .int (nI O.2)])), (oua, .inl (ca 0, 16, .inl (fun j => nI (O.1 j))))] := hD
  refine k_is (y := nI 0) (by rw [e3]) ?_
  refine k_if_eq (tgt := 40) hx hb (by omega) dCl_send_24 rfl (fun h24 => ?_) (fun hz => absurd hz (by omega))
  refine lv_iconst (v := nI 0) hx hb dCl_send_40 (by decide) ?_
  refine kX (xS fx (x_Cl_requireState l hlT D ca) ⟨callB_of 1 hts (tb_gi tw_253) rfl rfl rfl (ht _ tw_1) (ht _ tw_251) (by decide +kernel) ⟨(Nat.le_of_ble_eq_true rfl), (Nat.le_of_ble_eq_true rfl)⟩, ht _ tw_252⟩ hE hZ hP hD hS hA [] rfl rfl rfl hl.1 rfl (Nat.le_of_ble_eq_true rfl) dCl_send_41 ⟨(Nat.le_of_ble_eq_true rfl), (Nat.le_of_ble_eq_true rfl)⟩) hP hD hS hA [] [0, 1, 2, 3, 4, 5, 6, 7, 8] rfl rfl rfl (by decide) (fun ce q9 H locs hP hD hS hce hcv hcl => ?_)
  have hP : va_P D cls_ [(q, .inr (1, [.int (nI y), .ref d, .int (nI st), .int (nI nx), .int (nI pa), .int (nI du), .int (nI ta)])), (d, .inr (0, [.ref da, .int (nI r.2)])), (da, .inl (ca 0, 2, .inl (fun j => nI (r.1 j)))), (x, .inr (3, [.ref ss])), (ss, .inl (ca 2, 2, .inr (.inr (.inr (.inr fs))))), (cs, .inl (ca 3, 3, .inr (.inr (.inr (.inr fc))))), (h, .inr (2, [.ref ln, .ref pe, .ref ou, .ref cs, .int (nI lk), .int (nI sn), .int (nI ac), .int (nI ex), .int (nI tr), .int (nI rj)])), (ou, .inr (0, [.ref oua, .int (nI O.2)])), (oua, .inl (ca 0, 16, .inl (fun j => nI (O.1 j))))] H := hP
  have hD : va_D A [(q, .inr (1, [.int (nI y), .ref d, .int (nI st), .int (nI nx), .int (nI pa), .int (nI du), .int (nI ta)])), (d, .inr (0, [.ref da, .int (nI r.2)])), (da, .inl (ca 0, 2, .inl (fun j => nI (r.1 j)))), (x, .inr (3, [.ref ss])), (ss, .inl (ca 2, 2, .inr (.inr (.inr (.inr fs))))), (cs, .inl (ca 3, 3, .inr (.inr (.inr (.inr fc))))), (h, .inr (2, [.ref ln, .ref pe, .ref ou, .ref cs, .int (nI lk), .int (nI sn), .int (nI ac), .int (nI ex), .int (nI tr), .int (nI rj)])), (ou, .inr (0, [.ref oua, .int (nI O.2)])), (oua, .inl (ca 0, 16, .inl (fun j => nI (O.1 j))))] := hD
  have hP : va_P D cls_ [(x, .inr (3, [.ref ss])), (ss, .inl (ca 2, 2, .inr (.inr (.inr (.inr fs))))), (h, .inr (2, [.ref ln, .ref pe, .ref ou, .ref cs, .int (nI lk), .int (nI sn), .int (nI ac), .int (nI ex), .int (nI tr), .int (nI rj)])), (ou, .inr (0, [.ref oua, .int (nI O.2)])), (oua, .inl (ca 0, 16, .inl (fun j => nI (O.1 j)))), (cs, .inl (ca 3, 3, .inr (.inr (.inr (.inr fc))))), (q, .inr (1, [.int (nI y), .ref d, .int (nI st), .int (nI nx), .int (nI pa), .int (nI du), .int (nI ta)])), (d, .inr (0, [.ref da, .int (nI r.2)])), (da, .inl (ca 0, 2, .inl (fun j => nI (r.1 j))))] H := hP.sub [3, 4, 6, 7, 8, 5, 0, 1, 2] rfl
  have hD : va_D A [(x, .inr (3, [.ref ss])), (ss, .inl (ca 2, 2, .inr (.inr (.inr (.inr fs))))), (h, .inr (2, [.ref ln, .ref pe, .ref ou, .ref cs, .int (nI lk), .int (nI sn), .int (nI ac), .int (nI ex), .int (nI tr), .int (nI rj)])), (ou, .inr (0, [.ref oua, .int (nI O.2)])), (oua, .inl (ca 0, 16, .inl (fun j => nI (O.1 j)))), (cs, .inl (ca 3, 3, .inr (.inr (.inr (.inr fc))))), (q, .inr (1, [.int (nI y), .ref d, .int (nI st), .int (nI nx), .int (nI pa), .int (nI du), .int (nI ta)])), (d, .inr (0, [.ref da, .int (nI r.2)])), (da, .inl (ca 0, 2, .inl (fun j => nI (r.1 j))))] := hD.sub [3, 4, 6, 7, 8, 5, 0, 1, 2] rfl rfl
  exact xout hnt hlk hce hcv hcl hP hD hS (Nat.le_of_ble_eq_true rfl) (Nat.le_of_ble_eq_true rfl)
set_option maxHeartbeats 4000000 in
set_option maxRecDepth 100000 in
theorem x_Cl_send_t (l : Launch) (hlT : l.stackTraces = false) (D : va_G) (ca : Nat → ClassId) (x ss : Nat) (fs : Nat → Option Nat) (s₀ : Nat) (hs0 : s₀ < 2) (h ln pe ou cs lk sn ac ex tr rj : Nat) (oua : Nat) (O : Rw_) (fc : Nat → Option Nat) (q d da y st nx pa du ta : Nat) (r : Rw_) (cn : Nat) (hcn : cn < 3) (hq : fc cn = some q) (hfs : fs s₀ = some h) (hlk2 : lk < 3) (hO1 : O.2 ≤ 16) (hst : st < 6) (vl mo : Nat) (hvl : vl < 256) (hup : lk = 2 ∧ O.2 ≤ 9) (hst2 : st ≠ 3) : CoX l yCl_send (Cond.code yCl_send cCl_send 9 (some FieldType.boolean) :: tb_) { frames := 8, cells := 1, slots := 6, locals := 256 } D ca [.ref x, .int (nI s₀), .int (nI cn), .int (nI vl), .int (nI mo)] [(x, .inr (3, [.ref ss])), (ss, .inl (ca 2, 2, .inr (.inr (.inr (.inr fs))))), (h, .inr (2, [.ref ln, .ref pe, .ref ou, .ref cs, .int (nI lk), .int (nI sn), .int (nI ac), .int (nI ex), .int (nI tr), .int (nI rj)])), (ou, .inr (0, [.ref oua, .int (nI O.2)])), (oua, .inl (ca 0, 16, .inl (fun j => nI (O.1 j)))), (cs, .inl (ca 3, 3, .inr (.inr (.inr (.inr fc))))), (q, .inr (1, [.int (nI y), .ref d, .int (nI st), .int (nI nx), .int (nI pa), .int (nI du), .int (nI ta)])), (d, .inr (0, [.ref da, .int (nI r.2)])), (da, .inl (ca 0, 2, .inl (fun j => nI (r.1 j))))] "java/lang/IllegalStateException" 1 6 := by
  refine CoX.of cCl_send 9 (some FieldType.boolean) (by decide) (Nat.le_of_ble_eq_true rfl) ?_
  intro p e s m args below meth c A ls fx hret hlk hnt hE hZ hP hD hS hA hl
  have hx := fx.1
  have hb := fx.2.1
  have hown : s.vm.findClass RCl = some m.cls := fx.2.2.2.1
  have hts := fx.2.2.2.2
  have ht : ∀ w ∈ tb_, w.before args s = true := fun w h => hts w (List.mem_cons_of_mem _ h)
  have e3 : (if lk = 2 ∧ O.2 ≤ 9 then 1 else 0) = 1 := if_pos hup
  have hl : lv_has ls 9 [(0, .ref x), (1, .int (nI s₀)), (2, .int (nI cn)), (3, .int (nI vl)), (4, .int (nI mo))] := hl
  refine lv_aload_n hx hb dCl_send_0 rfl (lv_at hl 0 rfl) ?_
  refine lv_iload_n hx hb dCl_send_1 rfl (lv_at hl 1 rfl) ?_
  refine kA (rV fx (c_Cl_stationAt l D ca x ss fs s₀ hs0 h hfs) ⟨callB_of 1 hts (tb_gi tw_143) rfl rfl rfl (ht _ tw_1) (ht _ tw_140) (by decide +kernel) ⟨(Nat.le_of_ble_eq_true rfl), (Nat.le_of_ble_eq_true rfl)⟩, ht _ tw_142, ht _ tw_826⟩ hE hP hD 0 rfl rfl rfl [0, 1] rfl rfl rfl hl.1 rfl (Nat.le_of_ble_eq_true rfl) dCl_send_2 ⟨(Nat.le_of_ble_eq_true rfl), (Nat.le_of_ble_eq_true rfl)⟩) hP hD hS hA [0, 1] [2, 3, 4, 5, 6, 7, 8] rfl rfl rfl (by decide) (fun _ H locs _ hP hD hS => ?_)
  have hP : va_P D cls_ [(h, .inr (2, [.ref ln, .ref pe, .ref ou, .ref cs, .int (nI lk), .int (nI sn), .int (nI ac), .int (nI ex), .int (nI tr), .int (nI rj)])), (ou, .inr (0, [.ref oua, .int (nI O.2)])), (oua, .inl (ca 0, 16, .inl (fun j => nI (O.1 j)))), (cs, .inl (ca 3, 3, .inr (.inr (.inr (.inr fc))))), (q, .inr (1, [.int (nI y), .ref d, .int (nI st), .int (nI nx), .int (nI pa), .int (nI du), .int (nI ta)])), (d, .inr (0, [.ref da, .int (nI r.2)])), (da, .inl (ca 0, 2, .inl (fun j => nI (r.1 j)))), (x, .inr (3, [.ref ss])), (ss, .inl (ca 2, 2, .inr (.inr (.inr (.inr fs)))))] H := hP
  have hD : va_D A [(h, .inr (2, [.ref ln, .ref pe, .ref ou, .ref cs, .int (nI lk), .int (nI sn), .int (nI ac), .int (nI ex), .int (nI tr), .int (nI rj)])), (ou, .inr (0, [.ref oua, .int (nI O.2)])), (oua, .inl (ca 0, 16, .inl (fun j => nI (O.1 j)))), (cs, .inl (ca 3, 3, .inr (.inr (.inr (.inr fc))))), (q, .inr (1, [.int (nI y), .ref d, .int (nI st), .int (nI nx), .int (nI pa), .int (nI du), .int (nI ta)])), (d, .inr (0, [.ref da, .int (nI r.2)])), (da, .inl (ca 0, 2, .inl (fun j => nI (r.1 j)))), (x, .inr (3, [.ref ss])), (ss, .inl (ca 2, 2, .inr (.inr (.inr (.inr fs)))))] := hD
  refine lv_astore hx hb dCl_send_5 hl (by decide) rfl (fun ls hl => ?_)
  have hl : lv_has ls 9 [(5, .ref h), (0, .ref x), (1, .int (nI s₀)), (2, .int (nI cn)), (3, .int (nI vl)), (4, .int (nI mo))] := hl
  refine lv_aload hx hb dCl_send_7 (lv_at hl 0 rfl) ?_
  refine lv_iload_n hx hb dCl_send_9 rfl (lv_at hl 3 rfl) ?_
  refine kA (rS fx (c_Cl_channelAt l D ca h ln pe ou cs lk sn ac ex tr rj fc cn q (by omega) hq) ⟨callB_of 2 hts (tb_gi tw_474) rfl rfl rfl (ht _ tw_1) (ht _ tw_472) (by decide +kernel) ⟨(Nat.le_of_ble_eq_true rfl), (Nat.le_of_ble_eq_true rfl)⟩, ht _ tw_473⟩ hE hP hD [0, 3] rfl rfl rfl hl.1 rfl (Nat.le_of_ble_eq_true rfl) dCl_send_10 ⟨(Nat.le_of_ble_eq_true rfl), (Nat.le_of_ble_eq_true rfl)⟩) hP hD hS hA [0, 3] [1, 2, 4, 5, 6, 7, 8] rfl rfl rfl (by decide) (fun _ H locs _ hP hD hS => ?_)
  have hP : va_P D cls_ [(ou, .inr (0, [.ref oua, .int (nI O.2)])), (oua, .inl (ca 0, 16, .inl (fun j => nI (O.1 j)))), (q, .inr (1, [.int (nI y), .ref d, .int (nI st), .int (nI nx), .int (nI pa), .int (nI du), .int (nI ta)])), (d, .inr (0, [.ref da, .int (nI r.2)])), (da, .inl (ca 0, 2, .inl (fun j => nI (r.1 j)))), (x, .inr (3, [.ref ss])), (ss, .inl (ca 2, 2, .inr (.inr (.inr (.inr fs))))), (h, .inr (2, [.ref ln, .ref pe, .ref ou, .ref cs, .int (nI lk), .int (nI sn), .int (nI ac), .int (nI ex), .int (nI tr), .int (nI rj)])), (cs, .inl (ca 3, 3, .inr (.inr (.inr (.inr fc)))))] H := hP
  have hD : va_D A [(ou, .inr (0, [.ref oua, .int (nI O.2)])), (oua, .inl (ca 0, 16, .inl (fun j => nI (O.1 j)))), (q, .inr (1, [.int (nI y), .ref d, .int (nI st), .int (nI nx), .int (nI pa), .int (nI du), .int (nI ta)])), (d, .inr (0, [.ref da, .int (nI r.2)])), (da, .inl (ca 0, 2, .inl (fun j => nI (r.1 j)))), (x, .inr (3, [.ref ss])), (ss, .inl (ca 2, 2, .inr (.inr (.inr (.inr fs))))), (h, .inr (2, [.ref ln, .ref pe, .ref ou, .ref cs, .int (nI lk), .int (nI sn), .int (nI ac), .int (nI ex), .int (nI tr), .int (nI rj)])), (cs, .inl (ca 3, 3, .inr (.inr (.inr (.inr fc)))))] := hD
  refine lv_astore hx hb dCl_send_13 hl (by decide) rfl (fun ls hl => ?_)
  have hl : lv_has ls 9 [(6, .ref q), (5, .ref h), (0, .ref x), (1, .int (nI s₀)), (2, .int (nI cn)), (3, .int (nI vl)), (4, .int (nI mo))] := hl
  refine lv_iload_n hx hb dCl_send_15 rfl (lv_at hl 5 rfl) ?_
  refine kV (rS fx (c_Cl_requireValue l D ca vl (by omega)) ⟨callB_of 1 hts (tb_gi tw_513) rfl rfl rfl (ht _ tw_1) (ht _ tw_511) (by decide +kernel) ⟨(Nat.le_of_ble_eq_true rfl), (Nat.le_of_ble_eq_true rfl)⟩, ht _ tw_512⟩ hE hP hD [] rfl rfl rfl hl.1 rfl (Nat.le_of_ble_eq_true rfl) dCl_send_16 ⟨(Nat.le_of_ble_eq_true rfl), (Nat.le_of_ble_eq_true rfl)⟩) hP hD hS hA [] [0, 1, 2, 3, 4, 5, 6, 7, 8] rfl rfl rfl (by decide) (fun _ H locs _ hP hD hS => ?_)
  have hP : va_P D cls_ [(ou, .inr (0, [.ref oua, .int (nI O.2)])), (oua, .inl (ca 0, 16, .inl (fun j => nI (O.1 j)))), (q, .inr (1, [.int (nI y), .ref d, .int (nI st), .int (nI nx), .int (nI pa), .int (nI du), .int (nI ta)])), (d, .inr (0, [.ref da, .int (nI r.2)])), (da, .inl (ca 0, 2, .inl (fun j => nI (r.1 j)))), (x, .inr (3, [.ref ss])), (ss, .inl (ca 2, 2, .inr (.inr (.inr (.inr fs))))), (h, .inr (2, [.ref ln, .ref pe, .ref ou, .ref cs, .int (nI lk), .int (nI sn), .int (nI ac), .int (nI ex), .int (nI tr), .int (nI rj)])), (cs, .inl (ca 3, 3, .inr (.inr (.inr (.inr fc)))))] H := hP
  have hD : va_D A [(ou, .inr (0, [.ref oua, .int (nI O.2)])), (oua, .inl (ca 0, 16, .inl (fun j => nI (O.1 j)))), (q, .inr (1, [.int (nI y), .ref d, .int (nI st), .int (nI nx), .int (nI pa), .int (nI du), .int (nI ta)])), (d, .inr (0, [.ref da, .int (nI r.2)])), (da, .inl (ca 0, 2, .inl (fun j => nI (r.1 j)))), (x, .inr (3, [.ref ss])), (ss, .inl (ca 2, 2, .inr (.inr (.inr (.inr fs))))), (h, .inr (2, [.ref ln, .ref pe, .ref ou, .ref cs, .int (nI lk), .int (nI sn), .int (nI ac), .int (nI ex), .int (nI tr), .int (nI rj)])), (cs, .inl (ca 3, 3, .inr (.inr (.inr (.inr fc)))))] := hD
  refine lv_aload hx hb dCl_send_19 (lv_at hl 1 rfl) ?_
  refine kI (rV fx (c_St_takesCalls l D ca h ln pe ou cs lk sn ac ex tr rj oua O (by omega) (by omega)) ⟨callB_of 0 hts (tb_gi tw_478) rfl rfl rfl (ht _ tw_3) (ht _ tw_475) (by decide +kernel) ⟨(Nat.le_of_ble_eq_true rfl), (Nat.le_of_ble_eq_true rfl)⟩, ht _ tw_476, ht _ tw_477⟩ hE hP hD 7 rfl rfl rfl [7, 0, 1] rfl rfl rfl hl.1 rfl (Nat.le_of_ble_eq_true rfl) dCl_send_21 ⟨(Nat.le_of_ble_eq_true rfl), (Nat.le_of_ble_eq_true rfl)⟩) hP hD hS hA [7, 0, 1] [2, 3, 4, 5, 6, 8] rfl rfl rfl (by decide) (fun _ H locs _ hP hD hS => ?_)
  have hP : va_P D cls_ [(q, .inr (1, [.int (nI y), .ref d, .int (nI st), .int (nI nx), .int (nI pa), .int (nI du), .int (nI ta)])), (d, .inr (0, [.ref da, .int (nI r.2)])), (da, .inl (ca 0, 2, .inl (fun j => nI (r.1 j)))), (x, .inr (3, [.ref ss])), (ss, .inl (ca 2, 2, .inr (.inr (.inr (.inr fs))))), (cs, .inl (ca 3, 3, .inr (.inr (.inr (.inr fc))))), (h, .inr (2, [.ref ln, .ref pe, .ref ou, .ref cs, .int (nI lk), .int (nI sn), .int (nI ac), .int (nI ex), .int (nI tr), .int (nI rj)])), (ou, .inr (0, [.ref oua, .int (nI O.2)])), (oua, .inl (ca 0, 16, .inl (fun j => nI (O.1 j))))] H := hP
  have hD : va_D A [(q, .inr (1, [.int (nI y), .ref d, .int (nI st), .int (nI nx), .int (nI pa), .int (nI du), .int (nI ta)])), (d, .inr (0, [.ref da, .int (nI r.2)])), (da, .inl (ca 0, 2, .inl (fun j => nI (r.1 j)))), (x, .inr (3, [.ref ss])), (ss, .inl (ca 2, 2, .inr (.inr (.inr (.inr fs))))), (cs, .inl (ca 3, 3, .inr (.inr (.inr (.inr fc))))), (h, .inr (2, [.ref ln, .ref pe, .ref ou, .ref cs, .int (nI lk), .int (nI sn), .int (nI ac), .int (nI ex), .int (nI tr), .int (nI rj)])), (ou, .inr (0, [.ref oua, .int (nI O.2)])), (oua, .inl (ca 0, 16, .inl (fun j => nI (O.1 j))))] := hD
  refine k_is (y := nI 1) (by rw [e3]) ?_
  refine k_if_eq (tgt := 40) hx hb (by omega) dCl_send_24 rfl (fun hz => absurd hz (by omega)) (fun h24 => ?_)
  refine lv_aload hx hb dCl_send_27 (lv_at hl 0 rfl) ?_
  refine va_getN (D := D) (ci := 1) (v := .int (nI st)) (host := "ChannelledLink") (C := RCh) (T := TCh) (N := 7) hx hb ht inCh hown hE.1 hP 0 rfl rfl 2 (by decide) (hE.nestU tw_64 rfl) (fun _ h => h) rfl dCl_send_29 ?_
  refine lv_iconst (v := nI 3) hx hb dCl_send_32 (by decide) ?_
  refine k_icmp_ne (tgt := 40) hx hb (by omega) (by omega) dCl_send_33 rfl (fun h33 => ?_) (fun hz => absurd hz (by omega))
  refine lv_iconst (v := nI 0) hx hb dCl_send_40 (by decide) ?_
  refine kX (xS fx (x_Cl_requireState l hlT D ca) ⟨callB_of 1 hts (tb_gi tw_253) rfl rfl rfl (ht _ tw_1) (ht _ tw_251) (by decide +kernel) ⟨(Nat.le_of_ble_eq_true rfl), (Nat.le_of_ble_eq_true rfl)⟩, ht _ tw_252⟩ hE hZ hP hD hS hA [] rfl rfl rfl hl.1 rfl (Nat.le_of_ble_eq_true rfl) dCl_send_41 ⟨(Nat.le_of_ble_eq_true rfl), (Nat.le_of_ble_eq_true rfl)⟩) hP hD hS hA [] [0, 1, 2, 3, 4, 5, 6, 7, 8] rfl rfl rfl (by decide) (fun ce q9 H locs hP hD hS hce hcv hcl => ?_)
  have hP : va_P D cls_ [(q, .inr (1, [.int (nI y), .ref d, .int (nI st), .int (nI nx), .int (nI pa), .int (nI du), .int (nI ta)])), (d, .inr (0, [.ref da, .int (nI r.2)])), (da, .inl (ca 0, 2, .inl (fun j => nI (r.1 j)))), (x, .inr (3, [.ref ss])), (ss, .inl (ca 2, 2, .inr (.inr (.inr (.inr fs))))), (cs, .inl (ca 3, 3, .inr (.inr (.inr (.inr fc))))), (h, .inr (2, [.ref ln, .ref pe, .ref ou, .ref cs, .int (nI lk), .int (nI sn), .int (nI ac), .int (nI ex), .int (nI tr), .int (nI rj)])), (ou, .inr (0, [.ref oua, .int (nI O.2)])), (oua, .inl (ca 0, 16, .inl (fun j => nI (O.1 j))))] H := hP
  have hD : va_D A [(q, .inr (1, [.int (nI y), .ref d, .int (nI st), .int (nI nx), .int (nI pa), .int (nI du), .int (nI ta)])), (d, .inr (0, [.ref da, .int (nI r.2)])), (da, .inl (ca 0, 2, .inl (fun j => nI (r.1 j)))), (x, .inr (3, [.ref ss])), (ss, .inl (ca 2, 2, .inr (.inr (.inr (.inr fs))))), (cs, .inl (ca 3, 3, .inr (.inr (.inr (.inr fc))))), (h, .inr (2, [.ref ln, .ref pe, .ref ou, .ref cs, .int (nI lk), .int (nI sn), .int (nI ac), .int (nI ex), .int (nI tr), .int (nI rj)])), (ou, .inr (0, [.ref oua, .int (nI O.2)])), (oua, .inl (ca 0, 16, .inl (fun j => nI (O.1 j))))] := hD
  have hP : va_P D cls_ [(x, .inr (3, [.ref ss])), (ss, .inl (ca 2, 2, .inr (.inr (.inr (.inr fs))))), (h, .inr (2, [.ref ln, .ref pe, .ref ou, .ref cs, .int (nI lk), .int (nI sn), .int (nI ac), .int (nI ex), .int (nI tr), .int (nI rj)])), (ou, .inr (0, [.ref oua, .int (nI O.2)])), (oua, .inl (ca 0, 16, .inl (fun j => nI (O.1 j)))), (cs, .inl (ca 3, 3, .inr (.inr (.inr (.inr fc))))), (q, .inr (1, [.int (nI y), .ref d, .int (nI st), .int (nI nx), .int (nI pa), .int (nI du), .int (nI ta)])), (d, .inr (0, [.ref da, .int (nI r.2)])), (da, .inl (ca 0, 2, .inl (fun j => nI (r.1 j))))] H := hP.sub [3, 4, 6, 7, 8, 5, 0, 1, 2] rfl
  have hD : va_D A [(x, .inr (3, [.ref ss])), (ss, .inl (ca 2, 2, .inr (.inr (.inr (.inr fs))))), (h, .inr (2, [.ref ln, .ref pe, .ref ou, .ref cs, .int (nI lk), .int (nI sn), .int (nI ac), .int (nI ex), .int (nI tr), .int (nI rj)])), (ou, .inr (0, [.ref oua, .int (nI O.2)])), (oua, .inl (ca 0, 16, .inl (fun j => nI (O.1 j)))), (cs, .inl (ca 3, 3, .inr (.inr (.inr (.inr fc))))), (q, .inr (1, [.int (nI y), .ref d, .int (nI st), .int (nI nx), .int (nI pa), .int (nI du), .int (nI ta)])), (d, .inr (0, [.ref da, .int (nI r.2)])), (da, .inl (ca 0, 2, .inl (fun j => nI (r.1 j))))] := hD.sub [3, 4, 6, 7, 8, 5, 0, 1, 2] rfl rfl
  exact xout hnt hlk hce hcv hcl hP hD hS (Nat.le_of_ble_eq_true rfl) (Nat.le_of_ble_eq_true rfl)
set_option maxHeartbeats 4000000 in
set_option maxRecDepth 100000 in
theorem x_Cl_send_v (l : Launch) (hlT : l.stackTraces = false) (D : va_G) (ca : Nat → ClassId) (x ss : Nat) (fs : Nat → Option Nat) (s₀ : Nat) (hs0 : s₀ < 2) (h ln pe ou cs lk sn ac ex tr rj : Nat) (fc : Nat → Option Nat) (cn q : Nat) (hcn : cn < 3) (hq : fc cn = some q) (hfs : fs s₀ = some h) (v₁ b₁ : Int32) (hv1 : v₁ < 0 ∨ nI 255 < v₁) : CoX l yCl_send (Cond.code yCl_send cCl_send 9 (some FieldType.boolean) :: tb_) { frames := 8, cells := 1, slots := 6, locals := 256 } D ca [.ref x, .int (nI s₀), .int (nI cn), .int v₁, .int b₁] [(x, .inr (3, [.ref ss])), (ss, .inl (ca 2, 2, .inr (.inr (.inr (.inr fs))))), (h, .inr (2, [.ref ln, .ref pe, .ref ou, .ref cs, .int (nI lk), .int (nI sn), .int (nI ac), .int (nI ex), .int (nI tr), .int (nI rj)])), (cs, .inl (ca 3, 3, .inr (.inr (.inr (.inr fc)))))] "java/lang/IllegalArgumentException" 1 6 := by
  refine CoX.of cCl_send 9 (some FieldType.boolean) (by decide) (Nat.le_of_ble_eq_true rfl) ?_
  intro p e s m args below meth c A ls fx hret hlk hnt hE hZ hP hD hS hA hl
  have hx := fx.1
  have hb := fx.2.1
  have hown : s.vm.findClass RCl = some m.cls := fx.2.2.2.1
  have hts := fx.2.2.2.2
  have ht : ∀ w ∈ tb_, w.before args s = true := fun w h => hts w (List.mem_cons_of_mem _ h)
  have hl : lv_has ls 9 [(0, .ref x), (1, .int (nI s₀)), (2, .int (nI cn)), (3, .int v₁), (4, .int b₁)] := hl
  refine lv_aload_n hx hb dCl_send_0 rfl (lv_at hl 0 rfl) ?_
  refine lv_iload_n hx hb dCl_send_1 rfl (lv_at hl 1 rfl) ?_
  refine kA (rV fx (c_Cl_stationAt l D ca x ss fs s₀ hs0 h hfs) ⟨callB_of 1 hts (tb_gi tw_143) rfl rfl rfl (ht _ tw_1) (ht _ tw_140) (by decide +kernel) ⟨(Nat.le_of_ble_eq_true rfl), (Nat.le_of_ble_eq_true rfl)⟩, ht _ tw_142, ht _ tw_826⟩ hE hP hD 0 rfl rfl rfl [0, 1] rfl rfl rfl hl.1 rfl (Nat.le_of_ble_eq_true rfl) dCl_send_2 ⟨(Nat.le_of_ble_eq_true rfl), (Nat.le_of_ble_eq_true rfl)⟩) hP hD hS hA [0, 1] [2, 3] rfl rfl rfl (by decide) (fun _ H locs _ hP hD hS => ?_)
  have hP : va_P D cls_ [(h, .inr (2, [.ref ln, .ref pe, .ref ou, .ref cs, .int (nI lk), .int (nI sn), .int (nI ac), .int (nI ex), .int (nI tr), .int (nI rj)])), (cs, .inl (ca 3, 3, .inr (.inr (.inr (.inr fc))))), (x, .inr (3, [.ref ss])), (ss, .inl (ca 2, 2, .inr (.inr (.inr (.inr fs)))))] H := hP
  have hD : va_D A [(h, .inr (2, [.ref ln, .ref pe, .ref ou, .ref cs, .int (nI lk), .int (nI sn), .int (nI ac), .int (nI ex), .int (nI tr), .int (nI rj)])), (cs, .inl (ca 3, 3, .inr (.inr (.inr (.inr fc))))), (x, .inr (3, [.ref ss])), (ss, .inl (ca 2, 2, .inr (.inr (.inr (.inr fs)))))] := hD
  refine lv_astore hx hb dCl_send_5 hl (by decide) rfl (fun ls hl => ?_)
  have hl : lv_has ls 9 [(5, .ref h), (0, .ref x), (1, .int (nI s₀)), (2, .int (nI cn)), (3, .int v₁), (4, .int b₁)] := hl
  refine lv_aload hx hb dCl_send_7 (lv_at hl 0 rfl) ?_
  refine lv_iload_n hx hb dCl_send_9 rfl (lv_at hl 3 rfl) ?_
  refine kA (rS fx (c_Cl_channelAt l D ca h ln pe ou cs lk sn ac ex tr rj fc cn q (by omega) hq) ⟨callB_of 2 hts (tb_gi tw_474) rfl rfl rfl (ht _ tw_1) (ht _ tw_472) (by decide +kernel) ⟨(Nat.le_of_ble_eq_true rfl), (Nat.le_of_ble_eq_true rfl)⟩, ht _ tw_473⟩ hE hP hD [0, 1] rfl rfl rfl hl.1 rfl (Nat.le_of_ble_eq_true rfl) dCl_send_10 ⟨(Nat.le_of_ble_eq_true rfl), (Nat.le_of_ble_eq_true rfl)⟩) hP hD hS hA [0, 1] [2, 3] rfl rfl rfl (by decide) (fun _ H locs _ hP hD hS => ?_)
  have hP : va_P D cls_ [(x, .inr (3, [.ref ss])), (ss, .inl (ca 2, 2, .inr (.inr (.inr (.inr fs))))), (h, .inr (2, [.ref ln, .ref pe, .ref ou, .ref cs, .int (nI lk), .int (nI sn), .int (nI ac), .int (nI ex), .int (nI tr), .int (nI rj)])), (cs, .inl (ca 3, 3, .inr (.inr (.inr (.inr fc)))))] H := hP
  have hD : va_D A [(x, .inr (3, [.ref ss])), (ss, .inl (ca 2, 2, .inr (.inr (.inr (.inr fs))))), (h, .inr (2, [.ref ln, .ref pe, .ref ou, .ref cs, .int (nI lk), .int (nI sn), .int (nI ac), .int (nI ex), .int (nI tr), .int (nI rj)])), (cs, .inl (ca 3, 3, .inr (.inr (.inr (.inr fc)))))] := hD
  refine lv_astore hx hb dCl_send_13 hl (by decide) rfl (fun ls hl => ?_)
  have hl : lv_has ls 9 [(6, .ref q), (5, .ref h), (0, .ref x), (1, .int (nI s₀)), (2, .int (nI cn)), (3, .int v₁), (4, .int b₁)] := hl
  refine lv_iload_n hx hb dCl_send_15 rfl (lv_at hl 5 rfl) ?_
  refine kX (xS fx (x_Cl_requireValue l hlT D ca v₁ hv1) ⟨callB_of 1 hts (tb_gi tw_513) rfl rfl rfl (ht _ tw_1) (ht _ tw_511) (by decide +kernel) ⟨(Nat.le_of_ble_eq_true rfl), (Nat.le_of_ble_eq_true rfl)⟩, ht _ tw_512⟩ hE hZ hP hD hS hA [] rfl rfl rfl hl.1 rfl (Nat.le_of_ble_eq_true rfl) dCl_send_16 ⟨(Nat.le_of_ble_eq_true rfl), (Nat.le_of_ble_eq_true rfl)⟩) hP hD hS hA [] [0, 1, 2, 3] rfl rfl rfl (by decide) (fun ce q9 H locs hP hD hS hce hcv hcl => ?_)
  have hP : va_P D cls_ [(x, .inr (3, [.ref ss])), (ss, .inl (ca 2, 2, .inr (.inr (.inr (.inr fs))))), (h, .inr (2, [.ref ln, .ref pe, .ref ou, .ref cs, .int (nI lk), .int (nI sn), .int (nI ac), .int (nI ex), .int (nI tr), .int (nI rj)])), (cs, .inl (ca 3, 3, .inr (.inr (.inr (.inr fc)))))] H := hP
  have hD : va_D A [(x, .inr (3, [.ref ss])), (ss, .inl (ca 2, 2, .inr (.inr (.inr (.inr fs))))), (h, .inr (2, [.ref ln, .ref pe, .ref ou, .ref cs, .int (nI lk), .int (nI sn), .int (nI ac), .int (nI ex), .int (nI tr), .int (nI rj)])), (cs, .inl (ca 3, 3, .inr (.inr (.inr (.inr fc)))))] := hD
  exact xout hnt hlk hce hcv hcl hP hD hS (Nat.le_of_ble_eq_true rfl) (Nat.le_of_ble_eq_true rfl)
set_option maxHeartbeats 4000000 in
set_option maxRecDepth 100000 in
theorem x_Cl_receive_e (l : Launch) (hlT : l.stackTraces = false) (D : va_G) (ca : Nat → ClassId) (x ss : Nat) (fs : Nat → Option Nat) (s₀ : Nat) (hs0 : s₀ < 2) (h ln pe ou cs lk sn ac ex tr rj : Nat) (oua : Nat) (O : Rw_) (fc : Nat → Option Nat) (q d da y st nx pa du ta : Nat) (r : Rw_) (cn : Nat) (hcn : cn < 3) (hq : fc cn = some q) (hfs : fs s₀ = some h) (hlk2 : lk < 3) (hO1 : O.2 ≤ 16) (hst : st < 6) (hup : lk = 2 ∧ O.2 ≤ 9) (hst2 : st = 3) (h0 : r.2 = 0) : CoX l yCl_receive (Cond.code yCl_receive cCl_receive 6 (some FieldType.int) :: tb_) { frames := 8, cells := 1, slots := 6, locals := 256 } D ca [.ref x, .int (nI s₀), .int (nI cn)] [(x, .inr (3, [.ref ss])), (ss, .inl (ca 2, 2, .inr (.inr (.inr (.inr fs))))), (h, .inr (2, [.ref ln, .ref pe, .ref ou, .ref cs, .int (nI lk), .int (nI sn), .int (nI ac), .int (nI ex), .int (nI tr), .int (nI rj)])), (ou, .inr (0, [.ref oua, .int (nI O.2)])), (oua, .inl (ca 0, 16, .inl (fun j => nI (O.1 j)))), (cs, .inl (ca 3, 3, .inr (.inr (.inr (.inr fc))))), (q, .inr (1, [.int (nI y), .ref d, .int (nI st), .int (nI nx), .int (nI pa), .int (nI du), .int (nI ta)])), (d, .inr (0, [.ref da, .int (nI r.2)])), (da, .inl (ca 0, 2, .inl (fun j => nI (r.1 j))))] "java/util/NoSuchElementException" 1 6 := by
  refine CoX.of cCl_receive 6 (some FieldType.int) (by decide) (Nat.le_of_ble_eq_true rfl) ?_
  intro p e s m args below meth c A ls fx hret hlk hnt hE hZ hP hD hS hA hl
  have hx := fx.1
  have hb := fx.2.1
  have hown : s.vm.findClass RCl = some m.cls := fx.2.2.2.1
  have hts := fx.2.2.2.2
  have ht : ∀ w ∈ tb_, w.before args s = true := fun w h => hts w (List.mem_cons_of_mem _ h)
  have e3 : (if lk = 2 ∧ O.2 ≤ 9 then 1 else 0) = 1 := if_pos hup
  have hl : lv_has ls 6 [(0, .ref x), (1, .int (nI s₀)), (2, .int (nI cn))] := hl
  refine lv_aload_n hx hb dCl_receive_0 rfl (lv_at hl 0 rfl) ?_
  refine lv_iload_n hx hb dCl_receive_1 rfl (lv_at hl 1 rfl) ?_
  refine kA (rV fx (c_Cl_stationAt l D ca x ss fs s₀ hs0 h hfs) ⟨callB_of 1 hts (tb_gi tw_143) rfl rfl rfl (ht _ tw_1) (ht _ tw_140) (by decide +kernel) ⟨(Nat.le_of_ble_eq_true rfl), (Nat.le_of_ble_eq_true rfl)⟩, ht _ tw_142, ht _ tw_826⟩ hE hP hD 0 rfl rfl rfl [0, 1] rfl rfl rfl hl.1 rfl (Nat.le_of_ble_eq_true rfl) dCl_receive_2 ⟨(Nat.le_of_ble_eq_true rfl), (Nat.le_of_ble_eq_true rfl)⟩) hP hD hS hA [0, 1] [2, 3, 4, 5, 6, 7, 8] rfl rfl rfl (by decide) (fun _ H locs _ hP hD hS => ?_)
  have hP : va_P D cls_ [(h, .inr (2, [.ref ln, .ref pe, .ref ou, .ref cs, .int (nI lk), .int (nI sn), .int (nI ac), .int (nI ex), .int (nI tr), .int (nI rj)])), (ou, .inr (0, [.ref oua, .int (nI O.2)])), (oua, .inl (ca 0, 16, .inl (fun j => nI (O.1 j)))), (cs, .inl (ca 3, 3, .inr (.inr (.inr (.inr fc))))), (q, .inr (1, [.int (nI y), .ref d, .int (nI st), .int (nI nx), .int (nI pa), .int (nI du), .int (nI ta)])), (d, .inr (0, [.ref da, .int (nI r.2)])), (da, .inl (ca 0, 2, .inl (fun j => nI (r.1 j)))), (x, .inr (3, [.ref ss])), (ss, .inl (ca 2, 2, .inr (.inr (.inr (.inr fs)))))] H := hP
  have hD : va_D A [(h, .inr (2, [.ref ln, .ref pe, .ref ou, .ref cs, .int (nI lk), .int (nI sn), .int (nI ac), .int (nI ex), .int (nI tr), .int (nI rj)])), (ou, .inr (0, [.ref oua, .int (nI O.2)])), (oua, .inl (ca 0, 16, .inl (fun j => nI (O.1 j)))), (cs, .inl (ca 3, 3, .inr (.inr (.inr (.inr fc))))), (q, .inr (1, [.int (nI y), .ref d, .int (nI st), .int (nI nx), .int (nI pa), .int (nI du), .int (nI ta)])), (d, .inr (0, [.ref da, .int (nI r.2)])), (da, .inl (ca 0, 2, .inl (fun j => nI (r.1 j)))), (x, .inr (3, [.ref ss])), (ss, .inl (ca 2, 2, .inr (.inr (.inr (.inr fs)))))] := hD
  refine lv_astore_n hx hb dCl_receive_5 rfl hl (by decide) rfl (fun ls hl => ?_)
  have hl : lv_has ls 6 [(3, .ref h), (0, .ref x), (1, .int (nI s₀)), (2, .int (nI cn))] := hl
  refine lv_aload_n hx hb dCl_receive_6 rfl (lv_at hl 0 rfl) ?_
  refine lv_iload_n hx hb dCl_receive_7 rfl (lv_at hl 3 rfl) ?_
  refine kA (rS fx (c_Cl_channelAt l D ca h ln pe ou cs lk sn ac ex tr rj fc cn q (by omega) hq) ⟨callB_of 2 hts (tb_gi tw_474) rfl rfl rfl (ht _ tw_1) (ht _ tw_472) (by decide +kernel) ⟨(Nat.le_of_ble_eq_true rfl), (Nat.le_of_ble_eq_true rfl)⟩, ht _ tw_473⟩ hE hP hD [0, 3] rfl rfl rfl hl.1 rfl (Nat.le_of_ble_eq_true rfl) dCl_receive_8 ⟨(Nat.le_of_ble_eq_true rfl), (Nat.le_of_ble_eq_true rfl)⟩) hP hD hS hA [0, 3] [1, 2, 4, 5, 6, 7, 8] rfl rfl rfl (by decide) (fun _ H locs _ hP hD hS => ?_)
  have hP : va_P D cls_ [(ou, .inr (0, [.ref oua, .int (nI O.2)])), (oua, .inl (ca 0, 16, .inl (fun j => nI (O.1 j)))), (q, .inr (1, [.int (nI y), .ref d, .int (nI st), .int (nI nx), .int (nI pa), .int (nI du), .int (nI ta)])), (d, .inr (0, [.ref da, .int (nI r.2)])), (da, .inl (ca 0, 2, .inl (fun j => nI (r.1 j)))), (x, .inr (3, [.ref ss])), (ss, .inl (ca 2, 2, .inr (.inr (.inr (.inr fs))))), (h, .inr (2, [.ref ln, .ref pe, .ref ou, .ref cs, .int (nI lk), .int (nI sn), .int (nI ac), .int (nI ex), .int (nI tr), .int (nI rj)])), (cs, .inl (ca 3, 3, .inr (.inr (.inr (.inr fc)))))] H := hP
  have hD : va_D A [(ou, .inr (0, [.ref oua, .int (nI O.2)])), (oua, .inl (ca 0, 16, .inl (fun j => nI (O.1 j)))), (q, .inr (1, [.int (nI y), .ref d, .int (nI st), .int (nI nx), .int (nI pa), .int (nI du), .int (nI ta)])), (d, .inr (0, [.ref da, .int (nI r.2)])), (da, .inl (ca 0, 2, .inl (fun j => nI (r.1 j)))), (x, .inr (3, [.ref ss])), (ss, .inl (ca 2, 2, .inr (.inr (.inr (.inr fs))))), (h, .inr (2, [.ref ln, .ref pe, .ref ou, .ref cs, .int (nI lk), .int (nI sn), .int (nI ac), .int (nI ex), .int (nI tr), .int (nI rj)])), (cs, .inl (ca 3, 3, .inr (.inr (.inr (.inr fc)))))] := hD
  refine lv_astore hx hb dCl_receive_11 hl (by decide) rfl (fun ls hl => ?_)
  have hl : lv_has ls 6 [(4, .ref q), (3, .ref h), (0, .ref x), (1, .int (nI s₀)), (2, .int (nI cn))] := hl
  refine lv_aload_n hx hb dCl_receive_13 rfl (lv_at hl 1 rfl) ?_
  refine kI (rV fx (c_St_takesCalls l D ca h ln pe ou cs lk sn ac ex tr rj oua O (by omega) (by omega)) ⟨callB_of 0 hts (tb_gi tw_478) rfl rfl rfl (ht _ tw_3) (ht _ tw_475) (by decide +kernel) ⟨(Nat.le_of_ble_eq_true rfl), (Nat.le_of_ble_eq_true rfl)⟩, ht _ tw_476, ht _ tw_477⟩ hE hP hD 7 rfl rfl rfl [7, 0, 1] rfl rfl rfl hl.1 rfl (Nat.le_of_ble_eq_true rfl) dCl_receive_14 ⟨(Nat.le_of_ble_eq_true rfl), (Nat.le_of_ble_eq_true rfl)⟩) hP hD hS hA [7, 0, 1] [2, 3, 4, 5, 6, 8] rfl rfl rfl (by decide) (fun _ H locs _ hP hD hS => ?_)
  have hP : va_P D cls_ [(q, .inr (1, [.int (nI y), .ref d, .int (nI st), .int (nI nx), .int (nI pa), .int (nI du), .int (nI ta)])), (d, .inr (0, [.ref da, .int (nI r.2)])), (da, .inl (ca 0, 2, .inl (fun j => nI (r.1 j)))), (x, .inr (3, [.ref ss])), (ss, .inl (ca 2, 2, .inr (.inr (.inr (.inr fs))))), (cs, .inl (ca 3, 3, .inr (.inr (.inr (.inr fc))))), (h, .inr (2, [.ref ln, .ref pe, .ref ou, .ref cs, .int (nI lk), .int (nI sn), .int (nI ac), .int (nI ex), .int (nI tr), .int (nI rj)])), (ou, .inr (0, [.ref oua, .int (nI O.2)])), (oua, .inl (ca 0, 16, .inl (fun j => nI (O.1 j))))] H := hP
  have hD : va_D A [(q, .inr (1, [.int (nI y), .ref d, .int (nI st), .int (nI nx), .int (nI pa), .int (nI du), .int (nI ta)])), (d, .inr (0, [.ref da, .int (nI r.2)])), (da, .inl (ca 0, 2, .inl (fun j => nI (r.1 j)))), (x, .inr (3, [.ref ss])), (ss, .inl (ca 2, 2, .inr (.inr (.inr (.inr fs))))), (cs, .inl (ca 3, 3, .inr (.inr (.inr (.inr fc))))), (h, .inr (2, [.ref ln, .ref pe, .ref ou, .ref cs, .int (nI lk), .int (nI sn), .int (nI ac), .int (nI ex), .int (nI tr), .int (nI rj)])), (ou, .inr (0, [.ref oua, .int (nI O.2)])), (oua, .inl (ca 0, 16, .inl (fun j => nI (O.1 j))))] := hD
  refine k_is (y := nI 1) (by rw [e3]) ?_
  refine k_if_eq (tgt := 33) hx hb (by omega) dCl_receive_17 rfl (fun hz => absurd hz (by omega)) (fun h17 => ?_)
  refine lv_aload hx hb dCl_receive_20 (lv_at hl 0 rfl) ?_
  refine va_getN (D := D) (ci := 1) (v := .int (nI st)) (host := "ChannelledLink") (C := RCh) (T := TCh) (N := 7) hx hb ht inCh hown hE.1 hP 0 rfl rfl 2 (by decide) (hE.nestU tw_64 rfl) (fun _ h => h) rfl dCl_receive_22 ?_
  refine lv_iconst (v := nI 3) hx hb dCl_receive_25 (by decide) ?_
  refine k_icmp_ne (tgt := 33) hx hb (by omega) (by omega) dCl_receive_26 rfl (fun hz => absurd hz (by omega)) (fun h26 => ?_)
  refine lv_iconst (v := nI 1) hx hb dCl_receive_29 (by decide) ?_
  refine lv_goto (tgt := 34) hx hb dCl_receive_30 rfl ?_
  refine kV (rS fx (c_Cl_requireState l D ca 1 (by omega) (by omega)) ⟨callB_of 1 hts (tb_gi tw_253) rfl rfl rfl (ht _ tw_1) (ht _ tw_251) (by decide +kernel) ⟨(Nat.le_of_ble_eq_true rfl), (Nat.le_of_ble_eq_true rfl)⟩, ht _ tw_252⟩ hE hP hD [] rfl rfl rfl hl.1 rfl (Nat.le_of_ble_eq_true rfl) dCl_receive_34 ⟨(Nat.le_of_ble_eq_true rfl), (Nat.le_of_ble_eq_true rfl)⟩) hP hD hS hA [] [0, 1, 2, 3, 4, 5, 6, 7, 8] rfl rfl rfl (by decide) (fun _ H locs _ hP hD hS => ?_)
  have hP : va_P D cls_ [(q, .inr (1, [.int (nI y), .ref d, .int (nI st), .int (nI nx), .int (nI pa), .int (nI du), .int (nI ta)])), (d, .inr (0, [.ref da, .int (nI r.2)])), (da, .inl (ca 0, 2, .inl (fun j => nI (r.1 j)))), (x, .inr (3, [.ref ss])), (ss, .inl (ca 2, 2, .inr (.inr (.inr (.inr fs))))), (cs, .inl (ca 3, 3, .inr (.inr (.inr (.inr fc))))), (h, .inr (2, [.ref ln, .ref pe, .ref ou, .ref cs, .int (nI lk), .int (nI sn), .int (nI ac), .int (nI ex), .int (nI tr), .int (nI rj)])), (ou, .inr (0, [.ref oua, .int (nI O.2)])), (oua, .inl (ca 0, 16, .inl (fun j => nI (O.1 j))))] H := hP
  have hD : va_D A [(q, .inr (1, [.int (nI y), .ref d, .int (nI st), .int (nI nx), .int (nI pa), .int (nI du), .int (nI ta)])), (d, .inr (0, [.ref da, .int (nI r.2)])), (da, .inl (ca 0, 2, .inl (fun j => nI (r.1 j)))), (x, .inr (3, [.ref ss])), (ss, .inl (ca 2, 2, .inr (.inr (.inr (.inr fs))))), (cs, .inl (ca 3, 3, .inr (.inr (.inr (.inr fc))))), (h, .inr (2, [.ref ln, .ref pe, .ref ou, .ref cs, .int (nI lk), .int (nI sn), .int (nI ac), .int (nI ex), .int (nI tr), .int (nI rj)])), (ou, .inr (0, [.ref oua, .int (nI O.2)])), (oua, .inl (ca 0, 16, .inl (fun j => nI (O.1 j))))] := hD
  refine lv_aload hx hb dCl_receive_37 (lv_at hl 0 rfl) ?_
  refine va_getN (D := D) (ci := 1) (v := .ref d) (host := "ChannelledLink") (C := RCh) (T := TCh) (N := 7) hx hb ht inCh hown hE.1 hP 0 rfl rfl 1 (by decide) (hE.nestU tw_62 rfl) (fun _ h => h) rfl dCl_receive_39 ?_
  refine kX (xS fx (x_Cl_requireElement l hlT D ca d da 2 r (by omega)) ⟨callB_of 1 hts (tb_gi tw_303) rfl rfl rfl (ht _ tw_1) (ht _ tw_301) (by decide +kernel) ⟨(Nat.le_of_ble_eq_true rfl), (Nat.le_of_ble_eq_true rfl)⟩, ht _ tw_302⟩ hE hZ hP hD hS hA [1, 2] rfl rfl rfl hl.1 rfl (Nat.le_of_ble_eq_true rfl) dCl_receive_42 ⟨(Nat.le_of_ble_eq_true rfl), (Nat.le_of_ble_eq_true rfl)⟩) hP hD hS hA [1, 2] [0, 3, 4, 5, 6, 7, 8] rfl rfl rfl (by decide) (fun ce q9 H locs hP hD hS hce hcv hcl => ?_)
  have hP : va_P D cls_ [(q, .inr (1, [.int (nI y), .ref d, .int (nI st), .int (nI nx), .int (nI pa), .int (nI du), .int (nI ta)])), (x, .inr (3, [.ref ss])), (ss, .inl (ca 2, 2, .inr (.inr (.inr (.inr fs))))), (cs, .inl (ca 3, 3, .inr (.inr (.inr (.inr fc))))), (h, .inr (2, [.ref ln, .ref pe, .ref ou, .ref cs, .int (nI lk), .int (nI sn), .int (nI ac), .int (nI ex), .int (nI tr), .int (nI rj)])), (ou, .inr (0, [.ref oua, .int (nI O.2)])), (oua, .inl (ca 0, 16, .inl (fun j => nI (O.1 j)))), (d, .inr (0, [.ref da, .int (nI r.2)])), (da, .inl (ca 0, 2, .inl (fun j => nI (r.1 j))))] H := hP
  have hD : va_D A [(q, .inr (1, [.int (nI y), .ref d, .int (nI st), .int (nI nx), .int (nI pa), .int (nI du), .int (nI ta)])), (x, .inr (3, [.ref ss])), (ss, .inl (ca 2, 2, .inr (.inr (.inr (.inr fs))))), (cs, .inl (ca 3, 3, .inr (.inr (.inr (.inr fc))))), (h, .inr (2, [.ref ln, .ref pe, .ref ou, .ref cs, .int (nI lk), .int (nI sn), .int (nI ac), .int (nI ex), .int (nI tr), .int (nI rj)])), (ou, .inr (0, [.ref oua, .int (nI O.2)])), (oua, .inl (ca 0, 16, .inl (fun j => nI (O.1 j)))), (d, .inr (0, [.ref da, .int (nI r.2)])), (da, .inl (ca 0, 2, .inl (fun j => nI (r.1 j))))] := hD
  have hP : va_P D cls_ [(x, .inr (3, [.ref ss])), (ss, .inl (ca 2, 2, .inr (.inr (.inr (.inr fs))))), (h, .inr (2, [.ref ln, .ref pe, .ref ou, .ref cs, .int (nI lk), .int (nI sn), .int (nI ac), .int (nI ex), .int (nI tr), .int (nI rj)])), (ou, .inr (0, [.ref oua, .int (nI O.2)])), (oua, .inl (ca 0, 16, .inl (fun j => nI (O.1 j)))), (cs, .inl (ca 3, 3, .inr (.inr (.inr (.inr fc))))), (q, .inr (1, [.int (nI y), .ref d, .int (nI st), .int (nI nx), .int (nI pa), .int (nI du), .int (nI ta)])), (d, .inr (0, [.ref da, .int (nI r.2)])), (da, .inl (ca 0, 2, .inl (fun j => nI (r.1 j))))] H := hP.sub [1, 2, 4, 5, 6, 3, 0, 7, 8] rfl
  have hD : va_D A [(x, .inr (3, [.ref ss])), (ss, .inl (ca 2, 2, .inr (.inr (.inr (.inr fs))))), (h, .inr (2, [.ref ln, .ref pe, .ref ou, .ref cs, .int (nI lk), .int (nI sn), .int (nI ac), .int (nI ex), .int (nI tr), .int (nI rj)])), (ou, .inr (0, [.ref oua, .int (nI O.2)])), (oua, .inl (ca 0, 16, .inl (fun j => nI (O.1 j)))), (cs, .inl (ca 3, 3, .inr (.inr (.inr (.inr fc))))), (q, .inr (1, [.int (nI y), .ref d, .int (nI st), .int (nI nx), .int (nI pa), .int (nI du), .int (nI ta)])), (d, .inr (0, [.ref da, .int (nI r.2)])), (da, .inl (ca 0, 2, .inl (fun j => nI (r.1 j))))] := hD.sub [1, 2, 4, 5, 6, 3, 0, 7, 8] rfl rfl
  exact xout hnt hlk hce hcv hcl hP hD hS (Nat.le_of_ble_eq_true rfl) (Nat.le_of_ble_eq_true rfl)
set_option maxHeartbeats 4000000 in
set_option maxRecDepth 100000 in
theorem x_Cl_deliver_e (l : Launch) (hlT : l.stackTraces = false) (D : va_G) (ca : Nat → ClassId) (x ss : Nat) (fs : Nat → Option Nat) (s₀ : Nat) (hs0 : s₀ < 2) (h ln pe ou cs lk sn ac ex tr rj : Nat) (lna : Nat) (Ln : Rw_) (hfs : fs s₀ = some h) (h0 : Ln.2 = 0) : CoX l yCl_deliver (Cond.code yCl_deliver cCl_deliver 4 (some FieldType.int) :: tb_) { frames := 8, cells := 1, slots := 6, locals := 256 } D ca [.ref x, .int (nI s₀)] [(x, .inr (3, [.ref ss])), (ss, .inl (ca 2, 2, .inr (.inr (.inr (.inr fs))))), (h, .inr (2, [.ref ln, .ref pe, .ref ou, .ref cs, .int (nI lk), .int (nI sn), .int (nI ac), .int (nI ex), .int (nI tr), .int (nI rj)])), (ln, .inr (0, [.ref lna, .int (nI Ln.2)])), (lna, .inl (ca 0, 12, .inl (fun j => nI (Ln.1 j))))] "java/util/NoSuchElementException" 1 6 := by
  refine CoX.of cCl_deliver 4 (some FieldType.int) (by decide) (Nat.le_of_ble_eq_true rfl) ?_
  intro p e s m args below meth c A ls fx hret hlk hnt hE hZ hP hD hS hA hl
  have hx := fx.1
  have hb := fx.2.1
  have hown : s.vm.findClass RCl = some m.cls := fx.2.2.2.1
  have hts := fx.2.2.2.2
  have ht : ∀ w ∈ tb_, w.before args s = true := fun w h => hts w (List.mem_cons_of_mem _ h)
  have hl : lv_has ls 4 [(0, .ref x), (1, .int (nI s₀))] := hl
  refine lv_aload_n hx hb dCl_deliver_0 rfl (lv_at hl 0 rfl) ?_
  refine lv_iload_n hx hb dCl_deliver_1 rfl (lv_at hl 1 rfl) ?_
  refine kA (rV fx (c_Cl_stationAt l D ca x ss fs s₀ hs0 h hfs) ⟨callB_of 1 hts (tb_gi tw_143) rfl rfl rfl (ht _ tw_1) (ht _ tw_140) (by decide +kernel) ⟨(Nat.le_of_ble_eq_true rfl), (Nat.le_of_ble_eq_true rfl)⟩, ht _ tw_142, ht _ tw_826⟩ hE hP hD 0 rfl rfl rfl [0, 1] rfl rfl rfl hl.1 rfl (Nat.le_of_ble_eq_true rfl) dCl_deliver_2 ⟨(Nat.le_of_ble_eq_true rfl), (Nat.le_of_ble_eq_true rfl)⟩) hP hD hS hA [0, 1] [2, 3, 4] rfl rfl rfl (by decide) (fun _ H locs _ hP hD hS => ?_)
  have hP : va_P D cls_ [(h, .inr (2, [.ref ln, .ref pe, .ref ou, .ref cs, .int (nI lk), .int (nI sn), .int (nI ac), .int (nI ex), .int (nI tr), .int (nI rj)])), (ln, .inr (0, [.ref lna, .int (nI Ln.2)])), (lna, .inl (ca 0, 12, .inl (fun j => nI (Ln.1 j)))), (x, .inr (3, [.ref ss])), (ss, .inl (ca 2, 2, .inr (.inr (.inr (.inr fs)))))] H := hP
  have hD : va_D A [(h, .inr (2, [.ref ln, .ref pe, .ref ou, .ref cs, .int (nI lk), .int (nI sn), .int (nI ac), .int (nI ex), .int (nI tr), .int (nI rj)])), (ln, .inr (0, [.ref lna, .int (nI Ln.2)])), (lna, .inl (ca 0, 12, .inl (fun j => nI (Ln.1 j)))), (x, .inr (3, [.ref ss])), (ss, .inl (ca 2, 2, .inr (.inr (.inr (.inr fs)))))] := hD
  refine lv_astore_n hx hb dCl_deliver_5 rfl hl (by decide) rfl (fun ls hl => ?_)
  have hl : lv_has ls 4 [(2, .ref h), (0, .ref x), (1, .int (nI s₀))] := hl
  refine lv_aload_n hx hb dCl_deliver_6 rfl (lv_at hl 0 rfl) ?_
  refine va_getN (D := D) (ci := 2) (v := .ref ln) (host := "ChannelledLink") (C := RSt) (T := TSt) (N := 10) hx hb ht inSt hown hE.1 hP 0 rfl rfl 0 (by decide) (hE.nestU tw_89 rfl) (fun _ h => h) rfl dCl_deliver_7 ?_
  refine kX (xS fx (x_Cl_takeFrame l hlT D ca ln lna 12 Ln (by omega)) ⟨callB_of 1 hts (tb_gi tw_300) rfl rfl rfl (ht _ tw_1) (ht _ tw_298) (by decide +kernel) ⟨(Nat.le_of_ble_eq_true rfl), (Nat.le_of_ble_eq_true rfl)⟩, ht _ tw_299⟩ hE hZ hP hD hS hA [1, 2] rfl rfl rfl hl.1 rfl (Nat.le_of_ble_eq_true rfl) dCl_deliver_10 ⟨(Nat.le_of_ble_eq_true rfl), (Nat.le_of_ble_eq_true rfl)⟩) hP hD hS hA [1, 2] [0, 3, 4] rfl rfl rfl (by decide) (fun ce q9 H locs hP hD hS hce hcv hcl => ?_)
  have hP : va_P D cls_ [(h, .inr (2, [.ref ln, .ref pe, .ref ou, .ref cs, .int (nI lk), .int (nI sn), .int (nI ac), .int (nI ex), .int (nI tr), .int (nI rj)])), (x, .inr (3, [.ref ss])), (ss, .inl (ca 2, 2, .inr (.inr (.inr (.inr fs))))), (ln, .inr (0, [.ref lna, .int (nI Ln.2)])), (lna, .inl (ca 0, 12, .inl (fun j => nI (Ln.1 j))))] H := hP
  have hD : va_D A [(h, .inr (2, [.ref ln, .ref pe, .ref ou, .ref cs, .int (nI lk), .int (nI sn), .int (nI ac), .int (nI ex), .int (nI tr), .int (nI rj)])), (x, .inr (3, [.ref ss])), (ss, .inl (ca 2, 2, .inr (.inr (.inr (.inr fs))))), (ln, .inr (0, [.ref lna, .int (nI Ln.2)])), (lna, .inl (ca 0, 12, .inl (fun j => nI (Ln.1 j))))] := hD
  have hP : va_P D cls_ [(x, .inr (3, [.ref ss])), (ss, .inl (ca 2, 2, .inr (.inr (.inr (.inr fs))))), (h, .inr (2, [.ref ln, .ref pe, .ref ou, .ref cs, .int (nI lk), .int (nI sn), .int (nI ac), .int (nI ex), .int (nI tr), .int (nI rj)])), (ln, .inr (0, [.ref lna, .int (nI Ln.2)])), (lna, .inl (ca 0, 12, .inl (fun j => nI (Ln.1 j))))] H := hP.sub [1, 2, 0, 3, 4] rfl
  have hD : va_D A [(x, .inr (3, [.ref ss])), (ss, .inl (ca 2, 2, .inr (.inr (.inr (.inr fs))))), (h, .inr (2, [.ref ln, .ref pe, .ref ou, .ref cs, .int (nI lk), .int (nI sn), .int (nI ac), .int (nI ex), .int (nI tr), .int (nI rj)])), (ln, .inr (0, [.ref lna, .int (nI Ln.2)])), (lna, .inl (ca 0, 12, .inl (fun j => nI (Ln.1 j))))] := hD.sub [1, 2, 0, 3, 4] rfl rfl
  exact xout hnt hlk hce hcv hcl hP hD hS (Nat.le_of_ble_eq_true rfl) (Nat.le_of_ble_eq_true rfl)
set_option maxHeartbeats 4000000 in
set_option maxRecDepth 100000 in
theorem x_Cl_lose_e (l : Launch) (hlT : l.stackTraces = false) (D : va_G) (ca : Nat → ClassId) (x ss : Nat) (fs : Nat → Option Nat) (s₀ : Nat) (hs0 : s₀ < 2) (h ln pe ou cs lk sn ac ex tr rj : Nat) (lna : Nat) (Ln : Rw_) (hfs : fs s₀ = some h) (h0 : Ln.2 = 0) : CoX l yCl_lose (Cond.code yCl_lose cCl_lose 2 (some FieldType.int) :: tb_) { frames := 8, cells := 1, slots := 6, locals := 256 } D ca [.ref x, .int (nI s₀)] [(x, .inr (3, [.ref ss])), (ss, .inl (ca 2, 2, .inr (.inr (.inr (.inr fs))))), (h, .inr (2, [.ref ln, .ref pe, .ref ou, .ref cs, .int (nI lk), .int (nI sn), .int (nI ac), .int (nI ex), .int (nI tr), .int (nI rj)])), (ln, .inr (0, [.ref lna, .int (nI Ln.2)])), (lna, .inl (ca 0, 12, .inl (fun j => nI (Ln.1 j))))] "java/util/NoSuchElementException" 1 6 := by
  refine CoX.of cCl_lose 2 (some FieldType.int) (by decide) (Nat.le_of_ble_eq_true rfl) ?_
  intro p e s m args below meth c A ls fx hret hlk hnt hE hZ hP hD hS hA hl
  have hx := fx.1
  have hb := fx.2.1
  have hown : s.vm.findClass RCl = some m.cls := fx.2.2.2.1
  have hts := fx.2.2.2.2
  have ht : ∀ w ∈ tb_, w.before args s = true := fun w h => hts w (List.mem_cons_of_mem _ h)
  have hl : lv_has ls 2 [(0, .ref x), (1, .int (nI s₀))] := hl
  refine lv_aload_n hx hb dCl_lose_0 rfl (lv_at hl 0 rfl) ?_
  refine lv_iload_n hx hb dCl_lose_1 rfl (lv_at hl 1 rfl) ?_
  refine kA (rV fx (c_Cl_stationAt l D ca x ss fs s₀ hs0 h hfs) ⟨callB_of 1 hts (tb_gi tw_143) rfl rfl rfl (ht _ tw_1) (ht _ tw_140) (by decide +kernel) ⟨(Nat.le_of_ble_eq_true rfl), (Nat.le_of_ble_eq_true rfl)⟩, ht _ tw_142, ht _ tw_826⟩ hE hP hD 0 rfl rfl rfl [0, 1] rfl rfl rfl hl.1 rfl (Nat.le_of_ble_eq_true rfl) dCl_lose_2 ⟨(Nat.le_of_ble_eq_true rfl), (Nat.le_of_ble_eq_true rfl)⟩) hP hD hS hA [0, 1] [2, 3, 4] rfl rfl rfl (by decide) (fun _ H locs _ hP hD hS => ?_)
  have hP : va_P D cls_ [(h, .inr (2, [.ref ln, .ref pe, .ref ou, .ref cs, .int (nI lk), .int (nI sn), .int (nI ac), .int (nI ex), .int (nI tr), .int (nI rj)])), (ln, .inr (0, [.ref lna, .int (nI Ln.2)])), (lna, .inl (ca 0, 12, .inl (fun j => nI (Ln.1 j)))), (x, .inr (3, [.ref ss])), (ss, .inl (ca 2, 2, .inr (.inr (.inr (.inr fs)))))] H := hP
  have hD : va_D A [(h, .inr (2, [.ref ln, .ref pe, .ref ou, .ref cs, .int (nI lk), .int (nI sn), .int (nI ac), .int (nI ex), .int (nI tr), .int (nI rj)])), (ln, .inr (0, [.ref lna, .int (nI Ln.2)])), (lna, .inl (ca 0, 12, .inl (fun j => nI (Ln.1 j)))), (x, .inr (3, [.ref ss])), (ss, .inl (ca 2, 2, .inr (.inr (.inr (.inr fs)))))] := hD
  refine va_getN (D := D) (ci := 2) (v := .ref ln) (host := "ChannelledLink") (C := RSt) (T := TSt) (N := 10) hx hb ht inSt hown hE.1 hP 0 rfl rfl 0 (by decide) (hE.nestU tw_89 rfl) (fun _ h => h) rfl dCl_lose_5 ?_
  refine kX (xS fx (x_Cl_takeFrame l hlT D ca ln lna 12 Ln (by omega)) ⟨callB_of 1 hts (tb_gi tw_300) rfl rfl rfl (ht _ tw_1) (ht _ tw_298) (by decide +kernel) ⟨(Nat.le_of_ble_eq_true rfl), (Nat.le_of_ble_eq_true rfl)⟩, ht _ tw_299⟩ hE hZ hP hD hS hA [1, 2] rfl rfl rfl hl.1 rfl (Nat.le_of_ble_eq_true rfl) dCl_lose_8 ⟨(Nat.le_of_ble_eq_true rfl), (Nat.le_of_ble_eq_true rfl)⟩) hP hD hS hA [1, 2] [0, 3, 4] rfl rfl rfl (by decide) (fun ce q9 H locs hP hD hS hce hcv hcl => ?_)
  have hP : va_P D cls_ [(h, .inr (2, [.ref ln, .ref pe, .ref ou, .ref cs, .int (nI lk), .int (nI sn), .int (nI ac), .int (nI ex), .int (nI tr), .int (nI rj)])), (x, .inr (3, [.ref ss])), (ss, .inl (ca 2, 2, .inr (.inr (.inr (.inr fs))))), (ln, .inr (0, [.ref lna, .int (nI Ln.2)])), (lna, .inl (ca 0, 12, .inl (fun j => nI (Ln.1 j))))] H := hP
  have hD : va_D A [(h, .inr (2, [.ref ln, .ref pe, .ref ou, .ref cs, .int (nI lk), .int (nI sn), .int (nI ac), .int (nI ex), .int (nI tr), .int (nI rj)])), (x, .inr (3, [.ref ss])), (ss, .inl (ca 2, 2, .inr (.inr (.inr (.inr fs))))), (ln, .inr (0, [.ref lna, .int (nI Ln.2)])), (lna, .inl (ca 0, 12, .inl (fun j => nI (Ln.1 j))))] := hD
  have hP : va_P D cls_ [(x, .inr (3, [.ref ss])), (ss, .inl (ca 2, 2, .inr (.inr (.inr (.inr fs))))), (h, .inr (2, [.ref ln, .ref pe, .ref ou, .ref cs, .int (nI lk), .int (nI sn), .int (nI ac), .int (nI ex), .int (nI tr), .int (nI rj)])), (ln, .inr (0, [.ref lna, .int (nI Ln.2)])), (lna, .inl (ca 0, 12, .inl (fun j => nI (Ln.1 j))))] H := hP.sub [1, 2, 0, 3, 4] rfl
  have hD : va_D A [(x, .inr (3, [.ref ss])), (ss, .inl (ca 2, 2, .inr (.inr (.inr (.inr fs))))), (h, .inr (2, [.ref ln, .ref pe, .ref ou, .ref cs, .int (nI lk), .int (nI sn), .int (nI ac), .int (nI ex), .int (nI tr), .int (nI rj)])), (ln, .inr (0, [.ref lna, .int (nI Ln.2)])), (lna, .inl (ca 0, 12, .inl (fun j => nI (Ln.1 j))))] := hD.sub [1, 2, 0, 3, 4] rfl rfl
  exact xout hnt hlk hce hcv hcl hP hD hS (Nat.le_of_ble_eq_true rfl) (Nat.le_of_ble_eq_true rfl)
set_option maxHeartbeats 4000000 in
set_option maxRecDepth 100000 in
theorem c_Cl_isNumberR (l : Launch) (D : va_G) (ca : Nat → ClassId) (n₁ : Int32) : Co (S := Unit) l yCl_isNumber (Cond.code yCl_isNumber cCl_isNumber 1 (some FieldType.boolean) :: tb_) { frames := 0, cells := 0, slots := 0, locals := 0 } D ca [.int n₁] [] (fun _ => some (.int (nI (if 0 ≤ n₁ ∧ n₁ ≤ nI 7 then 1 else 0)))) (fun _ => True) (fun _ => []) 0 0 := by
  refine Co.of cCl_isNumber 1 (some FieldType.boolean) (by decide) (Nat.le_of_ble_eq_true rfl) ?_
  intro p e s m args below meth c A ls fx hret hlk hin hE hP hD hS hA hl
  have hx := fx.1
  have hb := fx.2.1
  have hown : s.vm.findClass RCl = some m.cls := fx.2.2.2.1
  have hts := fx.2.2.2.2
  have ht : ∀ w ∈ tb_, w.before args s = true := fun w h => hts w (List.mem_cons_of_mem _ h)
  have hl : lv_has ls 1 [(0, .int n₁)] := hl
  refine lv_iload_n hx hb dCl_isNumber_0 rfl (lv_at hl 0 rfl) ?_
  refine lv_if_lt (tgt := 14) hx hb dCl_isNumber_1 rfl (fun h1 => ?_) (fun h1 => ?_)
  · refine lv_iconst (v := nI 0) hx hb dCl_isNumber_14 (by decide) ?_
    exact Co.retz hx hb hret hlk (by first | rfl | decide) dCl_isNumber_15 hS hP hD () (by rw [if_neg (fun z => absurd h1 (Int32.not_lt.mpr z.1))]) trivial rfl (Nat.le_of_ble_eq_true rfl) (Nat.le_of_ble_eq_true rfl)
  · refine lv_iload_n hx hb dCl_isNumber_4 rfl (lv_at hl 0 rfl) ?_
    refine lv_bipush (v := nI 7) hx hb dCl_isNumber_5 (by decide) ?_
    refine lv_icmp_gt (tgt := 14) hx hb dCl_isNumber_7 rfl (fun h7 => ?_) (fun h7 => ?_)
    · refine lv_iconst (v := nI 0) hx hb dCl_isNumber_14 (by decide) ?_
      exact Co.retz hx hb hret hlk (by first | rfl | decide) dCl_isNumber_15 hS hP hD () (by rw [if_neg (fun z => absurd h7 (Int32.not_lt.mpr z.2))]) trivial rfl (Nat.le_of_ble_eq_true rfl) (Nat.le_of_ble_eq_true rfl)
    · refine lv_iconst (v := nI 1) hx hb dCl_isNumber_10 (by decide) ?_
      refine lv_goto (tgt := 15) hx hb dCl_isNumber_11 rfl ?_
      exact Co.retz hx hb hret hlk (by first | rfl | decide) dCl_isNumber_15 hS hP hD () (by rw [if_pos ⟨Int32.not_lt.mp h1, Int32.not_lt.mp h7⟩]) trivial rfl (Nat.le_of_ble_eq_true rfl) (Nat.le_of_ble_eq_true rfl)
theorem okN {n : Int32} (h : (if 0 ≤ n ∧ n ≤ nI 7 then 1 else 0) ≠ 0) : ¬ n < 0 ∧ ¬ nI 7 < n := by
  by_cases g : 0 ≤ n ∧ n ≤ nI 7
  · exact ⟨Int32.not_lt.mpr g.1, Int32.not_lt.mpr g.2⟩
  · rw [if_neg g] at h
    exact absurd rfl h
theorem nrB (n : Int32) : (if 0 ≤ n ∧ n ≤ nI 7 then 1 else 0) < 2 := by split <;> decide
set_option maxHeartbeats 4000000 in
set_option maxRecDepth 100000 in
theorem c_Cl_handN (l : Launch) (D : va_G) (ca : Nat → ClassId) (x ss : Nat) (fs : Nat → Option Nat) (s₀ : Nat) (hs0 : s₀ < 2) (h : Nat) (hfs : fs s₀ = some h) (cn : Nat) (hcn : cn < 3) (k₁ n₁ a₁ : Int32) (hbad : k₁ < nI 1 ∨ nI 8 < k₁ ∨ n₁ < 0 ∨ nI 7 < n₁ ∨ a₁ < 0 ∨ nI 7 < a₁) : Co (S := Unit) l yCl_hand (Cond.code yCl_hand cCl_hand 7 (some FieldType.boolean) :: tb_) { frames := 4, cells := 0, slots := 0, locals := 128 } D ca [.ref x, .int (nI s₀), .int (nI cn), .int k₁, .int n₁, .int a₁] [(x, .inr (3, [.ref ss])), (ss, .inl (ca 2, 2, .inr (.inr (.inr (.inr fs)))))] (fun _ => some (.int (nI 0))) (fun _ => True) (fun _ => [(x, .inr (3, [.ref ss])), (ss, .inl (ca 2, 2, .inr (.inr (.inr (.inr fs)))))]) 0 0 := by
  refine Co.of cCl_hand 7 (some FieldType.boolean) (by decide) (Nat.le_of_ble_eq_true rfl) ?_
  intro p e s m args below meth c A ls fx hret hlk hin hE hP hD hS hA hl
  have hx := fx.1
  have hb := fx.2.1
  have hown : s.vm.findClass RCl = some m.cls := fx.2.2.2.1
  have hts := fx.2.2.2.2
  have ht : ∀ w ∈ tb_, w.before args s = true := fun w h => hts w (List.mem_cons_of_mem _ h)
  have b1 := nrB n₁
  have b2 := nrB a₁
  have hl : lv_has ls 7 [(0, .ref x), (1, .int (nI s₀)), (2, .int (nI cn)), (3, .int k₁), (4, .int n₁), (5, .int a₁)] := hl
  refine lv_aload_n hx hb dCl_hand_0 rfl (lv_at hl 0 rfl) ?_
  refine lv_iload_n hx hb dCl_hand_1 rfl (lv_at hl 1 rfl) ?_
  refine kA (rV fx (c_Cl_stationAt l D ca x ss fs s₀ hs0 h hfs) ⟨callB_of 1 hts (tb_gi tw_143) rfl rfl rfl (ht _ tw_1) (ht _ tw_140) (by decide +kernel) ⟨(Nat.le_of_ble_eq_true rfl), (Nat.le_of_ble_eq_true rfl)⟩, ht _ tw_142, ht _ tw_826⟩ hE hP hD 0 rfl rfl rfl [0, 1] rfl rfl rfl hl.1 rfl (Nat.le_of_ble_eq_true rfl) dCl_hand_2 ⟨(Nat.le_of_ble_eq_true rfl), (Nat.le_of_ble_eq_true rfl)⟩) hP hD hS hA [0, 1] [] rfl rfl rfl (by decide) (fun _ H locs _ hP hD hS => ?_)
  have hP : va_P D cls_ [(x, .inr (3, [.ref ss])), (ss, .inl (ca 2, 2, .inr (.inr (.inr (.inr fs)))))] H := hP
  have hD : va_D A [(x, .inr (3, [.ref ss])), (ss, .inl (ca 2, 2, .inr (.inr (.inr (.inr fs)))))] := hD
  refine lv_astore hx hb dCl_hand_5 hl (by decide) rfl (fun ls hl => ?_)
  have hl : lv_has ls 7 [(6, .ref h), (0, .ref x), (1, .int (nI s₀)), (2, .int (nI cn)), (3, .int k₁), (4, .int n₁), (5, .int a₁)] := hl
  refine lv_iload_n hx hb dCl_hand_7 rfl (lv_at hl 3 rfl) ?_
  refine kV (rS fx (c_Cl_requireChannel l D ca cn (by omega)) ⟨callB_of 1 hts (tb_gi tw_457) rfl rfl rfl (ht _ tw_1) (ht _ tw_455) (by decide +kernel) ⟨(Nat.le_of_ble_eq_true rfl), (Nat.le_of_ble_eq_true rfl)⟩, ht _ tw_456⟩ hE hP hD [] rfl rfl rfl hl.1 rfl (Nat.le_of_ble_eq_true rfl) dCl_hand_8 ⟨(Nat.le_of_ble_eq_true rfl), (Nat.le_of_ble_eq_true rfl)⟩) hP hD hS hA [] [0, 1] rfl rfl rfl (by decide) (fun _ H locs _ hP hD hS => ?_)
  have hP : va_P D cls_ [(x, .inr (3, [.ref ss])), (ss, .inl (ca 2, 2, .inr (.inr (.inr (.inr fs)))))] H := hP
  have hD : va_D A [(x, .inr (3, [.ref ss])), (ss, .inl (ca 2, 2, .inr (.inr (.inr (.inr fs)))))] := hD
  refine lv_iload_n hx hb dCl_hand_11 rfl (lv_at hl 4 rfl) ?_
  refine lv_iconst (v := nI 1) hx hb dCl_hand_12 (by decide) ?_
  refine lv_icmp_lt (tgt := 38) hx hb dCl_hand_13 rfl (fun h13 => ?_) (fun h13 => ?_)
  · refine lv_iconst (v := nI 0) hx hb dCl_hand_38 (by decide) ?_
    exact Co.retz hx hb hret hlk (by first | rfl | decide) dCl_hand_39 hS hP hD () rfl trivial rfl (Nat.le_of_ble_eq_true rfl) (Nat.le_of_ble_eq_true rfl)
  · refine lv_iload_n hx hb dCl_hand_16 rfl (lv_at hl 4 rfl) ?_
    refine lv_bipush (v := nI 8) hx hb dCl_hand_17 (by decide) ?_
    refine lv_icmp_gt (tgt := 38) hx hb dCl_hand_19 rfl (fun h19 => ?_) (fun h19 => ?_)
    · refine lv_iconst (v := nI 0) hx hb dCl_hand_38 (by decide) ?_
      exact Co.retz hx hb hret hlk (by first | rfl | decide) dCl_hand_39 hS hP hD () rfl trivial rfl (Nat.le_of_ble_eq_true rfl) (Nat.le_of_ble_eq_true rfl)
    · refine lv_iload hx hb dCl_hand_22 (lv_at hl 5 rfl) ?_
      refine kI (rS fx (c_Cl_isNumberR l D ca n₁) ⟨callB_of 1 hts (tb_gi tw_462) rfl rfl rfl (ht _ tw_1) (ht _ tw_460) (by decide +kernel) ⟨(Nat.le_of_ble_eq_true rfl), (Nat.le_of_ble_eq_true rfl)⟩, ht _ tw_461⟩ hE hP hD [] rfl rfl rfl hl.1 rfl (Nat.le_of_ble_eq_true rfl) dCl_hand_24 ⟨(Nat.le_of_ble_eq_true rfl), (Nat.le_of_ble_eq_true rfl)⟩) hP hD hS hA [] [0, 1] rfl rfl rfl (by decide) (fun _ H locs _ hP hD hS => ?_)
      have hP : va_P D cls_ [(x, .inr (3, [.ref ss])), (ss, .inl (ca 2, 2, .inr (.inr (.inr (.inr fs)))))] H := hP
      have hD : va_D A [(x, .inr (3, [.ref ss])), (ss, .inl (ca 2, 2, .inr (.inr (.inr (.inr fs)))))] := hD
      refine k_if_eq (tgt := 38) hx hb (by omega) dCl_hand_27 rfl (fun h27 => ?_) (fun h27 => ?_)
      · refine lv_iconst (v := nI 0) hx hb dCl_hand_38 (by decide) ?_
        exact Co.retz hx hb hret hlk (by first | rfl | decide) dCl_hand_39 hS hP hD () rfl trivial rfl (Nat.le_of_ble_eq_true rfl) (Nat.le_of_ble_eq_true rfl)
      · refine lv_iload hx hb dCl_hand_30 (lv_at hl 6 rfl) ?_
        refine kI (rS fx (c_Cl_isNumberR l D ca a₁) ⟨callB_of 1 hts (tb_gi tw_462) rfl rfl rfl (ht _ tw_1) (ht _ tw_460) (by decide +kernel) ⟨(Nat.le_of_ble_eq_true rfl), (Nat.le_of_ble_eq_true rfl)⟩, ht _ tw_461⟩ hE hP hD [] rfl rfl rfl hl.1 rfl (Nat.le_of_ble_eq_true rfl) dCl_hand_32 ⟨(Nat.le_of_ble_eq_true rfl), (Nat.le_of_ble_eq_true rfl)⟩) hP hD hS hA [] [0, 1] rfl rfl rfl (by decide) (fun _ H locs _ hP hD hS => ?_)
        have hP : va_P D cls_ [(x, .inr (3, [.ref ss])), (ss, .inl (ca 2, 2, .inr (.inr (.inr (.inr fs)))))] H := hP
        have hD : va_D A [(x, .inr (3, [.ref ss])), (ss, .inl (ca 2, 2, .inr (.inr (.inr (.inr fs)))))] := hD
        refine k_if_ne (tgt := 40) hx hb (by omega) dCl_hand_35 rfl (fun hz => by rcases hbad with g | g | g | g | g | g; exact absurd g h13; exact absurd g h19; exact absurd g (okN h27).1; exact absurd g (okN h27).2; exact absurd g (okN hz).1; exact absurd g (okN hz).2) (fun h35 => ?_)
        refine lv_iconst (v := nI 0) hx hb dCl_hand_38 (by decide) ?_
        exact Co.retz hx hb hret hlk (by first | rfl | decide) dCl_hand_39 hS hP hD () rfl trivial rfl (Nat.le_of_ble_eq_true rfl) (Nat.le_of_ble_eq_true rfl)
