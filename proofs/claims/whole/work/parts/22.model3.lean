set_option maxHeartbeats 4000000 in
set_option maxRecDepth 100000 in
theorem c_Mo_thrown (l : Launch) (D : va_G) (ca : Nat → ClassId) (h : Nat) (ad : Nat → Nat) (co : Nat) (M : Nat → Nat → Nat)  : Co (S := Unit) l yMo_thrown (Cond.code yMo_thrown cMo_thrown 1 (some FieldType.int) :: tb_) { frames := 0, cells := 0, slots := 0, locals := 0 } D ca [.ref h] (mW h ad ca co M) (fun _ => some (.int (nI co))) (fun _ => True) (fun _ => (mW h ad ca co M)) 0 0 := by
  refine Co.of cMo_thrown 1 (some FieldType.int) (by decide) (Nat.le_of_ble_eq_true rfl) ?_
  intro p e s m args below meth c A ls fx hret hlk hin hE hP hD hS hA hl
  have hx := fx.1
  have hb := fx.2.1
  have hown : s.vm.findClass RMo = some m.cls := fx.2.2.2.1
  have hts := fx.2.2.2.2
  have ht : ∀ w ∈ tb_, w.before args s = true := fun w h => hts w (List.mem_cons_of_mem _ h)
  have hl : lv_has ls 1 [(0, .ref h)] := hl
  refine lv_aload_n hx hb dMo_thrown_0 rfl (lv_at hl 0 rfl) ?_
  refine va_get (D := D) (ci := 4) (v := .int (nI co)) (C := RMo) (T := TMo) (N := 29) hx hb ht inMo hown hE.1 hP 0 rfl rfl 0 (by decide) (ht _ tw_587) (fun _ h => h) rfl dMo_thrown_1 ?_
  exact Co.reti hx hb hret hlk dMo_thrown_4 hS hP hD () rfl trivial rfl (Nat.le_of_ble_eq_true rfl) (Nat.le_of_ble_eq_true rfl)
set_option maxHeartbeats 4000000 in
set_option maxRecDepth 100000 in
theorem c_Mo_station (l : Launch) (D : va_G) (ca : Nat → ClassId) (s₀ : Nat) (hs : s₀ < 2) : Co (S := Unit) l yMo_station (Cond.code yMo_station cMo_station 1 (some FieldType.boolean) :: tb_) { frames := 0, cells := 0, slots := 0, locals := 0 } D ca [.int (nI s₀)] [] (fun _ => some (.int (nI 1))) (fun _ => True) (fun _ => []) 0 0 := by
  refine Co.of cMo_station 1 (some FieldType.boolean) (by decide) (Nat.le_of_ble_eq_true rfl) ?_
  intro p e s m args below meth c A ls fx hret hlk hin hE hP hD hS hA hl
  have hx := fx.1
  have hb := fx.2.1
  have hown : s.vm.findClass RMo = some m.cls := fx.2.2.2.1
  have hts := fx.2.2.2.2
  have ht : ∀ w ∈ tb_, w.before args s = true := fun w h => hts w (List.mem_cons_of_mem _ h)
  have hl : lv_has ls 1 [(0, .int (nI s₀))] := hl
  refine lv_iload_n hx hb dMo_station_0 rfl (lv_at hl 0 rfl) ?_
  refine k_if_eq (tgt := 9) hx hb (by omega) dMo_station_1 rfl (fun h1 => ?_) (fun h1 => ?_)
  · refine lv_iconst (v := nI 1) hx hb dMo_station_9 (by decide) ?_
    refine lv_goto (tgt := 14) hx hb dMo_station_10 rfl ?_
    exact Co.retz hx hb hret hlk (by first | rfl | decide) dMo_station_14 hS hP hD () rfl trivial rfl (Nat.le_of_ble_eq_true rfl) (Nat.le_of_ble_eq_true rfl)
  · refine lv_iload_n hx hb dMo_station_4 rfl (lv_at hl 0 rfl) ?_
    refine lv_iconst (v := nI 1) hx hb dMo_station_5 (by decide) ?_
    refine k_icmp_ne (tgt := 13) hx hb (by omega) (by omega) dMo_station_6 rfl (fun hz => absurd hz (by omega)) (fun h6 => ?_)
    refine lv_iconst (v := nI 1) hx hb dMo_station_9 (by decide) ?_
    refine lv_goto (tgt := 14) hx hb dMo_station_10 rfl ?_
    exact Co.retz hx hb hret hlk (by first | rfl | decide) dMo_station_14 hS hP hD () rfl trivial rfl (Nat.le_of_ble_eq_true rfl) (Nat.le_of_ble_eq_true rfl)
set_option maxHeartbeats 4000000 in
set_option maxRecDepth 100000 in
theorem c_Mo_stationX (l : Launch) (D : va_G) (ca : Nat → ClassId) (x₀ : Int32) (hx0 : ¬ x₀ = 0) (hx1 : ¬ x₀ = nI 1) : Co (S := Unit) l yMo_station (Cond.code yMo_station cMo_station 1 (some FieldType.boolean) :: tb_) { frames := 0, cells := 0, slots := 0, locals := 0 } D ca [.int x₀] [] (fun _ => some (.int (nI 0))) (fun _ => True) (fun _ => []) 0 0 := by
  refine Co.of cMo_station 1 (some FieldType.boolean) (by decide) (Nat.le_of_ble_eq_true rfl) ?_
  intro p e s m args below meth c A ls fx hret hlk hin hE hP hD hS hA hl
  have hx := fx.1
  have hb := fx.2.1
  have hown : s.vm.findClass RMo = some m.cls := fx.2.2.2.1
  have hts := fx.2.2.2.2
  have ht : ∀ w ∈ tb_, w.before args s = true := fun w h => hts w (List.mem_cons_of_mem _ h)
  have hl : lv_has ls 1 [(0, .int x₀)] := hl
  refine lv_iload_n hx hb dMo_station_0 rfl (lv_at hl 0 rfl) ?_
  refine lv_if_eq (tgt := 9) hx hb dMo_station_1 rfl (fun hz => absurd hz hx0) (fun h1 => ?_)
  refine lv_iload_n hx hb dMo_station_4 rfl (lv_at hl 0 rfl) ?_
  refine lv_iconst (v := nI 1) hx hb dMo_station_5 (by decide) ?_
  refine lv_icmp_ne (tgt := 13) hx hb dMo_station_6 rfl (fun h6 => ?_) (fun hz => absurd hz hx1)
  refine lv_iconst (v := nI 0) hx hb dMo_station_13 (by decide) ?_
  exact Co.retz hx hb hret hlk (by first | rfl | decide) dMo_station_14 hS hP hD () rfl trivial rfl (Nat.le_of_ble_eq_true rfl) (Nat.le_of_ble_eq_true rfl)
set_option maxHeartbeats 4000000 in
set_option maxRecDepth 100000 in
theorem c_Mo_channelOf (l : Launch) (D : va_G) (ca : Nat → ClassId) (s₀ cn : Nat) (hs : s₀ < 2) (hc : cn < 3) : Co (S := Unit) l yMo_channelOf (Cond.code yMo_channelOf cMo_channelOf 2 (some FieldType.boolean) :: tb_) { frames := 1, cells := 0, slots := 0, locals := 32 } D ca [.int (nI s₀), .int (nI cn)] [] (fun _ => some (.int (nI 1))) (fun _ => True) (fun _ => []) 0 0 := by
  refine Co.of cMo_channelOf 2 (some FieldType.boolean) (by decide) (Nat.le_of_ble_eq_true rfl) ?_
  intro p e s m args below meth c A ls fx hret hlk hin hE hP hD hS hA hl
  have hx := fx.1
  have hb := fx.2.1
  have hown : s.vm.findClass RMo = some m.cls := fx.2.2.2.1
  have hts := fx.2.2.2.2
  have ht : ∀ w ∈ tb_, w.before args s = true := fun w h => hts w (List.mem_cons_of_mem _ h)
  have hl : lv_has ls 2 [(0, .int (nI s₀)), (1, .int (nI cn))] := hl
  refine lv_iload_n hx hb dMo_channelOf_0 rfl (lv_at hl 0 rfl) ?_
  refine kI (rS fx (c_Mo_station l D ca s₀ (by omega)) ⟨callB_of 1 hts (tb_gi tw_686) rfl rfl rfl (ht _ tw_5) (ht _ tw_684) (by decide +kernel) ⟨(Nat.le_of_ble_eq_true rfl), (Nat.le_of_ble_eq_true rfl)⟩, ht _ tw_685⟩ hE hP hD [] rfl rfl rfl hl.1 rfl (Nat.le_of_ble_eq_true rfl) dMo_channelOf_1 ⟨(Nat.le_of_ble_eq_true rfl), (Nat.le_of_ble_eq_true rfl)⟩) hP hD hS hA [] [] rfl rfl rfl (by decide) (fun _ H locs _ hP hD hS => ?_)
  have hP : va_P D cls_ [] H := hP
  have hD : va_D A [] := hD
  refine k_if_eq (tgt := 20) hx hb (by omega) dMo_channelOf_4 rfl (fun hz => absurd hz (by omega)) (fun h4 => ?_)
  refine lv_iload_n hx hb dMo_channelOf_7 rfl (lv_at hl 1 rfl) ?_
  refine k_if_lt (tgt := 20) hx hb (by omega) dMo_channelOf_8 rfl ?_
  refine lv_iload_n hx hb dMo_channelOf_11 rfl (lv_at hl 1 rfl) ?_
  refine lv_iconst (v := nI 2) hx hb dMo_channelOf_12 (by decide) ?_
  refine k_icmp_gt (tgt := 20) hx hb (by omega) (by omega) dMo_channelOf_13 rfl (fun hz => absurd hz (by omega)) (fun h13 => ?_)
  refine lv_iconst (v := nI 1) hx hb dMo_channelOf_16 (by decide) ?_
  refine lv_goto (tgt := 21) hx hb dMo_channelOf_17 rfl ?_
  exact Co.retz hx hb hret hlk (by first | rfl | decide) dMo_channelOf_21 hS hP hD () rfl trivial rfl (Nat.le_of_ble_eq_true rfl) (Nat.le_of_ble_eq_true rfl)
set_option maxHeartbeats 4000000 in
set_option maxRecDepth 100000 in
theorem c_Mo_channelOfX (l : Launch) (D : va_G) (ca : Nat → ClassId) (x₀ : Int32) (hx0 : ¬ x₀ = 0) (hx1 : ¬ x₀ = nI 1) (y₀ : Int32) : Co (S := Unit) l yMo_channelOf (Cond.code yMo_channelOf cMo_channelOf 2 (some FieldType.boolean) :: tb_) { frames := 1, cells := 0, slots := 0, locals := 32 } D ca [.int x₀, .int y₀] [] (fun _ => some (.int (nI 0))) (fun _ => True) (fun _ => []) 0 0 := by
  refine Co.of cMo_channelOf 2 (some FieldType.boolean) (by decide) (Nat.le_of_ble_eq_true rfl) ?_
  intro p e s m args below meth c A ls fx hret hlk hin hE hP hD hS hA hl
  have hx := fx.1
  have hb := fx.2.1
  have hown : s.vm.findClass RMo = some m.cls := fx.2.2.2.1
  have hts := fx.2.2.2.2
  have ht : ∀ w ∈ tb_, w.before args s = true := fun w h => hts w (List.mem_cons_of_mem _ h)
  have hl : lv_has ls 2 [(0, .int x₀), (1, .int y₀)] := hl
  refine lv_iload_n hx hb dMo_channelOf_0 rfl (lv_at hl 0 rfl) ?_
  refine kI (rS fx (c_Mo_stationX l D ca x₀ hx0 hx1) ⟨callB_of 1 hts (tb_gi tw_686) rfl rfl rfl (ht _ tw_5) (ht _ tw_684) (by decide +kernel) ⟨(Nat.le_of_ble_eq_true rfl), (Nat.le_of_ble_eq_true rfl)⟩, ht _ tw_685⟩ hE hP hD [] rfl rfl rfl hl.1 rfl (Nat.le_of_ble_eq_true rfl) dMo_channelOf_1 ⟨(Nat.le_of_ble_eq_true rfl), (Nat.le_of_ble_eq_true rfl)⟩) hP hD hS hA [] [] rfl rfl rfl (by decide) (fun _ H locs _ hP hD hS => ?_)
  have hP : va_P D cls_ [] H := hP
  have hD : va_D A [] := hD
  refine k_if_eq (tgt := 20) hx hb (by omega) dMo_channelOf_4 rfl (fun h4 => ?_) (fun hz => absurd hz (by omega))
  refine lv_iconst (v := nI 0) hx hb dMo_channelOf_20 (by decide) ?_
  exact Co.retz hx hb hret hlk (by first | rfl | decide) dMo_channelOf_21 hS hP hD () rfl trivial rfl (Nat.le_of_ble_eq_true rfl) (Nat.le_of_ble_eq_true rfl)
set_option maxHeartbeats 4000000 in
set_option maxRecDepth 100000 in
theorem c_Mo_channelOfC (l : Launch) (D : va_G) (ca : Nat → ClassId) (s₀ : Nat) (hs : s₀ < 2) (y₀ : Int32) (hy0 : y₀ < 0 ∨ nI 3 ≤ y₀) : Co (S := Unit) l yMo_channelOf (Cond.code yMo_channelOf cMo_channelOf 2 (some FieldType.boolean) :: tb_) { frames := 1, cells := 0, slots := 0, locals := 32 } D ca [.int (nI s₀), .int y₀] [] (fun _ => some (.int (nI 0))) (fun _ => True) (fun _ => []) 0 0 := by
  refine Co.of cMo_channelOf 2 (some FieldType.boolean) (by decide) (Nat.le_of_ble_eq_true rfl) ?_
  intro p e s m args below meth c A ls fx hret hlk hin hE hP hD hS hA hl
  have hx := fx.1
  have hb := fx.2.1
  have hown : s.vm.findClass RMo = some m.cls := fx.2.2.2.1
  have hts := fx.2.2.2.2
  have ht : ∀ w ∈ tb_, w.before args s = true := fun w h => hts w (List.mem_cons_of_mem _ h)
  have hl : lv_has ls 2 [(0, .int (nI s₀)), (1, .int y₀)] := hl
  refine lv_iload_n hx hb dMo_channelOf_0 rfl (lv_at hl 0 rfl) ?_
  refine kI (rS fx (c_Mo_station l D ca s₀ (by omega)) ⟨callB_of 1 hts (tb_gi tw_686) rfl rfl rfl (ht _ tw_5) (ht _ tw_684) (by decide +kernel) ⟨(Nat.le_of_ble_eq_true rfl), (Nat.le_of_ble_eq_true rfl)⟩, ht _ tw_685⟩ hE hP hD [] rfl rfl rfl hl.1 rfl (Nat.le_of_ble_eq_true rfl) dMo_channelOf_1 ⟨(Nat.le_of_ble_eq_true rfl), (Nat.le_of_ble_eq_true rfl)⟩) hP hD hS hA [] [] rfl rfl rfl (by decide) (fun _ H locs _ hP hD hS => ?_)
  have hP : va_P D cls_ [] H := hP
  have hD : va_D A [] := hD
  refine k_if_eq (tgt := 20) hx hb (by omega) dMo_channelOf_4 rfl (fun hz => absurd hz (by omega)) (fun h4 => ?_)
  refine lv_iload_n hx hb dMo_channelOf_7 rfl (lv_at hl 1 rfl) ?_
  refine lv_if_lt (tgt := 20) hx hb dMo_channelOf_8 rfl (fun h8 => ?_) (fun h8 => ?_)
  · refine lv_iconst (v := nI 0) hx hb dMo_channelOf_20 (by decide) ?_
    exact Co.retz hx hb hret hlk (by first | rfl | decide) dMo_channelOf_21 hS hP hD () rfl trivial rfl (Nat.le_of_ble_eq_true rfl) (Nat.le_of_ble_eq_true rfl)
  · refine lv_iload_n hx hb dMo_channelOf_11 rfl (lv_at hl 1 rfl) ?_
    refine lv_iconst (v := nI 2) hx hb dMo_channelOf_12 (by decide) ?_
    refine lv_icmp_gt (tgt := 20) hx hb dMo_channelOf_13 rfl (fun h13 => ?_) (fun hz => absurd (lt_23 (hy0.resolve_left h8)) hz)
    refine lv_iconst (v := nI 0) hx hb dMo_channelOf_20 (by decide) ?_
    exact Co.retz hx hb hret hlk (by first | rfl | decide) dMo_channelOf_21 hS hP hD () rfl trivial rfl (Nat.le_of_ble_eq_true rfl) (Nat.le_of_ble_eq_true rfl)
set_option maxHeartbeats 4000000 in
set_option maxRecDepth 100000 in
theorem c_Mo_open (l : Launch) (D : va_G) (ca : Nat → ClassId) (h : Nat) (ad : Nat → Nat) (co : Nat) (M : Nat → Nat → Nat) (s₀ : Nat) (hM : mOk M) (hs : s₀ < 2) : Co (S := Unit) l yMo_open (Cond.code yMo_open cMo_open 2 none :: tb_) { frames := 3, cells := 0, slots := 0, locals := 96 } D ca [.ref h, .int (nI s₀)] (mW h ad ca co M) (fun _ => none) (fun _ => True) (fun _ => (mW h ad ca 0 (mSetUp M s₀))) 0 0 := by
  refine Co.of cMo_open 2 none (by decide) (Nat.le_of_ble_eq_true rfl) ?_
  intro p e s m args below meth c A ls fx hret hlk hin hE hP hD hS hA hl
  have hx := fx.1
  have hb := fx.2.1
  have hown : s.vm.findClass RMo = some m.cls := fx.2.2.2.1
  have hts := fx.2.2.2.2
  have ht : ∀ w ∈ tb_, w.before args s = true := fun w h => hts w (List.mem_cons_of_mem _ h)
  have hl : lv_has ls 2 [(0, .ref h), (1, .int (nI s₀))] := hl
  refine lv_aload_n hx hb dMo_open_0 rfl (lv_at hl 0 rfl) ?_
  refine lv_iload_n hx hb dMo_open_1 rfl (lv_at hl 1 rfl) ?_
  refine kI (rS fx (c_Mo_station l D ca s₀ (by omega)) ⟨callB_of 1 hts (tb_gi tw_686) rfl rfl rfl (ht _ tw_5) (ht _ tw_684) (by decide +kernel) ⟨(Nat.le_of_ble_eq_true rfl), (Nat.le_of_ble_eq_true rfl)⟩, ht _ tw_685⟩ hE hP hD [] rfl rfl rfl hl.1 rfl (Nat.le_of_ble_eq_true rfl) dMo_open_2 ⟨(Nat.le_of_ble_eq_true rfl), (Nat.le_of_ble_eq_true rfl)⟩) hP hD hS hA [] [0, 1, 2, 3, 4, 5, 6, 7, 8, 9, 10, 11, 12, 13, 14, 15, 16, 17, 18, 19, 20, 21, 22, 23, 24, 25, 26, 27, 28] rfl rfl rfl (by decide) (fun _ H locs _ hP hD hS => ?_)
  have hP : va_P D cls_ (mW h ad ca co M) H := hP
  have hD : va_D A (mW h ad ca co M) := hD
  refine k_if_eq (tgt := 12) hx hb (by omega) dMo_open_5 rfl (fun hz => absurd hz (by omega)) (fun h5 => ?_)
  refine lv_iconst (v := nI 0) hx hb dMo_open_8 (by decide) ?_
  refine lv_goto (tgt := 13) hx hb dMo_open_9 rfl ?_
  refine va_put (D := D) (ci := 4) (v := .int (nI 0)) (ty := .int) (C := RMo) (T := TMo) (N := 29) hx hb ht inMo tyMo tyMo_ok nmMo hown hE.1 hP hD hS 0 rfl rfl 0 (by decide) (ht _ tw_587) (fun _ h => h) rfl (by decide +kernel) rfl rfl (Nat.le_of_ble_eq_true rfl) dMo_open_13 (fun H locs hP hD hS => ?_)
  have hP : va_P D cls_ (mW h ad ca 0 M) H := hP
  have hD : va_D A (mW h ad ca 0 M) := hD
  refine lv_aload_n hx hb dMo_open_16 rfl (lv_at hl 0 rfl) ?_
  refine va_get (D := D) (ci := 4) (v := .int (nI 0)) (C := RMo) (T := TMo) (N := 29) hx hb ht inMo hown hE.1 hP 0 rfl rfl 0 (by decide) (ht _ tw_587) (fun _ h => h) rfl dMo_open_17 ?_
  refine k_if_ne (tgt := 28) hx hb (by omega) dMo_open_20 rfl (fun hz => absurd hz (by omega)) (fun h20 => ?_)
  refine lv_aload_n hx hb dMo_open_23 rfl (lv_at hl 0 rfl) ?_
  refine lv_iload_n hx hb dMo_open_24 rfl (lv_at hl 1 rfl) ?_
  refine kV (rV fx (c_Mo_setUp l D ca h ad 0 M s₀ (by first | assumption | exact mOk.idle (by assumption) _ | exact mOk.clean (by assumption) _ | exact mOk.renew (by assumption) _ | exact (mOk.renew (by assumption) _).set 23 (show 3 < 6 by decide) | exact (mOk.renew (by assumption) _).set 23 (show 5 < 6 by decide)) (by omega)) ⟨callB_of 1 hts (tb_gi tw_710) rfl rfl rfl (ht _ tw_5) (ht _ tw_707) (by decide +kernel) ⟨(Nat.le_of_ble_eq_true rfl), (Nat.le_of_ble_eq_true rfl)⟩, ht _ tw_709, ht _ tw_850⟩ hE hP hD 0 rfl rfl rfl [0, 1, 2, 3, 4, 5, 6, 7, 8, 9, 10, 11, 12, 13, 14, 15, 16, 17, 18, 19, 20, 21, 22, 23, 24, 25, 26, 27, 28] rfl rfl rfl hl.1 rfl (Nat.le_of_ble_eq_true rfl) dMo_open_25 ⟨(Nat.le_of_ble_eq_true rfl), (Nat.le_of_ble_eq_true rfl)⟩) hP hD hS hA [0, 1, 2, 3, 4, 5, 6, 7, 8, 9, 10, 11, 12, 13, 14, 15, 16, 17, 18, 19, 20, 21, 22, 23, 24, 25, 26, 27, 28] [] rfl rfl rfl (by decide) (fun _ H locs _ hP hD hS => ?_)
  have hP : va_P D cls_ (mW h ad ca 0 (mSetUp M s₀)) H := hP
  have hD : va_D A (mW h ad ca 0 (mSetUp M s₀)) := hD
  exact Co.retv hx hb hret hlk dMo_open_28 hS hP hD () rfl trivial rfl (Nat.le_of_ble_eq_true rfl) (Nat.le_of_ble_eq_true rfl)
set_option maxHeartbeats 4000000 in
set_option maxRecDepth 100000 in
theorem c_Mo_openX (l : Launch) (D : va_G) (ca : Nat → ClassId) (h : Nat) (ad : Nat → Nat) (co : Nat) (M : Nat → Nat → Nat) (x₀ : Int32) (hx0 : ¬ x₀ = 0) (hx1 : ¬ x₀ = nI 1) : Co (S := Unit) l yMo_open (Cond.code yMo_open cMo_open 2 none :: tb_) { frames := 3, cells := 0, slots := 0, locals := 96 } D ca [.ref h, .int x₀] (mW h ad ca co M) (fun _ => none) (fun _ => True) (fun _ => (mW h ad ca 1 M)) 0 0 := by
  refine Co.of cMo_open 2 none (by decide) (Nat.le_of_ble_eq_true rfl) ?_
  intro p e s m args below meth c A ls fx hret hlk hin hE hP hD hS hA hl
  have hx := fx.1
  have hb := fx.2.1
  have hown : s.vm.findClass RMo = some m.cls := fx.2.2.2.1
  have hts := fx.2.2.2.2
  have ht : ∀ w ∈ tb_, w.before args s = true := fun w h => hts w (List.mem_cons_of_mem _ h)
  have hl : lv_has ls 2 [(0, .ref h), (1, .int x₀)] := hl
  refine lv_aload_n hx hb dMo_open_0 rfl (lv_at hl 0 rfl) ?_
  refine lv_iload_n hx hb dMo_open_1 rfl (lv_at hl 1 rfl) ?_
  refine kI (rS fx (c_Mo_stationX l D ca x₀ hx0 hx1) ⟨callB_of 1 hts (tb_gi tw_686) rfl rfl rfl (ht _ tw_5) (ht _ tw_684) (by decide +kernel) ⟨(Nat.le_of_ble_eq_true rfl), (Nat.le_of_ble_eq_true rfl)⟩, ht _ tw_685⟩ hE hP hD [] rfl rfl rfl hl.1 rfl (Nat.le_of_ble_eq_true rfl) dMo_open_2 ⟨(Nat.le_of_ble_eq_true rfl), (Nat.le_of_ble_eq_true rfl)⟩) hP hD hS hA [] [0, 1, 2, 3, 4, 5, 6, 7, 8, 9, 10, 11, 12, 13, 14, 15, 16, 17, 18, 19, 20, 21, 22, 23, 24, 25, 26, 27, 28] rfl rfl rfl (by decide) (fun _ H locs _ hP hD hS => ?_)
  have hP : va_P D cls_ (mW h ad ca co M) H := hP
  have hD : va_D A (mW h ad ca co M) := hD
  refine k_if_eq (tgt := 12) hx hb (by omega) dMo_open_5 rfl (fun h5 => ?_) (fun hz => absurd hz (by omega))
  refine lv_iconst (v := nI 1) hx hb dMo_open_12 (by decide) ?_
  refine va_put (D := D) (ci := 4) (v := .int (nI 1)) (ty := .int) (C := RMo) (T := TMo) (N := 29) hx hb ht inMo tyMo tyMo_ok nmMo hown hE.1 hP hD hS 0 rfl rfl 0 (by decide) (ht _ tw_587) (fun _ h => h) rfl (by decide +kernel) rfl rfl (Nat.le_of_ble_eq_true rfl) dMo_open_13 (fun H locs hP hD hS => ?_)
  have hP : va_P D cls_ (mW h ad ca 1 M) H := hP
  have hD : va_D A (mW h ad ca 1 M) := hD
  refine lv_aload_n hx hb dMo_open_16 rfl (lv_at hl 0 rfl) ?_
  refine va_get (D := D) (ci := 4) (v := .int (nI 1)) (C := RMo) (T := TMo) (N := 29) hx hb ht inMo hown hE.1 hP 0 rfl rfl 0 (by decide) (ht _ tw_587) (fun _ h => h) rfl dMo_open_17 ?_
  refine k_if_ne (tgt := 28) hx hb (by omega) dMo_open_20 rfl (fun h20 => ?_) (fun hz => absurd hz (by omega))
  exact Co.retv hx hb hret hlk dMo_open_28 hS hP hD () rfl trivial rfl (Nat.le_of_ble_eq_true rfl) (Nat.le_of_ble_eq_true rfl)
set_option maxHeartbeats 4000000 in
set_option maxRecDepth 100000 in
theorem c_Mo_lose (l : Launch) (D : va_G) (ca : Nat → ClassId) (h : Nat) (ad : Nat → Nat) (co : Nat) (M : Nat → Nat → Nat) (s₀ : Nat) (hM : mOk M) (hs : s₀ < 2) (h0 : 0 < M 1 s₀) : Co (S := Unit) l yMo_lose (Cond.code yMo_lose cMo_lose 2 (some FieldType.int) :: tb_) { frames := 1, cells := 0, slots := 0, locals := 32 } D ca [.ref h, .int (nI s₀)] (mW h ad ca co M) (fun _ => some (.int (nI (M 2 (12 * s₀))))) (fun _ => True) (fun _ => (mW h ad ca 0 (mTake M s₀))) 0 0 := by
  refine Co.of cMo_lose 2 (some FieldType.int) (by decide) (Nat.le_of_ble_eq_true rfl) ?_
  intro p e s m args below meth c A ls fx hret hlk hin hE hP hD hS hA hl
  have hx := fx.1
  have hb := fx.2.1
  have hown : s.vm.findClass RMo = some m.cls := fx.2.2.2.1
  have hts := fx.2.2.2.2
  have ht : ∀ w ∈ tb_, w.before args s = true := fun w h => hts w (List.mem_cons_of_mem _ h)
  have b1 : M 1 s₀ < 13 := hM 1 _
  have hl : lv_has ls 2 [(0, .ref h), (1, .int (nI s₀))] := hl
  refine lv_aload_n hx hb dMo_lose_0 rfl (lv_at hl 0 rfl) ?_
  refine lv_iload_n hx hb dMo_lose_1 rfl (lv_at hl 1 rfl) ?_
  refine kI (rS fx (c_Mo_station l D ca s₀ (by omega)) ⟨callB_of 1 hts (tb_gi tw_686) rfl rfl rfl (ht _ tw_5) (ht _ tw_684) (by decide +kernel) ⟨(Nat.le_of_ble_eq_true rfl), (Nat.le_of_ble_eq_true rfl)⟩, ht _ tw_685⟩ hE hP hD [] rfl rfl rfl hl.1 rfl (Nat.le_of_ble_eq_true rfl) dMo_lose_2 ⟨(Nat.le_of_ble_eq_true rfl), (Nat.le_of_ble_eq_true rfl)⟩) hP hD hS hA [] [0, 1, 2, 3, 4, 5, 6, 7, 8, 9, 10, 11, 12, 13, 14, 15, 16, 17, 18, 19, 20, 21, 22, 23, 24, 25, 26, 27, 28] rfl rfl rfl (by decide) (fun _ H locs _ hP hD hS => ?_)
  have hP : va_P D cls_ (mW h ad ca co M) H := hP
  have hD : va_D A (mW h ad ca co M) := hD
  refine k_if_ne (tgt := 12) hx hb (by omega) dMo_lose_5 rfl (fun h5 => ?_) (fun hz => absurd hz (by omega))
  refine lv_aload_n hx hb dMo_lose_12 rfl (lv_at hl 0 rfl) ?_
  refine va_get (D := D) (ci := 4) (v := .ref (ad 1)) (C := RMo) (T := TMo) (N := 29) hx hb ht inMo hown hE.1 hP 0 rfl rfl 1 (by decide) (ht _ tw_588) (fun _ h => h) rfl dMo_lose_13 ?_
  refine lv_iload_n hx hb dMo_lose_16 rfl (lv_at hl 1 rfl) ?_
  refine k_iald hx hb hE.1 hP 1 0 (n := 2) (g := (M 1)) rfl rfl (i := s₀) (by omega) (by decide) dMo_lose_17 ?_
  refine k_if_ne (tgt := 25) hx hb (by omega) dMo_lose_18 rfl (fun h18 => ?_) (fun hz => absurd hz (by omega))
  refine lv_iconst (v := nI 0) hx hb dMo_lose_25 (by decide) ?_
  refine va_put (D := D) (ci := 4) (v := .int (nI 0)) (ty := .int) (C := RMo) (T := TMo) (N := 29) hx hb ht inMo tyMo tyMo_ok nmMo hown hE.1 hP hD hS 0 rfl rfl 0 (by decide) (ht _ tw_587) (fun _ h => h) rfl (by decide +kernel) rfl rfl (Nat.le_of_ble_eq_true rfl) dMo_lose_26 (fun H locs hP hD hS => ?_)
  have hP : va_P D cls_ (mW h ad ca 0 M) H := hP
  have hD : va_D A (mW h ad ca 0 M) := hD
  refine lv_aload_n hx hb dMo_lose_29 rfl (lv_at hl 0 rfl) ?_
  refine va_get (D := D) (ci := 4) (v := .int (nI 0)) (C := RMo) (T := TMo) (N := 29) hx hb ht inMo hown hE.1 hP 0 rfl rfl 0 (by decide) (ht _ tw_587) (fun _ h => h) rfl dMo_lose_30 ?_
  refine k_if_le (tgt := 40) hx hb (by omega) dMo_lose_33 rfl (fun h33 => ?_) (fun hz => absurd hz (by omega))
  refine lv_aload_n hx hb dMo_lose_40 rfl (lv_at hl 0 rfl) ?_
  refine lv_iload_n hx hb dMo_lose_41 rfl (lv_at hl 1 rfl) ?_
  refine kI (rV fx (c_Mo_takeFrame l D ca h ad 0 M s₀ (by first | assumption | exact mOk.idle (by assumption) _ | exact mOk.clean (by assumption) _ | exact mOk.renew (by assumption) _ | exact (mOk.renew (by assumption) _).set 23 (show 3 < 6 by decide) | exact (mOk.renew (by assumption) _).set 23 (show 5 < 6 by decide)) (by omega) (by omega)) ⟨callB_of 1 hts (tb_gi tw_690) rfl rfl rfl (ht _ tw_5) (ht _ tw_687) (by decide +kernel) ⟨(Nat.le_of_ble_eq_true rfl), (Nat.le_of_ble_eq_true rfl)⟩, ht _ tw_689, ht _ tw_845⟩ hE hP hD 0 rfl rfl rfl [0, 1, 2, 3, 4, 5, 6, 7, 8, 9, 10, 11, 12, 13, 14, 15, 16, 17, 18, 19, 20, 21, 22, 23, 24, 25, 26, 27, 28] rfl rfl rfl hl.1 rfl (Nat.le_of_ble_eq_true rfl) dMo_lose_42 ⟨(Nat.le_of_ble_eq_true rfl), (Nat.le_of_ble_eq_true rfl)⟩) hP hD hS hA [0, 1, 2, 3, 4, 5, 6, 7, 8, 9, 10, 11, 12, 13, 14, 15, 16, 17, 18, 19, 20, 21, 22, 23, 24, 25, 26, 27, 28] [] rfl rfl rfl (by decide) (fun _ H locs _ hP hD hS => ?_)
  have hP : va_P D cls_ (mW h ad ca 0 (mTake M s₀)) H := hP
  have hD : va_D A (mW h ad ca 0 (mTake M s₀)) := hD
  exact Co.reti hx hb hret hlk dMo_lose_45 hS hP hD () rfl trivial rfl (Nat.le_of_ble_eq_true rfl) (Nat.le_of_ble_eq_true rfl)
set_option maxHeartbeats 4000000 in
set_option maxRecDepth 100000 in
theorem c_Mo_loseE (l : Launch) (D : va_G) (ca : Nat → ClassId) (h : Nat) (ad : Nat → Nat) (co : Nat) (M : Nat → Nat → Nat) (s₀ : Nat) (hs : s₀ < 2) (h0 : M 1 s₀ = 0) : Co (S := Unit) l yMo_lose (Cond.code yMo_lose cMo_lose 2 (some FieldType.int) :: tb_) { frames := 1, cells := 0, slots := 0, locals := 32 } D ca [.ref h, .int (nI s₀)] (mW h ad ca co M) (fun _ => some (.int (nI 0))) (fun _ => True) (fun _ => (mW h ad ca 2 M)) 0 0 := by
  refine Co.of cMo_lose 2 (some FieldType.int) (by decide) (Nat.le_of_ble_eq_true rfl) ?_
  intro p e s m args below meth c A ls fx hret hlk hin hE hP hD hS hA hl
  have hx := fx.1
  have hb := fx.2.1
  have hown : s.vm.findClass RMo = some m.cls := fx.2.2.2.1
  have hts := fx.2.2.2.2
  have ht : ∀ w ∈ tb_, w.before args s = true := fun w h => hts w (List.mem_cons_of_mem _ h)
  have hl : lv_has ls 2 [(0, .ref h), (1, .int (nI s₀))] := hl
  refine lv_aload_n hx hb dMo_lose_0 rfl (lv_at hl 0 rfl) ?_
  refine lv_iload_n hx hb dMo_lose_1 rfl (lv_at hl 1 rfl) ?_
  refine kI (rS fx (c_Mo_station l D ca s₀ (by omega)) ⟨callB_of 1 hts (tb_gi tw_686) rfl rfl rfl (ht _ tw_5) (ht _ tw_684) (by decide +kernel) ⟨(Nat.le_of_ble_eq_true rfl), (Nat.le_of_ble_eq_true rfl)⟩, ht _ tw_685⟩ hE hP hD [] rfl rfl rfl hl.1 rfl (Nat.le_of_ble_eq_true rfl) dMo_lose_2 ⟨(Nat.le_of_ble_eq_true rfl), (Nat.le_of_ble_eq_true rfl)⟩) hP hD hS hA [] [0, 1, 2, 3, 4, 5, 6, 7, 8, 9, 10, 11, 12, 13, 14, 15, 16, 17, 18, 19, 20, 21, 22, 23, 24, 25, 26, 27, 28] rfl rfl rfl (by decide) (fun _ H locs _ hP hD hS => ?_)
  have hP : va_P D cls_ (mW h ad ca co M) H := hP
  have hD : va_D A (mW h ad ca co M) := hD
  refine k_if_ne (tgt := 12) hx hb (by omega) dMo_lose_5 rfl (fun h5 => ?_) (fun hz => absurd hz (by omega))
  refine lv_aload_n hx hb dMo_lose_12 rfl (lv_at hl 0 rfl) ?_
  refine va_get (D := D) (ci := 4) (v := .ref (ad 1)) (C := RMo) (T := TMo) (N := 29) hx hb ht inMo hown hE.1 hP 0 rfl rfl 1 (by decide) (ht _ tw_588) (fun _ h => h) rfl dMo_lose_13 ?_
  refine lv_iload_n hx hb dMo_lose_16 rfl (lv_at hl 1 rfl) ?_
  refine k_iald hx hb hE.1 hP 1 0 (n := 2) (g := (M 1)) rfl rfl (i := s₀) (by omega) (by decide) dMo_lose_17 ?_
  refine k_if_ne (tgt := 25) hx hb (by omega) dMo_lose_18 rfl (fun hz => absurd hz (by omega)) (fun h18 => ?_)
  refine lv_iconst (v := nI 2) hx hb dMo_lose_21 (by decide) ?_
  refine lv_goto (tgt := 26) hx hb dMo_lose_22 rfl ?_
  refine va_put (D := D) (ci := 4) (v := .int (nI 2)) (ty := .int) (C := RMo) (T := TMo) (N := 29) hx hb ht inMo tyMo tyMo_ok nmMo hown hE.1 hP hD hS 0 rfl rfl 0 (by decide) (ht _ tw_587) (fun _ h => h) rfl (by decide +kernel) rfl rfl (Nat.le_of_ble_eq_true rfl) dMo_lose_26 (fun H locs hP hD hS => ?_)
  have hP : va_P D cls_ (mW h ad ca 2 M) H := hP
  have hD : va_D A (mW h ad ca 2 M) := hD
  refine lv_aload_n hx hb dMo_lose_29 rfl (lv_at hl 0 rfl) ?_
  refine va_get (D := D) (ci := 4) (v := .int (nI 2)) (C := RMo) (T := TMo) (N := 29) hx hb ht inMo hown hE.1 hP 0 rfl rfl 0 (by decide) (ht _ tw_587) (fun _ h => h) rfl dMo_lose_30 ?_
  refine k_if_le (tgt := 40) hx hb (by omega) dMo_lose_33 rfl (fun hz => absurd hz (by omega)) (fun h33 => ?_)
  refine lv_iconst (v := nI 0) hx hb dMo_lose_36 (by decide) ?_
  refine lv_goto (tgt := 45) hx hb dMo_lose_37 rfl ?_
  exact Co.reti hx hb hret hlk dMo_lose_45 hS hP hD () rfl trivial rfl (Nat.le_of_ble_eq_true rfl) (Nat.le_of_ble_eq_true rfl)
set_option maxHeartbeats 4000000 in
set_option maxRecDepth 100000 in
theorem c_Mo_loseX (l : Launch) (D : va_G) (ca : Nat → ClassId) (h : Nat) (ad : Nat → Nat) (co : Nat) (M : Nat → Nat → Nat) (x₀ : Int32) (hx0 : ¬ x₀ = 0) (hx1 : ¬ x₀ = nI 1) : Co (S := Unit) l yMo_lose (Cond.code yMo_lose cMo_lose 2 (some FieldType.int) :: tb_) { frames := 1, cells := 0, slots := 0, locals := 32 } D ca [.ref h, .int x₀] (mW h ad ca co M) (fun _ => some (.int (nI 0))) (fun _ => True) (fun _ => (mW h ad ca 1 M)) 0 0 := by
  refine Co.of cMo_lose 2 (some FieldType.int) (by decide) (Nat.le_of_ble_eq_true rfl) ?_
  intro p e s m args below meth c A ls fx hret hlk hin hE hP hD hS hA hl
  have hx := fx.1
  have hb := fx.2.1
  have hown : s.vm.findClass RMo = some m.cls := fx.2.2.2.1
  have hts := fx.2.2.2.2
  have ht : ∀ w ∈ tb_, w.before args s = true := fun w h => hts w (List.mem_cons_of_mem _ h)
  have hl : lv_has ls 2 [(0, .ref h), (1, .int x₀)] := hl
  refine lv_aload_n hx hb dMo_lose_0 rfl (lv_at hl 0 rfl) ?_
  refine lv_iload_n hx hb dMo_lose_1 rfl (lv_at hl 1 rfl) ?_
  refine kI (rS fx (c_Mo_stationX l D ca x₀ hx0 hx1) ⟨callB_of 1 hts (tb_gi tw_686) rfl rfl rfl (ht _ tw_5) (ht _ tw_684) (by decide +kernel) ⟨(Nat.le_of_ble_eq_true rfl), (Nat.le_of_ble_eq_true rfl)⟩, ht _ tw_685⟩ hE hP hD [] rfl rfl rfl hl.1 rfl (Nat.le_of_ble_eq_true rfl) dMo_lose_2 ⟨(Nat.le_of_ble_eq_true rfl), (Nat.le_of_ble_eq_true rfl)⟩) hP hD hS hA [] [0, 1, 2, 3, 4, 5, 6, 7, 8, 9, 10, 11, 12, 13, 14, 15, 16, 17, 18, 19, 20, 21, 22, 23, 24, 25, 26, 27, 28] rfl rfl rfl (by decide) (fun _ H locs _ hP hD hS => ?_)
  have hP : va_P D cls_ (mW h ad ca co M) H := hP
  have hD : va_D A (mW h ad ca co M) := hD
  refine k_if_ne (tgt := 12) hx hb (by omega) dMo_lose_5 rfl (fun hz => absurd hz (by omega)) (fun h5 => ?_)
  refine lv_iconst (v := nI 1) hx hb dMo_lose_8 (by decide) ?_
  refine lv_goto (tgt := 26) hx hb dMo_lose_9 rfl ?_
  refine va_put (D := D) (ci := 4) (v := .int (nI 1)) (ty := .int) (C := RMo) (T := TMo) (N := 29) hx hb ht inMo tyMo tyMo_ok nmMo hown hE.1 hP hD hS 0 rfl rfl 0 (by decide) (ht _ tw_587) (fun _ h => h) rfl (by decide +kernel) rfl rfl (Nat.le_of_ble_eq_true rfl) dMo_lose_26 (fun H locs hP hD hS => ?_)
  have hP : va_P D cls_ (mW h ad ca 1 M) H := hP
  have hD : va_D A (mW h ad ca 1 M) := hD
  refine lv_aload_n hx hb dMo_lose_29 rfl (lv_at hl 0 rfl) ?_
  refine va_get (D := D) (ci := 4) (v := .int (nI 1)) (C := RMo) (T := TMo) (N := 29) hx hb ht inMo hown hE.1 hP 0 rfl rfl 0 (by decide) (ht _ tw_587) (fun _ h => h) rfl dMo_lose_30 ?_
  refine k_if_le (tgt := 40) hx hb (by omega) dMo_lose_33 rfl (fun hz => absurd hz (by omega)) (fun h33 => ?_)
  refine lv_iconst (v := nI 0) hx hb dMo_lose_36 (by decide) ?_
  refine lv_goto (tgt := 45) hx hb dMo_lose_37 rfl ?_
  exact Co.reti hx hb hret hlk dMo_lose_45 hS hP hD () rfl trivial rfl (Nat.le_of_ble_eq_true rfl) (Nat.le_of_ble_eq_true rfl)
set_option maxHeartbeats 4000000 in
set_option maxRecDepth 100000 in
theorem c_Mo_deliver (l : Launch) (D : va_G) (ca : Nat → ClassId) (h : Nat) (ad : Nat → Nat) (co : Nat) (M : Nat → Nat → Nat) (s₀ : Nat) (hM : mOk M) (hs : s₀ < 2) (h0 : 0 < M 1 s₀) (hun : mUn M s₀ ≤ M 17 s₀) (hdt : ∀ k, k < 6 → ds (M 27 k) (M 26 k) ≤ 2) (ha : M 4 (12 * s₀) < 8) (hc : M 6 (12 * s₀) < 3) (ha2 : M 8 (12 * s₀) < 8) : Co (S := Unit) l yMo_deliver (Cond.code yMo_deliver cMo_deliver 11 (some FieldType.int) :: tb_) { frames := 7, cells := 0, slots := 0, locals := 224 } D ca [.ref h, .int (nI s₀)] (mW h ad ca co M) (fun _ => some (.int (nI (M 2 (12 * s₀))))) (fun _ => True) (fun _ => (mW h ad ca 0 (mDeliv M s₀))) 0 0 := by
  refine Co.of cMo_deliver 11 (some FieldType.int) (by decide) (Nat.le_of_ble_eq_true rfl) ?_
  intro p e s m args below meth c A ls fx hret hlk hin hE hP hD hS hA hl
  have hx := fx.1
  have hb := fx.2.1
  have hown : s.vm.findClass RMo = some m.cls := fx.2.2.2.1
  have hts := fx.2.2.2.2
  have ht : ∀ w ∈ tb_, w.before args s = true := fun w h => hts w (List.mem_cons_of_mem _ h)
  have b1 : M 1 s₀ < 13 := hM 1 _
  have g2 := hM.big 2 (12 * s₀)
  have g3 := hM.big 3 (12 * s₀)
  have g5 := hM.big 5 (12 * s₀)
  have g7 := hM.big 7 (12 * s₀)
  have g9 := hM.big 9 (12 * s₀)
  obtain ⟨L, hLe⟩ : ∃ L, L = mS (mTake M s₀) 16 s₀ 0 := ⟨_, rfl⟩
  have hL : mOk L := hLe ▸ (hM.take s₀).set 16 (show 0 < 2 by decide)
  have hLk : ∀ i, 10 ≤ i → i ≠ 16 → L i = M i := fun i h1 h2 => by rw [hLe, mS_ne h2, mTake_hi h1]
  have b2 : L 10 s₀ < 3 := hL 10 _
  have hun2 : mUn L s₀ ≤ L 17 s₀ := by unfold mUn; rw [hLk 11 (by decide) (by decide), hLk 12 (by decide) (by decide), hLk 17 (by decide) (by decide)]; exact hun
  have hC : mOk (mConf L s₀ (M 4 (12 * s₀))) := hL.conf s₀ ha
  have hCA : mOk (mAgain (mConf L s₀ (M 4 (12 * s₀))) s₀) := mOk.agR _ hC s₀ 0
  have hdt2 : ds (mConf L s₀ (M 4 (12 * s₀)) 27 (3 * s₀ + M 6 (12 * s₀))) (mConf L s₀ (M 4 (12 * s₀)) 26 (3 * s₀ + M 6 (12 * s₀))) ≤ 2 := by rw [mConf_hi (by decide), mConf_hi (by decide), hLk 27 (by decide) (by decide), hLk 26 (by decide) (by decide)]; exact hdt _ (by omega)
  have hl : lv_has ls 11 [(0, .ref h), (1, .int (nI s₀))] := hl
  refine lv_aload_n hx hb dMo_deliver_0 rfl (lv_at hl 0 rfl) ?_
  refine lv_iload_n hx hb dMo_deliver_1 rfl (lv_at hl 1 rfl) ?_
  refine kI (rS fx (c_Mo_station l D ca s₀ (by omega)) ⟨callB_of 1 hts (tb_gi tw_686) rfl rfl rfl (ht _ tw_5) (ht _ tw_684) (by decide +kernel) ⟨(Nat.le_of_ble_eq_true rfl), (Nat.le_of_ble_eq_true rfl)⟩, ht _ tw_685⟩ hE hP hD [] rfl rfl rfl hl.1 rfl (Nat.le_of_ble_eq_true rfl) dMo_deliver_2 ⟨(Nat.le_of_ble_eq_true rfl), (Nat.le_of_ble_eq_true rfl)⟩) hP hD hS hA [] [0, 1, 2, 3, 4, 5, 6, 7, 8, 9, 10, 11, 12, 13, 14, 15, 16, 17, 18, 19, 20, 21, 22, 23, 24, 25, 26, 27, 28] rfl rfl rfl (by decide) (fun _ H locs _ hP hD hS => ?_)
  have hP : va_P D cls_ (mW h ad ca co M) H := hP
  have hD : va_D A (mW h ad ca co M) := hD
  refine k_if_ne (tgt := 12) hx hb (by omega) dMo_deliver_5 rfl (fun h5 => ?_) (fun hz => absurd hz (by omega))
  refine lv_aload_n hx hb dMo_deliver_12 rfl (lv_at hl 0 rfl) ?_
  refine va_get (D := D) (ci := 4) (v := .ref (ad 1)) (C := RMo) (T := TMo) (N := 29) hx hb ht inMo hown hE.1 hP 0 rfl rfl 1 (by decide) (ht _ tw_588) (fun _ h => h) rfl dMo_deliver_13 ?_
  refine lv_iload_n hx hb dMo_deliver_16 rfl (lv_at hl 1 rfl) ?_
  refine k_iald hx hb hE.1 hP 1 0 (n := 2) (g := (M 1)) rfl rfl (i := s₀) (by omega) (by decide) dMo_deliver_17 ?_
  refine k_if_ne (tgt := 25) hx hb (by omega) dMo_deliver_18 rfl (fun h18 => ?_) (fun hz => absurd hz (by omega))
  refine lv_iconst (v := nI 0) hx hb dMo_deliver_25 (by decide) ?_
  refine va_put (D := D) (ci := 4) (v := .int (nI 0)) (ty := .int) (C := RMo) (T := TMo) (N := 29) hx hb ht inMo tyMo tyMo_ok nmMo hown hE.1 hP hD hS 0 rfl rfl 0 (by decide) (ht _ tw_587) (fun _ h => h) rfl (by decide +kernel) rfl rfl (Nat.le_of_ble_eq_true rfl) dMo_deliver_26 (fun H locs hP hD hS => ?_)
  have hP : va_P D cls_ (mW h ad ca 0 M) H := hP
  have hD : va_D A (mW h ad ca 0 M) := hD
  refine lv_aload_n hx hb dMo_deliver_29 rfl (lv_at hl 0 rfl) ?_
  refine va_get (D := D) (ci := 4) (v := .int (nI 0)) (C := RMo) (T := TMo) (N := 29) hx hb ht inMo hown hE.1 hP 0 rfl rfl 0 (by decide) (ht _ tw_587) (fun _ h => h) rfl dMo_deliver_30 ?_
  refine k_if_le (tgt := 38) hx hb (by omega) dMo_deliver_33 rfl (fun h33 => ?_) (fun hz => absurd hz (by omega))
  refine lv_bipush (v := nI 12) hx hb dMo_deliver_38 (by decide) ?_
  refine lv_iload_n hx hb dMo_deliver_40 rfl (lv_at hl 1 rfl) ?_
  refine k_imul hx hb dMo_deliver_41 ?_
  refine lv_istore_n hx hb dMo_deliver_42 rfl hl (by decide) rfl (fun ls hl => ?_)
  have hl : lv_has ls 11 [(2, .int (nI (12 * s₀))), (0, .ref h), (1, .int (nI s₀))] := hl
  refine lv_aload_n hx hb dMo_deliver_43 rfl (lv_at hl 1 rfl) ?_
  refine va_get (D := D) (ci := 4) (v := .ref (ad 3)) (C := RMo) (T := TMo) (N := 29) hx hb ht inMo hown hE.1 hP 0 rfl rfl 3 (by decide) (ht _ tw_590) (fun _ h => h) rfl dMo_deliver_44 ?_
  refine lv_iload_n hx hb dMo_deliver_47 rfl (lv_at hl 0 rfl) ?_
  refine k_iald hx hb hE.1 hP 3 0 (n := 24) (g := (M 3)) rfl rfl (i := (12 * s₀)) (by omega) (by decide) dMo_deliver_48 ?_
  refine lv_istore_n hx hb dMo_deliver_49 rfl hl (by decide) rfl (fun ls hl => ?_)
  have hl : lv_has ls 11 [(3, .int (nI (M 3 (12 * s₀)))), (2, .int (nI (12 * s₀))), (0, .ref h), (1, .int (nI s₀))] := hl
  refine lv_aload_n hx hb dMo_deliver_50 rfl (lv_at hl 2 rfl) ?_
  refine va_get (D := D) (ci := 4) (v := .ref (ad 4)) (C := RMo) (T := TMo) (N := 29) hx hb ht inMo hown hE.1 hP 0 rfl rfl 4 (by decide) (ht _ tw_591) (fun _ h => h) rfl dMo_deliver_51 ?_
  refine lv_iload_n hx hb dMo_deliver_54 rfl (lv_at hl 1 rfl) ?_
  refine k_iald hx hb hE.1 hP 4 0 (n := 24) (g := (M 4)) rfl rfl (i := (12 * s₀)) (by omega) (by decide) dMo_deliver_55 ?_
  refine lv_istore hx hb dMo_deliver_56 hl (by decide) rfl (fun ls hl => ?_)
  have hl : lv_has ls 11 [(4, .int (nI (M 4 (12 * s₀)))), (3, .int (nI (M 3 (12 * s₀)))), (2, .int (nI (12 * s₀))), (0, .ref h), (1, .int (nI s₀))] := hl
  refine lv_aload_n hx hb dMo_deliver_58 rfl (lv_at hl 3 rfl) ?_
  refine va_get (D := D) (ci := 4) (v := .ref (ad 5)) (C := RMo) (T := TMo) (N := 29) hx hb ht inMo hown hE.1 hP 0 rfl rfl 5 (by decide) (ht _ tw_592) (fun _ h => h) rfl dMo_deliver_59 ?_
  refine lv_iload_n hx hb dMo_deliver_62 rfl (lv_at hl 2 rfl) ?_
  refine k_iald hx hb hE.1 hP 5 0 (n := 24) (g := (M 5)) rfl rfl (i := (12 * s₀)) (by omega) (by decide) dMo_deliver_63 ?_
  refine lv_istore hx hb dMo_deliver_64 hl (by decide) rfl (fun ls hl => ?_)
  have hl : lv_has ls 11 [(5, .int (nI (M 5 (12 * s₀)))), (4, .int (nI (M 4 (12 * s₀)))), (3, .int (nI (M 3 (12 * s₀)))), (2, .int (nI (12 * s₀))), (0, .ref h), (1, .int (nI s₀))] := hl
  refine lv_aload_n hx hb dMo_deliver_66 rfl (lv_at hl 4 rfl) ?_
  refine va_get (D := D) (ci := 4) (v := .ref (ad 6)) (C := RMo) (T := TMo) (N := 29) hx hb ht inMo hown hE.1 hP 0 rfl rfl 6 (by decide) (ht _ tw_593) (fun _ h => h) rfl dMo_deliver_67 ?_
  refine lv_iload_n hx hb dMo_deliver_70 rfl (lv_at hl 3 rfl) ?_
  refine k_iald hx hb hE.1 hP 6 0 (n := 24) (g := (M 6)) rfl rfl (i := (12 * s₀)) (by omega) (by decide) dMo_deliver_71 ?_
  refine lv_istore hx hb dMo_deliver_72 hl (by decide) rfl (fun ls hl => ?_)
  have hl : lv_has ls 11 [(6, .int (nI (M 6 (12 * s₀)))), (5, .int (nI (M 5 (12 * s₀)))), (4, .int (nI (M 4 (12 * s₀)))), (3, .int (nI (M 3 (12 * s₀)))), (2, .int (nI (12 * s₀))), (0, .ref h), (1, .int (nI s₀))] := hl
  refine lv_aload_n hx hb dMo_deliver_74 rfl (lv_at hl 5 rfl) ?_
  refine va_get (D := D) (ci := 4) (v := .ref (ad 7)) (C := RMo) (T := TMo) (N := 29) hx hb ht inMo hown hE.1 hP 0 rfl rfl 7 (by decide) (ht _ tw_594) (fun _ h => h) rfl dMo_deliver_75 ?_
  refine lv_iload_n hx hb dMo_deliver_78 rfl (lv_at hl 4 rfl) ?_
  refine k_iald hx hb hE.1 hP 7 0 (n := 24) (g := (M 7)) rfl rfl (i := (12 * s₀)) (by omega) (by decide) dMo_deliver_79 ?_
  refine lv_istore hx hb dMo_deliver_80 hl (by decide) rfl (fun ls hl => ?_)
  have hl : lv_has ls 11 [(7, .int (nI (M 7 (12 * s₀)))), (6, .int (nI (M 6 (12 * s₀)))), (5, .int (nI (M 5 (12 * s₀)))), (4, .int (nI (M 4 (12 * s₀)))), (3, .int (nI (M 3 (12 * s₀)))), (2, .int (nI (12 * s₀))), (0, .ref h), (1, .int (nI s₀))] := hl
  refine lv_aload_n hx hb dMo_deliver_82 rfl (lv_at hl 6 rfl) ?_
  refine va_get (D := D) (ci := 4) (v := .ref (ad 8)) (C := RMo) (T := TMo) (N := 29) hx hb ht inMo hown hE.1 hP 0 rfl rfl 8 (by decide) (ht _ tw_595) (fun _ h => h) rfl dMo_deliver_83 ?_
  refine lv_iload_n hx hb dMo_deliver_86 rfl (lv_at hl 5 rfl) ?_
  refine k_iald hx hb hE.1 hP 8 0 (n := 24) (g := (M 8)) rfl rfl (i := (12 * s₀)) (by omega) (by decide) dMo_deliver_87 ?_
  refine lv_istore hx hb dMo_deliver_88 hl (by decide) rfl (fun ls hl => ?_)
  have hl : lv_has ls 11 [(8, .int (nI (M 8 (12 * s₀)))), (7, .int (nI (M 7 (12 * s₀)))), (6, .int (nI (M 6 (12 * s₀)))), (5, .int (nI (M 5 (12 * s₀)))), (4, .int (nI (M 4 (12 * s₀)))), (3, .int (nI (M 3 (12 * s₀)))), (2, .int (nI (12 * s₀))), (0, .ref h), (1, .int (nI s₀))] := hl
  refine lv_aload_n hx hb dMo_deliver_90 rfl (lv_at hl 7 rfl) ?_
  refine va_get (D := D) (ci := 4) (v := .ref (ad 9)) (C := RMo) (T := TMo) (N := 29) hx hb ht inMo hown hE.1 hP 0 rfl rfl 9 (by decide) (ht _ tw_596) (fun _ h => h) rfl dMo_deliver_91 ?_
  refine lv_iload_n hx hb dMo_deliver_94 rfl (lv_at hl 6 rfl) ?_
  refine k_iald hx hb hE.1 hP 9 0 (n := 24) (g := (M 9)) rfl rfl (i := (12 * s₀)) (by omega) (by decide) dMo_deliver_95 ?_
  refine lv_istore hx hb dMo_deliver_96 hl (by decide) rfl (fun ls hl => ?_)
  have hl : lv_has ls 11 [(9, .int (nI (M 9 (12 * s₀)))), (8, .int (nI (M 8 (12 * s₀)))), (7, .int (nI (M 7 (12 * s₀)))), (6, .int (nI (M 6 (12 * s₀)))), (5, .int (nI (M 5 (12 * s₀)))), (4, .int (nI (M 4 (12 * s₀)))), (3, .int (nI (M 3 (12 * s₀)))), (2, .int (nI (12 * s₀))), (0, .ref h), (1, .int (nI s₀))] := hl
  refine lv_aload_n hx hb dMo_deliver_98 rfl (lv_at hl 8 rfl) ?_
  refine lv_iload_n hx hb dMo_deliver_99 rfl (lv_at hl 9 rfl) ?_
  refine kI (rV fx (c_Mo_takeFrame l D ca h ad 0 M s₀ (by first | assumption | exact mOk.idle (by assumption) _ | exact mOk.clean (by assumption) _ | exact mOk.renew (by assumption) _ | exact (mOk.renew (by assumption) _).set 23 (show 3 < 6 by decide) | exact (mOk.renew (by assumption) _).set 23 (show 5 < 6 by decide)) (by omega) (by omega)) ⟨callB_of 1 hts (tb_gi tw_690) rfl rfl rfl (ht _ tw_5) (ht _ tw_687) (by decide +kernel) ⟨(Nat.le_of_ble_eq_true rfl), (Nat.le_of_ble_eq_true rfl)⟩, ht _ tw_689, ht _ tw_845⟩ hE hP hD 0 rfl rfl rfl [0, 1, 2, 3, 4, 5, 6, 7, 8, 9, 10, 11, 12, 13, 14, 15, 16, 17, 18, 19, 20, 21, 22, 23, 24, 25, 26, 27, 28] rfl rfl rfl hl.1 rfl (Nat.le_of_ble_eq_true rfl) dMo_deliver_100 ⟨(Nat.le_of_ble_eq_true rfl), (Nat.le_of_ble_eq_true rfl)⟩) hP hD hS hA [0, 1, 2, 3, 4, 5, 6, 7, 8, 9, 10, 11, 12, 13, 14, 15, 16, 17, 18, 19, 20, 21, 22, 23, 24, 25, 26, 27, 28] [] rfl rfl rfl (by decide) (fun _ H locs _ hP hD hS => ?_)
  have hP : va_P D cls_ (mW h ad ca 0 (mTake M s₀)) H := hP
  have hD : va_D A (mW h ad ca 0 (mTake M s₀)) := hD
  refine lv_istore hx hb dMo_deliver_103 hl (by decide) rfl (fun ls hl => ?_)
  have hl : lv_has ls 11 [(10, .int (nI (M 2 (12 * s₀)))), (9, .int (nI (M 9 (12 * s₀)))), (8, .int (nI (M 8 (12 * s₀)))), (7, .int (nI (M 7 (12 * s₀)))), (6, .int (nI (M 6 (12 * s₀)))), (5, .int (nI (M 5 (12 * s₀)))), (4, .int (nI (M 4 (12 * s₀)))), (3, .int (nI (M 3 (12 * s₀)))), (2, .int (nI (12 * s₀))), (0, .ref h), (1, .int (nI s₀))] := hl
  refine lv_aload_n hx hb dMo_deliver_105 rfl (lv_at hl 9 rfl) ?_
  refine va_get (D := D) (ci := 4) (v := .ref (ad 16)) (C := RMo) (T := TMo) (N := 29) hx hb ht inMo hown hE.1 hP 0 rfl rfl 16 (by decide) (ht _ tw_603) (fun _ h => h) rfl dMo_deliver_106 ?_
  refine lv_iload_n hx hb dMo_deliver_109 rfl (lv_at hl 10 rfl) ?_
  refine lv_iconst (v := nI 0) hx hb dMo_deliver_110 (by decide) ?_
  refine k_zast hx hb hE.1 hP hD hS 16 1 (n := 2) (g := ((mTake M s₀) 16)) rfl rfl (i := s₀) (x := 0) (by omega) (by omega) (by decide) dMo_deliver_111 (fun H locs hP hD hS => ?_)
  rw [mo_set_16] at hP hD
  rw [← hLe] at hP hD
  refine lv_iload hx hb dMo_deliver_112 (lv_at hl 0 rfl) ?_
  refine lv_iconst (v := nI 1) hx hb dMo_deliver_114 (by decide) ?_
  refine k_icmp_eq (tgt := 124) hx hb (by omega) (by omega) dMo_deliver_115 rfl (fun h115 => ?_) (fun h115 => ?_)
  · refine lv_aload_n hx hb dMo_deliver_124 rfl (lv_at hl 9 rfl) ?_
    refine lv_iload_n hx hb dMo_deliver_125 rfl (lv_at hl 10 rfl) ?_
    refine lv_iload hx hb dMo_deliver_126 (lv_at hl 0 rfl) ?_
    refine kV (rV fx (c_Mo_hearLink l D ca h ad 0 L s₀ (M 2 (12 * s₀)) (by first | assumption | exact mOk.idle (by assumption) _ | exact mOk.clean (by assumption) _ | exact mOk.renew (by assumption) _ | exact (mOk.renew (by assumption) _).set 23 (show 3 < 6 by decide) | exact (mOk.renew (by assumption) _).set 23 (show 5 < 6 by decide)) (by omega) (by omega)) ⟨callB_of 2 hts (tb_gi tw_694) rfl rfl rfl (ht _ tw_5) (ht _ tw_691) (by decide +kernel) ⟨(Nat.le_of_ble_eq_true rfl), (Nat.le_of_ble_eq_true rfl)⟩, ht _ tw_693, ht _ tw_846⟩ hE hP hD 0 rfl rfl rfl [0, 1, 2, 3, 4, 5, 6, 7, 8, 9, 10, 11, 12, 13, 14, 15, 16, 17, 18, 19, 20, 21, 22, 23, 24, 25, 26, 27, 28] rfl rfl rfl hl.1 rfl (Nat.le_of_ble_eq_true rfl) dMo_deliver_128 ⟨(Nat.le_of_ble_eq_true rfl), (Nat.le_of_ble_eq_true rfl)⟩) hP hD hS hA [0, 1, 2, 3, 4, 5, 6, 7, 8, 9, 10, 11, 12, 13, 14, 15, 16, 17, 18, 19, 20, 21, 22, 23, 24, 25, 26, 27, 28] [] rfl rfl rfl (by decide) (fun _ H locs _ hP hD hS => ?_)
    have hP : va_P D cls_ (mW h ad ca 0 (mLink L s₀ (M 2 (12 * s₀)))) H := hP
    have hD : va_D A (mW h ad ca 0 (mLink L s₀ (M 2 (12 * s₀)))) := hD
    refine lv_goto (tgt := 192) hx hb dMo_deliver_131 rfl ?_
    refine lv_iload hx hb dMo_deliver_192 (lv_at hl 0 rfl) ?_
    have e9 : mDeliv M s₀ = mLink L s₀ (M 2 (12 * s₀)) := by rw [mDeliv, ← hLe, if_pos (by omega)]
    exact Co.reti hx hb hret hlk dMo_deliver_194 hS hP hD () rfl trivial (by first | (rw [e9]; done) | (rw [e9]; rfl)) (Nat.le_of_ble_eq_true rfl) (Nat.le_of_ble_eq_true rfl)
  · refine lv_iload hx hb dMo_deliver_118 (lv_at hl 0 rfl) ?_
    refine lv_iconst (v := nI 2) hx hb dMo_deliver_120 (by decide) ?_
    refine k_icmp_ne (tgt := 134) hx hb (by omega) (by omega) dMo_deliver_121 rfl (fun h121 => ?_) (fun h121 => ?_)
    · refine lv_aload_n hx hb dMo_deliver_134 rfl (lv_at hl 9 rfl) ?_
      refine va_get (D := D) (ci := 4) (v := .ref (ad 10)) (C := RMo) (T := TMo) (N := 29) hx hb ht inMo hown hE.1 hP 0 rfl rfl 10 (by decide) (ht _ tw_597) (fun _ h => h) rfl dMo_deliver_135 ?_
      refine lv_iload_n hx hb dMo_deliver_138 rfl (lv_at hl 10 rfl) ?_
      refine k_iald hx hb hE.1 hP 10 0 (n := 2) (g := (L 10)) rfl rfl (i := s₀) (by omega) (by decide) dMo_deliver_139 ?_
      refine lv_iconst (v := nI 2) hx hb dMo_deliver_140 (by decide) ?_
      refine k_icmp_ne (tgt := 192) hx hb (by omega) (by omega) dMo_deliver_141 rfl (fun h141 => ?_) (fun h141 => ?_)
      · refine lv_iload hx hb dMo_deliver_192 (lv_at hl 0 rfl) ?_
        have e9 : mDeliv M s₀ = L := by rw [mDeliv, ← hLe, if_neg (by omega), if_neg (by omega)]
        exact Co.reti hx hb hret hlk dMo_deliver_194 hS hP hD () rfl trivial (by first | (rw [e9]; done) | (rw [e9]; rfl)) (Nat.le_of_ble_eq_true rfl) (Nat.le_of_ble_eq_true rfl)
      · refine lv_aload_n hx hb dMo_deliver_144 rfl (lv_at hl 9 rfl) ?_
        refine lv_iload_n hx hb dMo_deliver_145 rfl (lv_at hl 10 rfl) ?_
        refine lv_iload hx hb dMo_deliver_146 (lv_at hl 6 rfl) ?_
        refine kV (rV fx (c_Mo_confirm l D ca h ad 0 L s₀ (M 4 (12 * s₀)) (by first | assumption | exact mOk.idle (by assumption) _ | exact mOk.clean (by assumption) _ | exact mOk.renew (by assumption) _ | exact (mOk.renew (by assumption) _).set 23 (show 3 < 6 by decide) | exact (mOk.renew (by assumption) _).set 23 (show 5 < 6 by decide)) (by omega) (by omega) (by assumption)) ⟨callB_of 2 hts (tb_gi tw_714) rfl rfl rfl (ht _ tw_5) (ht _ tw_711) (by decide +kernel) ⟨(Nat.le_of_ble_eq_true rfl), (Nat.le_of_ble_eq_true rfl)⟩, ht _ tw_713, ht _ tw_851⟩ hE hP hD 0 rfl rfl rfl [0, 1, 2, 3, 4, 5, 6, 7, 8, 9, 10, 11, 12, 13, 14, 15, 16, 17, 18, 19, 20, 21, 22, 23, 24, 25, 26, 27, 28] rfl rfl rfl hl.1 rfl (Nat.le_of_ble_eq_true rfl) dMo_deliver_148 ⟨(Nat.le_of_ble_eq_true rfl), (Nat.le_of_ble_eq_true rfl)⟩) hP hD hS hA [0, 1, 2, 3, 4, 5, 6, 7, 8, 9, 10, 11, 12, 13, 14, 15, 16, 17, 18, 19, 20, 21, 22, 23, 24, 25, 26, 27, 28] [] rfl rfl rfl (by decide) (fun _ H locs _ hP hD hS => ?_)
        have hP : va_P D cls_ (mW h ad ca 0 (mConf L s₀ (M 4 (12 * s₀)))) H := hP
        have hD : va_D A (mW h ad ca 0 (mConf L s₀ (M 4 (12 * s₀)))) := hD
        refine lv_iload hx hb dMo_deliver_151 (lv_at hl 0 rfl) ?_
        refine lv_iconst (v := nI 5) hx hb dMo_deliver_153 (by decide) ?_
        refine k_icmp_ne (tgt := 162) hx hb (by omega) (by omega) dMo_deliver_154 rfl (fun h154 => ?_) (fun h154 => ?_)
        · refine lv_iload hx hb dMo_deliver_162 (lv_at hl 0 rfl) ?_
          refine lv_iconst (v := nI 3) hx hb dMo_deliver_164 (by decide) ?_
          refine k_icmp_ne (tgt := 187) hx hb (by omega) (by omega) dMo_deliver_165 rfl (fun h165 => ?_) (fun h165 => ?_)
          · refine lv_aload_n hx hb dMo_deliver_187 rfl (lv_at hl 9 rfl) ?_
            refine lv_iload_n hx hb dMo_deliver_188 rfl (lv_at hl 10 rfl) ?_
            refine kV (rV fx (c_Mo_pump l D ca h ad 0 (mConf L s₀ (M 4 (12 * s₀))) s₀ _ (by first | assumption | exact mOk.idle (by assumption) _ | exact mOk.clean (by assumption) _ | exact mOk.renew (by assumption) _ | exact (mOk.renew (by assumption) _).set 23 (show 3 < 6 by decide) | exact (mOk.renew (by assumption) _).set 23 (show 5 < 6 by decide)) (by omega) rfl) ⟨callB_of 1 hts (tb_gi tw_752) rfl rfl rfl (ht _ tw_5) (ht _ tw_749) (by decide +kernel) ⟨(Nat.le_of_ble_eq_true rfl), (Nat.le_of_ble_eq_true rfl)⟩, ht _ tw_751, ht _ tw_859⟩ hE hP hD 0 rfl rfl rfl [0, 1, 2, 3, 4, 5, 6, 7, 8, 9, 10, 11, 12, 13, 14, 15, 16, 17, 18, 19, 20, 21, 22, 23, 24, 25, 26, 27, 28] rfl rfl rfl hl.1 rfl (Nat.le_of_ble_eq_true rfl) dMo_deliver_189 ⟨(Nat.le_of_ble_eq_true rfl), (Nat.le_of_ble_eq_true rfl)⟩) hP hD hS hA [0, 1, 2, 3, 4, 5, 6, 7, 8, 9, 10, 11, 12, 13, 14, 15, 16, 17, 18, 19, 20, 21, 22, 23, 24, 25, 26, 27, 28] [] rfl rfl rfl (by decide) (fun _ H locs _ hP hD hS => ?_)
            have hP : va_P D cls_ (mW h ad ca 0 (mPump 4 (mConf L s₀ (M 4 (12 * s₀))) s₀)) H := hP
            have hD : va_D A (mW h ad ca 0 (mPump 4 (mConf L s₀ (M 4 (12 * s₀))) s₀)) := hD
            refine lv_iload hx hb dMo_deliver_192 (lv_at hl 0 rfl) ?_
            have e9 : mDeliv M s₀ = mPump 4 (mConf L s₀ (M 4 (12 * s₀))) s₀ := by rw [mDeliv, ← hLe, if_neg (by omega), if_pos (by omega), if_neg (by omega), if_neg (by omega)]
            exact Co.reti hx hb hret hlk dMo_deliver_194 hS hP hD () rfl trivial (by first | (rw [e9]; done) | (rw [e9]; rfl)) (Nat.le_of_ble_eq_true rfl) (Nat.le_of_ble_eq_true rfl)
          · refine lv_aload_n hx hb dMo_deliver_168 rfl (lv_at hl 9 rfl) ?_
            refine lv_iload_n hx hb dMo_deliver_169 rfl (lv_at hl 10 rfl) ?_
            refine lv_iload_n hx hb dMo_deliver_170 rfl (lv_at hl 7 rfl) ?_
            refine lv_iload hx hb dMo_deliver_171 (lv_at hl 5 rfl) ?_
            refine lv_iload hx hb dMo_deliver_173 (lv_at hl 4 rfl) ?_
            refine lv_iload hx hb dMo_deliver_175 (lv_at hl 3 rfl) ?_
            refine lv_iload hx hb dMo_deliver_177 (lv_at hl 2 rfl) ?_
            refine lv_iload hx hb dMo_deliver_179 (lv_at hl 1 rfl) ?_
            refine kV (rV fx (c_Mo_hearCarrier l D ca h ad 0 (mConf L s₀ (M 4 (12 * s₀))) s₀ (M 3 (12 * s₀)) (M 5 (12 * s₀)) (M 6 (12 * s₀)) (M 7 (12 * s₀)) (M 8 (12 * s₀)) (M 9 (12 * s₀)) (by first | assumption | exact mOk.idle (by assumption) _ | exact mOk.clean (by assumption) _ | exact mOk.renew (by assumption) _ | exact (mOk.renew (by assumption) _).set 23 (show 3 < 6 by decide) | exact (mOk.renew (by assumption) _).set 23 (show 5 < 6 by decide)) (by omega) (by omega) (by omega) (by omega) (by omega) (by omega) (by omega) (by assumption)) ⟨callB_of 7 hts (tb_gi tw_733) rfl rfl rfl (ht _ tw_5) (ht _ tw_730) (by decide +kernel) ⟨(Nat.le_of_ble_eq_true rfl), (Nat.le_of_ble_eq_true rfl)⟩, ht _ tw_732, ht _ tw_855⟩ hE hP hD 0 rfl rfl rfl [0, 1, 2, 3, 4, 5, 6, 7, 8, 9, 10, 11, 12, 13, 14, 15, 16, 17, 18, 19, 20, 21, 22, 23, 24, 25, 26, 27, 28] rfl rfl rfl hl.1 rfl (Nat.le_of_ble_eq_true rfl) dMo_deliver_181 ⟨(Nat.le_of_ble_eq_true rfl), (Nat.le_of_ble_eq_true rfl)⟩) hP hD hS hA [0, 1, 2, 3, 4, 5, 6, 7, 8, 9, 10, 11, 12, 13, 14, 15, 16, 17, 18, 19, 20, 21, 22, 23, 24, 25, 26, 27, 28] [] rfl rfl rfl (by decide) (fun _ H locs _ hP hD hS => ?_)
            have hP : va_P D cls_ (mW h ad ca 0 (mCarr (mConf L s₀ (M 4 (12 * s₀))) s₀ (M 3 (12 * s₀)) (M 5 (12 * s₀)) (M 6 (12 * s₀)) (M 7 (12 * s₀)) (M 8 (12 * s₀)) (M 9 (12 * s₀)))) H := hP
            have hD : va_D A (mW h ad ca 0 (mCarr (mConf L s₀ (M 4 (12 * s₀))) s₀ (M 3 (12 * s₀)) (M 5 (12 * s₀)) (M 6 (12 * s₀)) (M 7 (12 * s₀)) (M 8 (12 * s₀)) (M 9 (12 * s₀)))) := hD
            refine lv_goto (tgt := 192) hx hb dMo_deliver_184 rfl ?_
            refine lv_iload hx hb dMo_deliver_192 (lv_at hl 0 rfl) ?_
            have e9 : mDeliv M s₀ = mCarr (mConf L s₀ (M 4 (12 * s₀))) s₀ (M 3 (12 * s₀)) (M 5 (12 * s₀)) (M 6 (12 * s₀)) (M 7 (12 * s₀)) (M 8 (12 * s₀)) (M 9 (12 * s₀)) := by rw [mDeliv, ← hLe, if_neg (by omega), if_pos (by omega), if_pos (by omega)]
            exact Co.reti hx hb hret hlk dMo_deliver_194 hS hP hD () rfl trivial (by first | (rw [e9]; done) | (rw [e9]; rfl)) (Nat.le_of_ble_eq_true rfl) (Nat.le_of_ble_eq_true rfl)
        · refine lv_aload_n hx hb dMo_deliver_157 rfl (lv_at hl 9 rfl) ?_
          refine lv_iload_n hx hb dMo_deliver_158 rfl (lv_at hl 10 rfl) ?_
          refine kV (rV fx (c_Mo_again l D ca h ad 0 (mConf L s₀ (M 4 (12 * s₀))) s₀ _ (by first | assumption | exact mOk.idle (by assumption) _ | exact mOk.clean (by assumption) _ | exact mOk.renew (by assumption) _ | exact (mOk.renew (by assumption) _).set 23 (show 3 < 6 by decide) | exact (mOk.renew (by assumption) _).set 23 (show 5 < 6 by decide)) (by omega) rfl) ⟨callB_of 1 hts (tb_gi tw_725) rfl rfl rfl (ht _ tw_5) (ht _ tw_722) (by decide +kernel) ⟨(Nat.le_of_ble_eq_true rfl), (Nat.le_of_ble_eq_true rfl)⟩, ht _ tw_724, ht _ tw_853⟩ hE hP hD 0 rfl rfl rfl [0, 1, 2, 3, 4, 5, 6, 7, 8, 9, 10, 11, 12, 13, 14, 15, 16, 17, 18, 19, 20, 21, 22, 23, 24, 25, 26, 27, 28] rfl rfl rfl hl.1 rfl (Nat.le_of_ble_eq_true rfl) dMo_deliver_159 ⟨(Nat.le_of_ble_eq_true rfl), (Nat.le_of_ble_eq_true rfl)⟩) hP hD hS hA [0, 1, 2, 3, 4, 5, 6, 7, 8, 9, 10, 11, 12, 13, 14, 15, 16, 17, 18, 19, 20, 21, 22, 23, 24, 25, 26, 27, 28] [] rfl rfl rfl (by decide) (fun _ H locs _ hP hD hS => ?_)
          have hP : va_P D cls_ (mW h ad ca 0 (mAgain (mConf L s₀ (M 4 (12 * s₀))) s₀)) H := hP
          have hD : va_D A (mW h ad ca 0 (mAgain (mConf L s₀ (M 4 (12 * s₀))) s₀)) := hD
          refine lv_iload hx hb dMo_deliver_162 (lv_at hl 0 rfl) ?_
          refine lv_iconst (v := nI 3) hx hb dMo_deliver_164 (by decide) ?_
          refine k_icmp_ne (tgt := 187) hx hb (by omega) (by omega) dMo_deliver_165 rfl (fun h165 => ?_) (fun hz => absurd hz (by omega))
          refine lv_aload_n hx hb dMo_deliver_187 rfl (lv_at hl 9 rfl) ?_
          refine lv_iload_n hx hb dMo_deliver_188 rfl (lv_at hl 10 rfl) ?_
          refine kV (rV fx (c_Mo_pump l D ca h ad 0 (mAgain (mConf L s₀ (M 4 (12 * s₀))) s₀) s₀ _ (by first | assumption | exact mOk.idle (by assumption) _ | exact mOk.clean (by assumption) _ | exact mOk.renew (by assumption) _ | exact (mOk.renew (by assumption) _).set 23 (show 3 < 6 by decide) | exact (mOk.renew (by assumption) _).set 23 (show 5 < 6 by decide)) (by omega) rfl) ⟨callB_of 1 hts (tb_gi tw_752) rfl rfl rfl (ht _ tw_5) (ht _ tw_749) (by decide +kernel) ⟨(Nat.le_of_ble_eq_true rfl), (Nat.le_of_ble_eq_true rfl)⟩, ht _ tw_751, ht _ tw_859⟩ hE hP hD 0 rfl rfl rfl [0, 1, 2, 3, 4, 5, 6, 7, 8, 9, 10, 11, 12, 13, 14, 15, 16, 17, 18, 19, 20, 21, 22, 23, 24, 25, 26, 27, 28] rfl rfl rfl hl.1 rfl (Nat.le_of_ble_eq_true rfl) dMo_deliver_189 ⟨(Nat.le_of_ble_eq_true rfl), (Nat.le_of_ble_eq_true rfl)⟩) hP hD hS hA [0, 1, 2, 3, 4, 5, 6, 7, 8, 9, 10, 11, 12, 13, 14, 15, 16, 17, 18, 19, 20, 21, 22, 23, 24, 25, 26, 27, 28] [] rfl rfl rfl (by decide) (fun _ H locs _ hP hD hS => ?_)
          have hP : va_P D cls_ (mW h ad ca 0 (mPump 4 (mAgain (mConf L s₀ (M 4 (12 * s₀))) s₀) s₀)) H := hP
          have hD : va_D A (mW h ad ca 0 (mPump 4 (mAgain (mConf L s₀ (M 4 (12 * s₀))) s₀) s₀)) := hD
          refine lv_iload hx hb dMo_deliver_192 (lv_at hl 0 rfl) ?_
          have e9 : mDeliv M s₀ = mPump 4 (mAgain (mConf L s₀ (M 4 (12 * s₀))) s₀) s₀ := by rw [mDeliv, ← hLe, if_neg (by omega), if_pos (by omega), if_neg (by omega), if_pos (by omega)]
          exact Co.reti hx hb hret hlk dMo_deliver_194 hS hP hD () rfl trivial (by first | (rw [e9]; done) | (rw [e9]; rfl)) (Nat.le_of_ble_eq_true rfl) (Nat.le_of_ble_eq_true rfl)
    · refine lv_aload_n hx hb dMo_deliver_124 rfl (lv_at hl 9 rfl) ?_
      refine lv_iload_n hx hb dMo_deliver_125 rfl (lv_at hl 10 rfl) ?_
      refine lv_iload hx hb dMo_deliver_126 (lv_at hl 0 rfl) ?_
      refine kV (rV fx (c_Mo_hearLink l D ca h ad 0 L s₀ (M 2 (12 * s₀)) (by first | assumption | exact mOk.idle (by assumption) _ | exact mOk.clean (by assumption) _ | exact mOk.renew (by assumption) _ | exact (mOk.renew (by assumption) _).set 23 (show 3 < 6 by decide) | exact (mOk.renew (by assumption) _).set 23 (show 5 < 6 by decide)) (by omega) (by omega)) ⟨callB_of 2 hts (tb_gi tw_694) rfl rfl rfl (ht _ tw_5) (ht _ tw_691) (by decide +kernel) ⟨(Nat.le_of_ble_eq_true rfl), (Nat.le_of_ble_eq_true rfl)⟩, ht _ tw_693, ht _ tw_846⟩ hE hP hD 0 rfl rfl rfl [0, 1, 2, 3, 4, 5, 6, 7, 8, 9, 10, 11, 12, 13, 14, 15, 16, 17, 18, 19, 20, 21, 22, 23, 24, 25, 26, 27, 28] rfl rfl rfl hl.1 rfl (Nat.le_of_ble_eq_true rfl) dMo_deliver_128 ⟨(Nat.le_of_ble_eq_true rfl), (Nat.le_of_ble_eq_true rfl)⟩) hP hD hS hA [0, 1, 2, 3, 4, 5, 6, 7, 8, 9, 10, 11, 12, 13, 14, 15, 16, 17, 18, 19, 20, 21, 22, 23, 24, 25, 26, 27, 28] [] rfl rfl rfl (by decide) (fun _ H locs _ hP hD hS => ?_)
      have hP : va_P D cls_ (mW h ad ca 0 (mLink L s₀ (M 2 (12 * s₀)))) H := hP
      have hD : va_D A (mW h ad ca 0 (mLink L s₀ (M 2 (12 * s₀)))) := hD
      refine lv_goto (tgt := 192) hx hb dMo_deliver_131 rfl ?_
      refine lv_iload hx hb dMo_deliver_192 (lv_at hl 0 rfl) ?_
      have e9 : mDeliv M s₀ = mLink L s₀ (M 2 (12 * s₀)) := by rw [mDeliv, ← hLe, if_pos (by omega)]
      exact Co.reti hx hb hret hlk dMo_deliver_194 hS hP hD () rfl trivial (by first | (rw [e9]; done) | (rw [e9]; rfl)) (Nat.le_of_ble_eq_true rfl) (Nat.le_of_ble_eq_true rfl)
set_option maxHeartbeats 4000000 in
set_option maxRecDepth 100000 in
theorem c_Mo_deliverE (l : Launch) (D : va_G) (ca : Nat → ClassId) (h : Nat) (ad : Nat → Nat) (co : Nat) (M : Nat → Nat → Nat) (s₀ : Nat) (hs : s₀ < 2) (h0 : M 1 s₀ = 0) : Co (S := Unit) l yMo_deliver (Cond.code yMo_deliver cMo_deliver 11 (some FieldType.int) :: tb_) { frames := 7, cells := 0, slots := 0, locals := 224 } D ca [.ref h, .int (nI s₀)] (mW h ad ca co M) (fun _ => some (.int (nI 0))) (fun _ => True) (fun _ => (mW h ad ca 2 M)) 0 0 := by
  refine Co.of cMo_deliver 11 (some FieldType.int) (by decide) (Nat.le_of_ble_eq_true rfl) ?_
  intro p e s m args below meth c A ls fx hret hlk hin hE hP hD hS hA hl
  have hx := fx.1
  have hb := fx.2.1
  have hown : s.vm.findClass RMo = some m.cls := fx.2.2.2.1
  have hts := fx.2.2.2.2
  have ht : ∀ w ∈ tb_, w.before args s = true := fun w h => hts w (List.mem_cons_of_mem _ h)
  have hl : lv_has ls 11 [(0, .ref h), (1, .int (nI s₀))] := hl
  refine lv_aload_n hx hb dMo_deliver_0 rfl (lv_at hl 0 rfl) ?_
  refine lv_iload_n hx hb dMo_deliver_1 rfl (lv_at hl 1 rfl) ?_
  refine kI (rS fx (c_Mo_station l D ca s₀ (by omega)) ⟨callB_of 1 hts (tb_gi tw_686) rfl rfl rfl (ht _ tw_5) (ht _ tw_684) (by decide +kernel) ⟨(Nat.le_of_ble_eq_true rfl), (Nat.le_of_ble_eq_true rfl)⟩, ht _ tw_685⟩ hE hP hD [] rfl rfl rfl hl.1 rfl (Nat.le_of_ble_eq_true rfl) dMo_deliver_2 ⟨(Nat.le_of_ble_eq_true rfl), (Nat.le_of_ble_eq_true rfl)⟩) hP hD hS hA [] [0, 1, 2, 3, 4, 5, 6, 7, 8, 9, 10, 11, 12, 13, 14, 15, 16, 17, 18, 19, 20, 21, 22, 23, 24, 25, 26, 27, 28] rfl rfl rfl (by decide) (fun _ H locs _ hP hD hS => ?_)
  have hP : va_P D cls_ (mW h ad ca co M) H := hP
  have hD : va_D A (mW h ad ca co M) := hD
  refine k_if_ne (tgt := 12) hx hb (by omega) dMo_deliver_5 rfl (fun h5 => ?_) (fun hz => absurd hz (by omega))
  refine lv_aload_n hx hb dMo_deliver_12 rfl (lv_at hl 0 rfl) ?_
  refine va_get (D := D) (ci := 4) (v := .ref (ad 1)) (C := RMo) (T := TMo) (N := 29) hx hb ht inMo hown hE.1 hP 0 rfl rfl 1 (by decide) (ht _ tw_588) (fun _ h => h) rfl dMo_deliver_13 ?_
  refine lv_iload_n hx hb dMo_deliver_16 rfl (lv_at hl 1 rfl) ?_
  refine k_iald hx hb hE.1 hP 1 0 (n := 2) (g := (M 1)) rfl rfl (i := s₀) (by omega) (by decide) dMo_deliver_17 ?_
  refine k_if_ne (tgt := 25) hx hb (by omega) dMo_deliver_18 rfl (fun hz => absurd hz (by omega)) (fun h18 => ?_)
  refine lv_iconst (v := nI 2) hx hb dMo_deliver_21 (by decide) ?_
  refine lv_goto (tgt := 26) hx hb dMo_deliver_22 rfl ?_
  refine va_put (D := D) (ci := 4) (v := .int (nI 2)) (ty := .int) (C := RMo) (T := TMo) (N := 29) hx hb ht inMo tyMo tyMo_ok nmMo hown hE.1 hP hD hS 0 rfl rfl 0 (by decide) (ht _ tw_587) (fun _ h => h) rfl (by decide +kernel) rfl rfl (Nat.le_of_ble_eq_true rfl) dMo_deliver_26 (fun H locs hP hD hS => ?_)
  have hP : va_P D cls_ (mW h ad ca 2 M) H := hP
  have hD : va_D A (mW h ad ca 2 M) := hD
  refine lv_aload_n hx hb dMo_deliver_29 rfl (lv_at hl 0 rfl) ?_
  refine va_get (D := D) (ci := 4) (v := .int (nI 2)) (C := RMo) (T := TMo) (N := 29) hx hb ht inMo hown hE.1 hP 0 rfl rfl 0 (by decide) (ht _ tw_587) (fun _ h => h) rfl dMo_deliver_30 ?_
  refine k_if_le (tgt := 38) hx hb (by omega) dMo_deliver_33 rfl (fun hz => absurd hz (by omega)) (fun h33 => ?_)
  refine lv_iconst (v := nI 0) hx hb dMo_deliver_36 (by decide) ?_
  exact Co.reti hx hb hret hlk dMo_deliver_37 hS hP hD () rfl trivial rfl (Nat.le_of_ble_eq_true rfl) (Nat.le_of_ble_eq_true rfl)
set_option maxHeartbeats 4000000 in
set_option maxRecDepth 100000 in
theorem c_Mo_deliverX (l : Launch) (D : va_G) (ca : Nat → ClassId) (h : Nat) (ad : Nat → Nat) (co : Nat) (M : Nat → Nat → Nat) (x₀ : Int32) (hx0 : ¬ x₀ = 0) (hx1 : ¬ x₀ = nI 1) : Co (S := Unit) l yMo_deliver (Cond.code yMo_deliver cMo_deliver 11 (some FieldType.int) :: tb_) { frames := 7, cells := 0, slots := 0, locals := 224 } D ca [.ref h, .int x₀] (mW h ad ca co M) (fun _ => some (.int (nI 0))) (fun _ => True) (fun _ => (mW h ad ca 1 M)) 0 0 := by
  refine Co.of cMo_deliver 11 (some FieldType.int) (by decide) (Nat.le_of_ble_eq_true rfl) ?_
  intro p e s m args below meth c A ls fx hret hlk hin hE hP hD hS hA hl
  have hx := fx.1
  have hb := fx.2.1
  have hown : s.vm.findClass RMo = some m.cls := fx.2.2.2.1
  have hts := fx.2.2.2.2
  have ht : ∀ w ∈ tb_, w.before args s = true := fun w h => hts w (List.mem_cons_of_mem _ h)
  have hl : lv_has ls 11 [(0, .ref h), (1, .int x₀)] := hl
  refine lv_aload_n hx hb dMo_deliver_0 rfl (lv_at hl 0 rfl) ?_
  refine lv_iload_n hx hb dMo_deliver_1 rfl (lv_at hl 1 rfl) ?_
  refine kI (rS fx (c_Mo_stationX l D ca x₀ hx0 hx1) ⟨callB_of 1 hts (tb_gi tw_686) rfl rfl rfl (ht _ tw_5) (ht _ tw_684) (by decide +kernel) ⟨(Nat.le_of_ble_eq_true rfl), (Nat.le_of_ble_eq_true rfl)⟩, ht _ tw_685⟩ hE hP hD [] rfl rfl rfl hl.1 rfl (Nat.le_of_ble_eq_true rfl) dMo_deliver_2 ⟨(Nat.le_of_ble_eq_true rfl), (Nat.le_of_ble_eq_true rfl)⟩) hP hD hS hA [] [0, 1, 2, 3, 4, 5, 6, 7, 8, 9, 10, 11, 12, 13, 14, 15, 16, 17, 18, 19, 20, 21, 22, 23, 24, 25, 26, 27, 28] rfl rfl rfl (by decide) (fun _ H locs _ hP hD hS => ?_)
  have hP : va_P D cls_ (mW h ad ca co M) H := hP
  have hD : va_D A (mW h ad ca co M) := hD
  refine k_if_ne (tgt := 12) hx hb (by omega) dMo_deliver_5 rfl (fun hz => absurd hz (by omega)) (fun h5 => ?_)
  refine lv_iconst (v := nI 1) hx hb dMo_deliver_8 (by decide) ?_
  refine lv_goto (tgt := 26) hx hb dMo_deliver_9 rfl ?_
  refine va_put (D := D) (ci := 4) (v := .int (nI 1)) (ty := .int) (C := RMo) (T := TMo) (N := 29) hx hb ht inMo tyMo tyMo_ok nmMo hown hE.1 hP hD hS 0 rfl rfl 0 (by decide) (ht _ tw_587) (fun _ h => h) rfl (by decide +kernel) rfl rfl (Nat.le_of_ble_eq_true rfl) dMo_deliver_26 (fun H locs hP hD hS => ?_)
  have hP : va_P D cls_ (mW h ad ca 1 M) H := hP
  have hD : va_D A (mW h ad ca 1 M) := hD
  refine lv_aload_n hx hb dMo_deliver_29 rfl (lv_at hl 0 rfl) ?_
  refine va_get (D := D) (ci := 4) (v := .int (nI 1)) (C := RMo) (T := TMo) (N := 29) hx hb ht inMo hown hE.1 hP 0 rfl rfl 0 (by decide) (ht _ tw_587) (fun _ h => h) rfl dMo_deliver_30 ?_
  refine k_if_le (tgt := 38) hx hb (by omega) dMo_deliver_33 rfl (fun hz => absurd hz (by omega)) (fun h33 => ?_)
  refine lv_iconst (v := nI 0) hx hb dMo_deliver_36 (by decide) ?_
  exact Co.reti hx hb hret hlk dMo_deliver_37 hS hP hD () rfl trivial rfl (Nat.le_of_ble_eq_true rfl) (Nat.le_of_ble_eq_true rfl)
set_option maxHeartbeats 4000000 in
set_option maxRecDepth 100000 in
theorem c_Mo_hand (l : Launch) (D : va_G) (ca : Nat → ClassId) (h : Nat) (ad : Nat → Nat) (co : Nat) (M : Nat → Nat → Nat) (s₀ cn : Nat) (hM : mOk M) (hs : s₀ < 2) (hc : cn < 3) (kd nb ak : Nat) (hk0 : 0 < kd) (hk9 : kd < 9) (hnb : nb < 8) (ha : ak < 8) (hdt : ds (M 27 (3 * s₀ + cn)) (M 26 (3 * s₀ + cn)) ≤ 2) : Co (S := Unit) l yMo_hand (Cond.code yMo_hand cMo_hand 6 (some FieldType.boolean) :: tb_) { frames := 6, cells := 0, slots := 0, locals := 192 } D ca [.ref h, .int (nI s₀), .int (nI cn), .int (nI kd), .int (nI nb), .int (nI ak)] (mW h ad ca co M) (fun _ => some (.int (nI 1))) (fun _ => True) (fun _ => (mW h ad ca 0 (mHear M s₀ cn kd nb ak 0))) 0 0 := by
  refine Co.of cMo_hand 6 (some FieldType.boolean) (by decide) (Nat.le_of_ble_eq_true rfl) ?_
  intro p e s m args below meth c A ls fx hret hlk hin hE hP hD hS hA hl
  have hx := fx.1
  have hb := fx.2.1
  have hown : s.vm.findClass RMo = some m.cls := fx.2.2.2.1
  have hts := fx.2.2.2.2
  have ht : ∀ w ∈ tb_, w.before args s = true := fun w h => hts w (List.mem_cons_of_mem _ h)
  have hl : lv_has ls 6 [(0, .ref h), (1, .int (nI s₀)), (2, .int (nI cn)), (3, .int (nI kd)), (4, .int (nI nb)), (5, .int (nI ak))] := hl
  refine lv_aload_n hx hb dMo_hand_0 rfl (lv_at hl 0 rfl) ?_
  refine lv_iload_n hx hb dMo_hand_1 rfl (lv_at hl 1 rfl) ?_
  refine lv_iload_n hx hb dMo_hand_2 rfl (lv_at hl 2 rfl) ?_
  refine kI (rS fx (c_Mo_channelOf l D ca s₀ cn (by omega) (by omega)) ⟨callB_of 2 hts (tb_gi tw_767) rfl rfl rfl (ht _ tw_5) (ht _ tw_765) (by decide +kernel) ⟨(Nat.le_of_ble_eq_true rfl), (Nat.le_of_ble_eq_true rfl)⟩, ht _ tw_766⟩ hE hP hD [] rfl rfl rfl hl.1 rfl (Nat.le_of_ble_eq_true rfl) dMo_hand_3 ⟨(Nat.le_of_ble_eq_true rfl), (Nat.le_of_ble_eq_true rfl)⟩) hP hD hS hA [] [0, 1, 2, 3, 4, 5, 6, 7, 8, 9, 10, 11, 12, 13, 14, 15, 16, 17, 18, 19, 20, 21, 22, 23, 24, 25, 26, 27, 28] rfl rfl rfl (by decide) (fun _ H locs _ hP hD hS => ?_)
  have hP : va_P D cls_ (mW h ad ca co M) H := hP
  have hD : va_D A (mW h ad ca co M) := hD
  refine k_if_eq (tgt := 13) hx hb (by omega) dMo_hand_6 rfl (fun hz => absurd hz (by omega)) (fun h6 => ?_)
  refine lv_iconst (v := nI 0) hx hb dMo_hand_9 (by decide) ?_
  refine lv_goto (tgt := 14) hx hb dMo_hand_10 rfl ?_
  refine va_put (D := D) (ci := 4) (v := .int (nI 0)) (ty := .int) (C := RMo) (T := TMo) (N := 29) hx hb ht inMo tyMo tyMo_ok nmMo hown hE.1 hP hD hS 0 rfl rfl 0 (by decide) (ht _ tw_587) (fun _ h => h) rfl (by decide +kernel) rfl rfl (Nat.le_of_ble_eq_true rfl) dMo_hand_14 (fun H locs hP hD hS => ?_)
  have hP : va_P D cls_ (mW h ad ca 0 M) H := hP
  have hD : va_D A (mW h ad ca 0 M) := hD
  refine lv_aload_n hx hb dMo_hand_17 rfl (lv_at hl 0 rfl) ?_
  refine va_get (D := D) (ci := 4) (v := .int (nI 0)) (C := RMo) (T := TMo) (N := 29) hx hb ht inMo hown hE.1 hP 0 rfl rfl 0 (by decide) (ht _ tw_587) (fun _ h => h) rfl dMo_hand_18 ?_
  refine k_if_gt (tgt := 59) hx hb (by omega) dMo_hand_21 rfl (fun hz => absurd hz (by omega)) (fun h21 => ?_)
  refine lv_iload_n hx hb dMo_hand_24 rfl (lv_at hl 3 rfl) ?_
  refine lv_iconst (v := nI 1) hx hb dMo_hand_25 (by decide) ?_
  refine k_icmp_lt (tgt := 59) hx hb (by omega) (by omega) dMo_hand_26 rfl (fun hz => absurd hz (by omega)) (fun h26 => ?_)
  refine lv_iload_n hx hb dMo_hand_29 rfl (lv_at hl 3 rfl) ?_
  refine lv_bipush (v := nI 8) hx hb dMo_hand_30 (by decide) ?_
  refine k_icmp_gt (tgt := 59) hx hb (by omega) (by omega) dMo_hand_32 rfl (fun hz => absurd hz (by omega)) (fun h32 => ?_)
  refine lv_iload hx hb dMo_hand_35 (lv_at hl 4 rfl) ?_
  refine k_if_lt (tgt := 59) hx hb (by omega) dMo_hand_37 rfl ?_
  refine lv_iload hx hb dMo_hand_40 (lv_at hl 4 rfl) ?_
  refine lv_bipush (v := nI 7) hx hb dMo_hand_42 (by decide) ?_
  refine k_icmp_gt (tgt := 59) hx hb (by omega) (by omega) dMo_hand_44 rfl (fun hz => absurd hz (by omega)) (fun h44 => ?_)
  refine lv_iload hx hb dMo_hand_47 (lv_at hl 5 rfl) ?_
  refine k_if_lt (tgt := 59) hx hb (by omega) dMo_hand_49 rfl ?_
  refine lv_iload hx hb dMo_hand_52 (lv_at hl 5 rfl) ?_
  refine lv_bipush (v := nI 7) hx hb dMo_hand_54 (by decide) ?_
  refine k_icmp_le (tgt := 61) hx hb (by omega) (by omega) dMo_hand_56 rfl (fun h56 => ?_) (fun hz => absurd hz (by omega))
  refine lv_aload_n hx hb dMo_hand_61 rfl (lv_at hl 0 rfl) ?_
  refine lv_iload_n hx hb dMo_hand_62 rfl (lv_at hl 1 rfl) ?_
  refine lv_iload_n hx hb dMo_hand_63 rfl (lv_at hl 2 rfl) ?_
  refine lv_iload_n hx hb dMo_hand_64 rfl (lv_at hl 3 rfl) ?_
  refine lv_iload hx hb dMo_hand_65 (lv_at hl 4 rfl) ?_
  refine lv_iload hx hb dMo_hand_67 (lv_at hl 5 rfl) ?_
  refine lv_iconst (v := nI 0) hx hb dMo_hand_69 (by decide) ?_
  refine kV (rV fx (c_Mo_hear l D ca h ad 0 M s₀ cn kd nb ak 0 (by first | assumption | exact mOk.idle (by assumption) _ | exact mOk.clean (by assumption) _ | exact mOk.renew (by assumption) _ | exact (mOk.renew (by assumption) _).set 23 (show 3 < 6 by decide) | exact (mOk.renew (by assumption) _).set 23 (show 5 < 6 by decide)) (by omega) (by omega) (by omega) (by omega) (by omega) (by omega) (by assumption)) ⟨callB_of 6 hts (tb_gi tw_740) rfl rfl rfl (ht _ tw_5) (ht _ tw_737) (by decide +kernel) ⟨(Nat.le_of_ble_eq_true rfl), (Nat.le_of_ble_eq_true rfl)⟩, ht _ tw_739, ht _ tw_856⟩ hE hP hD 0 rfl rfl rfl [0, 1, 2, 3, 4, 5, 6, 7, 8, 9, 10, 11, 12, 13, 14, 15, 16, 17, 18, 19, 20, 21, 22, 23, 24, 25, 26, 27, 28] rfl rfl rfl hl.1 rfl (Nat.le_of_ble_eq_true rfl) dMo_hand_70 ⟨(Nat.le_of_ble_eq_true rfl), (Nat.le_of_ble_eq_true rfl)⟩) hP hD hS hA [0, 1, 2, 3, 4, 5, 6, 7, 8, 9, 10, 11, 12, 13, 14, 15, 16, 17, 18, 19, 20, 21, 22, 23, 24, 25, 26, 27, 28] [] rfl rfl rfl (by decide) (fun _ H locs _ hP hD hS => ?_)
  have hP : va_P D cls_ (mW h ad ca 0 (mHear M s₀ cn kd nb ak 0)) H := hP
  have hD : va_D A (mW h ad ca 0 (mHear M s₀ cn kd nb ak 0)) := hD
  refine lv_iconst (v := nI 1) hx hb dMo_hand_73 (by decide) ?_
  exact Co.retz hx hb hret hlk (by first | rfl | decide) dMo_hand_74 hS hP hD () rfl trivial rfl (Nat.le_of_ble_eq_true rfl) (Nat.le_of_ble_eq_true rfl)
set_option maxHeartbeats 4000000 in
set_option maxRecDepth 100000 in
theorem c_Mo_expire (l : Launch) (D : va_G) (ca : Nat → ClassId) (h : Nat) (ad : Nat → Nat) (co : Nat) (M : Nat → Nat → Nat) (s₀ : Nat) (hM : mOk M) (hs : s₀ < 2) (htr : M 14 s₀ < 4) (hw : M 10 s₀ = 1 ∨ (M 10 s₀ = 2 ∧ 0 < mUn M s₀)) : Co (S := Unit) l yMo_expire (Cond.code yMo_expire cMo_expire 3 (some FieldType.int) :: tb_) { frames := 3, cells := 0, slots := 0, locals := 96 } D ca [.ref h, .int (nI s₀)] (mW h ad ca co M) (fun _ => some (.int (nI (M 14 s₀ + 1)))) (fun _ => True) (fun _ => (mW h ad ca 0 (mExp M s₀))) 0 0 := by
  refine Co.of cMo_expire 3 (some FieldType.int) (by decide) (Nat.le_of_ble_eq_true rfl) ?_
  intro p e s m args below meth c A ls fx hret hlk hin hE hP hD hS hA hl
  have hx := fx.1
  have hb := fx.2.1
  have hown : s.vm.findClass RMo = some m.cls := fx.2.2.2.1
  have hts := fx.2.2.2.2
  have ht : ∀ w ∈ tb_, w.before args s = true := fun w h => hts w (List.mem_cons_of_mem _ h)
  have b1 : M 10 s₀ < 3 := hM 10 _
  have b2 : mUn M s₀ < 8 := ds_lt _ _
  have hM1 : mOk (mS M 14 s₀ (M 14 s₀ + 1)) := hM.set 14 (show _ < 5 by omega)
  have hl : lv_has ls 3 [(0, .ref h), (1, .int (nI s₀))] := hl
  refine lv_aload_n hx hb dMo_expire_0 rfl (lv_at hl 0 rfl) ?_
  refine lv_iload_n hx hb dMo_expire_1 rfl (lv_at hl 1 rfl) ?_
  refine kI (rS fx (c_Mo_station l D ca s₀ (by omega)) ⟨callB_of 1 hts (tb_gi tw_686) rfl rfl rfl (ht _ tw_5) (ht _ tw_684) (by decide +kernel) ⟨(Nat.le_of_ble_eq_true rfl), (Nat.le_of_ble_eq_true rfl)⟩, ht _ tw_685⟩ hE hP hD [] rfl rfl rfl hl.1 rfl (Nat.le_of_ble_eq_true rfl) dMo_expire_2 ⟨(Nat.le_of_ble_eq_true rfl), (Nat.le_of_ble_eq_true rfl)⟩) hP hD hS hA [] [0, 1, 2, 3, 4, 5, 6, 7, 8, 9, 10, 11, 12, 13, 14, 15, 16, 17, 18, 19, 20, 21, 22, 23, 24, 25, 26, 27, 28] rfl rfl rfl (by decide) (fun _ H locs _ hP hD hS => ?_)
  have hP : va_P D cls_ (mW h ad ca co M) H := hP
  have hD : va_D A (mW h ad ca co M) := hD
  refine k_if_ne (tgt := 12) hx hb (by omega) dMo_expire_5 rfl (fun h5 => ?_) (fun hz => absurd hz (by omega))
  refine lv_aload_n hx hb dMo_expire_12 rfl (lv_at hl 0 rfl) ?_
  refine va_get (D := D) (ci := 4) (v := .ref (ad 10)) (C := RMo) (T := TMo) (N := 29) hx hb ht inMo hown hE.1 hP 0 rfl rfl 10 (by decide) (ht _ tw_597) (fun _ h => h) rfl dMo_expire_13 ?_
  refine lv_iload_n hx hb dMo_expire_16 rfl (lv_at hl 1 rfl) ?_
  refine k_iald hx hb hE.1 hP 10 0 (n := 2) (g := (M 10)) rfl rfl (i := s₀) (by omega) (by decide) dMo_expire_17 ?_
  refine k_if_eq (tgt := 39) hx hb (by omega) dMo_expire_18 rfl (fun hz => absurd hz (by omega)) (fun h18 => ?_)
  refine lv_aload_n hx hb dMo_expire_21 rfl (lv_at hl 0 rfl) ?_
  refine va_get (D := D) (ci := 4) (v := .ref (ad 10)) (C := RMo) (T := TMo) (N := 29) hx hb ht inMo hown hE.1 hP 0 rfl rfl 10 (by decide) (ht _ tw_597) (fun _ h => h) rfl dMo_expire_22 ?_
  refine lv_iload_n hx hb dMo_expire_25 rfl (lv_at hl 1 rfl) ?_
  refine k_iald hx hb hE.1 hP 10 0 (n := 2) (g := (M 10)) rfl rfl (i := s₀) (by omega) (by decide) dMo_expire_26 ?_
  refine lv_iconst (v := nI 2) hx hb dMo_expire_27 (by decide) ?_
  refine k_icmp_ne (tgt := 43) hx hb (by omega) (by omega) dMo_expire_28 rfl (fun h28 => ?_) (fun h28 => ?_)
  · refine lv_iconst (v := nI 0) hx hb dMo_expire_43 (by decide) ?_
    refine va_put (D := D) (ci := 4) (v := .int (nI 0)) (ty := .int) (C := RMo) (T := TMo) (N := 29) hx hb ht inMo tyMo tyMo_ok nmMo hown hE.1 hP hD hS 0 rfl rfl 0 (by decide) (ht _ tw_587) (fun _ h => h) rfl (by decide +kernel) rfl rfl (Nat.le_of_ble_eq_true rfl) dMo_expire_44 (fun H locs hP hD hS => ?_)
    have hP : va_P D cls_ (mW h ad ca 0 M) H := hP
    have hD : va_D A (mW h ad ca 0 M) := hD
    refine lv_aload_n hx hb dMo_expire_47 rfl (lv_at hl 0 rfl) ?_
    refine va_get (D := D) (ci := 4) (v := .int (nI 0)) (C := RMo) (T := TMo) (N := 29) hx hb ht inMo hown hE.1 hP 0 rfl rfl 0 (by decide) (ht _ tw_587) (fun _ h => h) rfl dMo_expire_48 ?_
    refine k_if_le (tgt := 56) hx hb (by omega) dMo_expire_51 rfl (fun h51 => ?_) (fun hz => absurd hz (by omega))
    refine lv_aload_n hx hb dMo_expire_56 rfl (lv_at hl 0 rfl) ?_
    refine va_get (D := D) (ci := 4) (v := .ref (ad 14)) (C := RMo) (T := TMo) (N := 29) hx hb ht inMo hown hE.1 hP 0 rfl rfl 14 (by decide) (ht _ tw_601) (fun _ h => h) rfl dMo_expire_57 ?_
    refine lv_iload_n hx hb dMo_expire_60 rfl (lv_at hl 1 rfl) ?_
    refine lv_aload_n hx hb dMo_expire_61 rfl (lv_at hl 0 rfl) ?_
    refine va_get (D := D) (ci := 4) (v := .ref (ad 14)) (C := RMo) (T := TMo) (N := 29) hx hb ht inMo hown hE.1 hP 0 rfl rfl 14 (by decide) (ht _ tw_601) (fun _ h => h) rfl dMo_expire_62 ?_
    refine lv_iload_n hx hb dMo_expire_65 rfl (lv_at hl 1 rfl) ?_
    refine k_iald hx hb hE.1 hP 14 0 (n := 2) (g := (M 14)) rfl rfl (i := s₀) (by omega) (by decide) dMo_expire_66 ?_
    refine lv_iconst (v := nI 1) hx hb dMo_expire_67 (by decide) ?_
    refine k_iadd hx hb dMo_expire_68 ?_
    refine k_iast hx hb hE.1 hP hD hS 14 0 (n := 2) (g := (M 14)) rfl rfl (i := s₀) (x := ((M 14 s₀) + 1)) (by omega) (by decide) dMo_expire_69 (fun H locs hP hD hS => ?_)
    rw [mo_set_14] at hP hD
    refine lv_aload_n hx hb dMo_expire_70 rfl (lv_at hl 0 rfl) ?_
    refine va_get (D := D) (ci := 4) (v := .ref (ad 14)) (C := RMo) (T := TMo) (N := 29) hx hb ht inMo hown hE.1 hP 0 rfl rfl 14 (by decide) (ht _ tw_601) (fun _ h => h) rfl dMo_expire_71 ?_
    refine lv_iload_n hx hb dMo_expire_74 rfl (lv_at hl 1 rfl) ?_
    refine k_iald hx hb hE.1 hP 14 0 (n := 2) (g := ((mS M 14 s₀ ((M 14 s₀) + 1)) 14)) rfl rfl (i := s₀) (by omega) (by decide) dMo_expire_75 ?_
    refine k_is (y := nI (M 14 s₀ + 1)) (by rw [mS_same, va_up_self]) ?_
    refine lv_istore_n hx hb dMo_expire_76 rfl hl (by decide) rfl (fun ls hl => ?_)
    have hl : lv_has ls 3 [(2, .int (nI (M 14 s₀ + 1))), (0, .ref h), (1, .int (nI s₀))] := hl
    refine lv_iload_n hx hb dMo_expire_77 rfl (lv_at hl 0 rfl) ?_
    refine lv_iconst (v := nI 4) hx hb dMo_expire_78 (by decide) ?_
    refine k_icmp_ne (tgt := 117) hx hb (by omega) (by omega) dMo_expire_79 rfl (fun h79 => ?_) (fun h79 => ?_)
    · refine lv_aload_n hx hb dMo_expire_117 rfl (lv_at hl 1 rfl) ?_
      refine va_get (D := D) (ci := 4) (v := .ref (ad 10)) (C := RMo) (T := TMo) (N := 29) hx hb ht inMo hown hE.1 hP 0 rfl rfl 10 (by decide) (ht _ tw_597) (fun _ h => h) rfl dMo_expire_118 ?_
      refine lv_iload_n hx hb dMo_expire_121 rfl (lv_at hl 2 rfl) ?_
      refine k_iald hx hb hE.1 hP 10 0 (n := 2) (g := (M 10)) rfl rfl (i := s₀) (by omega) (by decide) dMo_expire_122 ?_
      refine lv_iconst (v := nI 1) hx hb dMo_expire_123 (by decide) ?_
      refine k_icmp_ne (tgt := 139) hx hb (by omega) (by omega) dMo_expire_124 rfl (fun h124 => ?_) (fun h124 => ?_)
      · refine lv_aload_n hx hb dMo_expire_139 rfl (lv_at hl 1 rfl) ?_
        refine lv_iload_n hx hb dMo_expire_140 rfl (lv_at hl 2 rfl) ?_
        refine kV (rV fx (c_Mo_again l D ca h ad 0 (mS M 14 s₀ ((M 14 s₀) + 1)) s₀ _ (by first | assumption | exact mOk.idle (by assumption) _ | exact mOk.clean (by assumption) _ | exact mOk.renew (by assumption) _ | exact (mOk.renew (by assumption) _).set 23 (show 3 < 6 by decide) | exact (mOk.renew (by assumption) _).set 23 (show 5 < 6 by decide)) (by omega) rfl) ⟨callB_of 1 hts (tb_gi tw_725) rfl rfl rfl (ht _ tw_5) (ht _ tw_722) (by decide +kernel) ⟨(Nat.le_of_ble_eq_true rfl), (Nat.le_of_ble_eq_true rfl)⟩, ht _ tw_724, ht _ tw_853⟩ hE hP hD 0 rfl rfl rfl [0, 1, 2, 3, 4, 5, 6, 7, 8, 9, 10, 11, 12, 13, 14, 15, 16, 17, 18, 19, 20, 21, 22, 23, 24, 25, 26, 27, 28] rfl rfl rfl hl.1 rfl (Nat.le_of_ble_eq_true rfl) dMo_expire_141 ⟨(Nat.le_of_ble_eq_true rfl), (Nat.le_of_ble_eq_true rfl)⟩) hP hD hS hA [0, 1, 2, 3, 4, 5, 6, 7, 8, 9, 10, 11, 12, 13, 14, 15, 16, 17, 18, 19, 20, 21, 22, 23, 24, 25, 26, 27, 28] [] rfl rfl rfl (by decide) (fun _ H locs _ hP hD hS => ?_)
        have hP : va_P D cls_ (mW h ad ca 0 (mAgain (mS M 14 s₀ ((M 14 s₀) + 1)) s₀)) H := hP
        have hD : va_D A (mW h ad ca 0 (mAgain (mS M 14 s₀ ((M 14 s₀) + 1)) s₀)) := hD
        refine lv_iload_n hx hb dMo_expire_144 rfl (lv_at hl 0 rfl) ?_
        have e9 : mExp M s₀ = mAgain (mS M 14 s₀ ((M 14 s₀) + 1)) s₀ := by rw [mExp, if_neg (by omega), if_neg (by omega)]
        exact Co.reti hx hb hret hlk dMo_expire_145 hS hP hD () rfl trivial (by first | (rw [e9]; done) | (rw [e9]; rfl)) (Nat.le_of_ble_eq_true rfl) (Nat.le_of_ble_eq_true rfl)
      · refine lv_aload_n hx hb dMo_expire_127 rfl (lv_at hl 1 rfl) ?_
        refine lv_iload_n hx hb dMo_expire_128 rfl (lv_at hl 2 rfl) ?_
        refine lv_iconst (v := nI 1) hx hb dMo_expire_129 (by decide) ?_
        refine lv_iconst (v := nI 0) hx hb dMo_expire_130 (by decide) ?_
        refine lv_iconst (v := nI 0) hx hb dMo_expire_131 (by decide) ?_
        refine lv_iconst (v := (-1)) hx hb dMo_expire_132 (by decide) ?_
        refine kV (rV fx (c_Mo_transmitN l D ca h ad 0 (mS M 14 s₀ ((M 14 s₀) + 1)) s₀ 1 0 0 (by first | assumption | exact mOk.idle (by assumption) _ | exact mOk.clean (by assumption) _ | exact mOk.renew (by assumption) _ | exact (mOk.renew (by assumption) _).set 23 (show 3 < 6 by decide) | exact (mOk.renew (by assumption) _).set 23 (show 5 < 6 by decide)) (by omega) (by omega) (by omega) (by omega)) ⟨callB_of 5 hts (tb_gi tw_706) rfl rfl rfl (ht _ tw_5) (ht _ tw_703) (by decide +kernel) ⟨(Nat.le_of_ble_eq_true rfl), (Nat.le_of_ble_eq_true rfl)⟩, ht _ tw_705, ht _ tw_849⟩ hE hP hD 0 rfl rfl rfl [0, 1, 2, 3, 4, 5, 6, 7, 8, 9, 10, 11, 12, 13, 14, 15, 16, 17, 18, 19, 20, 21, 22, 23, 24, 25, 26, 27, 28] rfl rfl rfl hl.1 rfl (Nat.le_of_ble_eq_true rfl) dMo_expire_133 ⟨(Nat.le_of_ble_eq_true rfl), (Nat.le_of_ble_eq_true rfl)⟩) hP hD hS hA [0, 1, 2, 3, 4, 5, 6, 7, 8, 9, 10, 11, 12, 13, 14, 15, 16, 17, 18, 19, 20, 21, 22, 23, 24, 25, 26, 27, 28] [] rfl rfl rfl (by decide) (fun _ H locs _ hP hD hS => ?_)
        have hP : va_P D cls_ (mW h ad ca 0 (mTrN (mS M 14 s₀ ((M 14 s₀) + 1)) s₀ 1 0 0)) H := hP
        have hD : va_D A (mW h ad ca 0 (mTrN (mS M 14 s₀ ((M 14 s₀) + 1)) s₀ 1 0 0)) := hD
        refine lv_goto (tgt := 144) hx hb dMo_expire_136 rfl ?_
        refine lv_iload_n hx hb dMo_expire_144 rfl (lv_at hl 0 rfl) ?_
        have e9 : mExp M s₀ = mTrN (mS M 14 s₀ ((M 14 s₀) + 1)) s₀ 1 0 0 := by rw [mExp, if_neg (by omega), if_pos (by omega)]
        exact Co.reti hx hb hret hlk dMo_expire_145 hS hP hD () rfl trivial (by first | (rw [e9]; done) | (rw [e9]; rfl)) (Nat.le_of_ble_eq_true rfl) (Nat.le_of_ble_eq_true rfl)
    · refine lv_aload_n hx hb dMo_expire_82 rfl (lv_at hl 1 rfl) ?_
      refine va_get (D := D) (ci := 4) (v := .ref (ad 10)) (C := RMo) (T := TMo) (N := 29) hx hb ht inMo hown hE.1 hP 0 rfl rfl 10 (by decide) (ht _ tw_597) (fun _ h => h) rfl dMo_expire_83 ?_
      refine lv_iload_n hx hb dMo_expire_86 rfl (lv_at hl 2 rfl) ?_
      refine k_iald hx hb hE.1 hP 10 0 (n := 2) (g := (M 10)) rfl rfl (i := s₀) (by omega) (by decide) dMo_expire_87 ?_
      refine lv_iconst (v := nI 1) hx hb dMo_expire_88 (by decide) ?_
      refine k_icmp_ne (tgt := 109) hx hb (by omega) (by omega) dMo_expire_89 rfl (fun h89 => ?_) (fun h89 => ?_)
      · refine lv_aload_n hx hb dMo_expire_109 rfl (lv_at hl 1 rfl) ?_
        refine lv_iload_n hx hb dMo_expire_110 rfl (lv_at hl 2 rfl) ?_
        refine kV (rV fx (c_Mo_setUp l D ca h ad 0 (mS M 14 s₀ ((M 14 s₀) + 1)) s₀ (by first | assumption | exact mOk.idle (by assumption) _ | exact mOk.clean (by assumption) _ | exact mOk.renew (by assumption) _ | exact (mOk.renew (by assumption) _).set 23 (show 3 < 6 by decide) | exact (mOk.renew (by assumption) _).set 23 (show 5 < 6 by decide)) (by omega)) ⟨callB_of 1 hts (tb_gi tw_710) rfl rfl rfl (ht _ tw_5) (ht _ tw_707) (by decide +kernel) ⟨(Nat.le_of_ble_eq_true rfl), (Nat.le_of_ble_eq_true rfl)⟩, ht _ tw_709, ht _ tw_850⟩ hE hP hD 0 rfl rfl rfl [0, 1, 2, 3, 4, 5, 6, 7, 8, 9, 10, 11, 12, 13, 14, 15, 16, 17, 18, 19, 20, 21, 22, 23, 24, 25, 26, 27, 28] rfl rfl rfl hl.1 rfl (Nat.le_of_ble_eq_true rfl) dMo_expire_111 ⟨(Nat.le_of_ble_eq_true rfl), (Nat.le_of_ble_eq_true rfl)⟩) hP hD hS hA [0, 1, 2, 3, 4, 5, 6, 7, 8, 9, 10, 11, 12, 13, 14, 15, 16, 17, 18, 19, 20, 21, 22, 23, 24, 25, 26, 27, 28] [] rfl rfl rfl (by decide) (fun _ H locs _ hP hD hS => ?_)
        have hP : va_P D cls_ (mW h ad ca 0 (mSetUp (mS M 14 s₀ ((M 14 s₀) + 1)) s₀)) H := hP
        have hD : va_D A (mW h ad ca 0 (mSetUp (mS M 14 s₀ ((M 14 s₀) + 1)) s₀)) := hD
        refine lv_goto (tgt := 144) hx hb dMo_expire_114 rfl ?_
        refine lv_iload_n hx hb dMo_expire_144 rfl (lv_at hl 0 rfl) ?_
        have e9 : mExp M s₀ = mSetUp (mS M 14 s₀ ((M 14 s₀) + 1)) s₀ := by rw [mExp, if_pos (by omega), if_neg (by omega)]
        exact Co.reti hx hb hret hlk dMo_expire_145 hS hP hD () rfl trivial (by first | (rw [e9]; done) | (rw [e9]; rfl)) (Nat.le_of_ble_eq_true rfl) (Nat.le_of_ble_eq_true rfl)
      · refine lv_aload_n hx hb dMo_expire_92 rfl (lv_at hl 1 rfl) ?_
        refine va_get (D := D) (ci := 4) (v := .ref (ad 10)) (C := RMo) (T := TMo) (N := 29) hx hb ht inMo hown hE.1 hP 0 rfl rfl 10 (by decide) (ht _ tw_597) (fun _ h => h) rfl dMo_expire_93 ?_
        refine lv_iload_n hx hb dMo_expire_96 rfl (lv_at hl 2 rfl) ?_
        refine lv_iconst (v := nI 0) hx hb dMo_expire_97 (by decide) ?_
        refine k_iast hx hb hE.1 hP hD hS 10 0 (n := 2) (g := ((mS M 14 s₀ ((M 14 s₀) + 1)) 10)) rfl rfl (i := s₀) (x := 0) (by omega) (by decide) dMo_expire_98 (fun H locs hP hD hS => ?_)
        rw [mo_set_10] at hP hD
        refine lv_aload_n hx hb dMo_expire_99 rfl (lv_at hl 1 rfl) ?_
        refine va_get (D := D) (ci := 4) (v := .ref (ad 14)) (C := RMo) (T := TMo) (N := 29) hx hb ht inMo hown hE.1 hP 0 rfl rfl 14 (by decide) (ht _ tw_601) (fun _ h => h) rfl dMo_expire_100 ?_
        refine lv_iload_n hx hb dMo_expire_103 rfl (lv_at hl 2 rfl) ?_
        refine lv_iconst (v := nI 0) hx hb dMo_expire_104 (by decide) ?_
        refine k_iast hx hb hE.1 hP hD hS 14 0 (n := 2) (g := ((mS (mS M 14 s₀ ((M 14 s₀) + 1)) 10 s₀ 0) 14)) rfl rfl (i := s₀) (x := 0) (by omega) (by decide) dMo_expire_105 (fun H locs hP hD hS => ?_)
        rw [mo_set_14] at hP hD
        refine lv_goto (tgt := 144) hx hb dMo_expire_106 rfl ?_
        refine lv_iload_n hx hb dMo_expire_144 rfl (lv_at hl 0 rfl) ?_
        have e9 : mExp M s₀ = mS (mS (mS M 14 s₀ ((M 14 s₀) + 1)) 10 s₀ 0) 14 s₀ 0 := by rw [mExp, if_pos (by omega), if_pos (by omega)]
        exact Co.reti hx hb hret hlk dMo_expire_145 hS hP hD () rfl trivial (by first | (rw [e9]; done) | (rw [e9]; rfl)) (Nat.le_of_ble_eq_true rfl) (Nat.le_of_ble_eq_true rfl)
  · refine lv_aload_n hx hb dMo_expire_31 rfl (lv_at hl 0 rfl) ?_
    refine lv_iload_n hx hb dMo_expire_32 rfl (lv_at hl 1 rfl) ?_
    refine kI (rV fx (c_Mo_unconfirmed l D ca h ad co M s₀ (by first | assumption | exact mOk.idle (by assumption) _ | exact mOk.clean (by assumption) _ | exact mOk.renew (by assumption) _ | exact (mOk.renew (by assumption) _).set 23 (show 3 < 6 by decide) | exact (mOk.renew (by assumption) _).set 23 (show 5 < 6 by decide)) (by omega)) ⟨callB_of 1 hts (tb_gi tw_721) rfl rfl rfl (ht _ tw_5) (ht _ tw_718) (by decide +kernel) ⟨(Nat.le_of_ble_eq_true rfl), (Nat.le_of_ble_eq_true rfl)⟩, ht _ tw_720, ht _ tw_852⟩ hE hP hD 0 rfl rfl rfl [0, 1, 2, 3, 4, 5, 6, 7, 8, 9, 10, 11, 12, 13, 14, 15, 16, 17, 18, 19, 20, 21, 22, 23, 24, 25, 26, 27, 28] rfl rfl rfl hl.1 rfl (Nat.le_of_ble_eq_true rfl) dMo_expire_33 ⟨(Nat.le_of_ble_eq_true rfl), (Nat.le_of_ble_eq_true rfl)⟩) hP hD hS hA [0, 1, 2, 3, 4, 5, 6, 7, 8, 9, 10, 11, 12, 13, 14, 15, 16, 17, 18, 19, 20, 21, 22, 23, 24, 25, 26, 27, 28] [] rfl rfl rfl (by decide) (fun _ H locs _ hP hD hS => ?_)
    have hP : va_P D cls_ (mW h ad ca co M) H := hP
    have hD : va_D A (mW h ad ca co M) := hD
    refine k_if_ne (tgt := 43) hx hb (by omega) dMo_expire_36 rfl (fun h36 => ?_) (fun hz => absurd hz (by omega))
    refine lv_iconst (v := nI 0) hx hb dMo_expire_43 (by decide) ?_
    refine va_put (D := D) (ci := 4) (v := .int (nI 0)) (ty := .int) (C := RMo) (T := TMo) (N := 29) hx hb ht inMo tyMo tyMo_ok nmMo hown hE.1 hP hD hS 0 rfl rfl 0 (by decide) (ht _ tw_587) (fun _ h => h) rfl (by decide +kernel) rfl rfl (Nat.le_of_ble_eq_true rfl) dMo_expire_44 (fun H locs hP hD hS => ?_)
    have hP : va_P D cls_ (mW h ad ca 0 M) H := hP
    have hD : va_D A (mW h ad ca 0 M) := hD
    refine lv_aload_n hx hb dMo_expire_47 rfl (lv_at hl 0 rfl) ?_
    refine va_get (D := D) (ci := 4) (v := .int (nI 0)) (C := RMo) (T := TMo) (N := 29) hx hb ht inMo hown hE.1 hP 0 rfl rfl 0 (by decide) (ht _ tw_587) (fun _ h => h) rfl dMo_expire_48 ?_
    refine k_if_le (tgt := 56) hx hb (by omega) dMo_expire_51 rfl (fun h51 => ?_) (fun hz => absurd hz (by omega))
    refine lv_aload_n hx hb dMo_expire_56 rfl (lv_at hl 0 rfl) ?_
    refine va_get (D := D) (ci := 4) (v := .ref (ad 14)) (C := RMo) (T := TMo) (N := 29) hx hb ht inMo hown hE.1 hP 0 rfl rfl 14 (by decide) (ht _ tw_601) (fun _ h => h) rfl dMo_expire_57 ?_
    refine lv_iload_n hx hb dMo_expire_60 rfl (lv_at hl 1 rfl) ?_
    refine lv_aload_n hx hb dMo_expire_61 rfl (lv_at hl 0 rfl) ?_
    refine va_get (D := D) (ci := 4) (v := .ref (ad 14)) (C := RMo) (T := TMo) (N := 29) hx hb ht inMo hown hE.1 hP 0 rfl rfl 14 (by decide) (ht _ tw_601) (fun _ h => h) rfl dMo_expire_62 ?_
    refine lv_iload_n hx hb dMo_expire_65 rfl (lv_at hl 1 rfl) ?_
    refine k_iald hx hb hE.1 hP 14 0 (n := 2) (g := (M 14)) rfl rfl (i := s₀) (by omega) (by decide) dMo_expire_66 ?_
    refine lv_iconst (v := nI 1) hx hb dMo_expire_67 (by decide) ?_
    refine k_iadd hx hb dMo_expire_68 ?_
    refine k_iast hx hb hE.1 hP hD hS 14 0 (n := 2) (g := (M 14)) rfl rfl (i := s₀) (x := ((M 14 s₀) + 1)) (by omega) (by decide) dMo_expire_69 (fun H locs hP hD hS => ?_)
    rw [mo_set_14] at hP hD
    refine lv_aload_n hx hb dMo_expire_70 rfl (lv_at hl 0 rfl) ?_
    refine va_get (D := D) (ci := 4) (v := .ref (ad 14)) (C := RMo) (T := TMo) (N := 29) hx hb ht inMo hown hE.1 hP 0 rfl rfl 14 (by decide) (ht _ tw_601) (fun _ h => h) rfl dMo_expire_71 ?_
    refine lv_iload_n hx hb dMo_expire_74 rfl (lv_at hl 1 rfl) ?_
    refine k_iald hx hb hE.1 hP 14 0 (n := 2) (g := ((mS M 14 s₀ ((M 14 s₀) + 1)) 14)) rfl rfl (i := s₀) (by omega) (by decide) dMo_expire_75 ?_
    refine k_is (y := nI (M 14 s₀ + 1)) (by rw [mS_same, va_up_self]) ?_
    refine lv_istore_n hx hb dMo_expire_76 rfl hl (by decide) rfl (fun ls hl => ?_)
    have hl : lv_has ls 3 [(2, .int (nI (M 14 s₀ + 1))), (0, .ref h), (1, .int (nI s₀))] := hl
    refine lv_iload_n hx hb dMo_expire_77 rfl (lv_at hl 0 rfl) ?_
    refine lv_iconst (v := nI 4) hx hb dMo_expire_78 (by decide) ?_
    refine k_icmp_ne (tgt := 117) hx hb (by omega) (by omega) dMo_expire_79 rfl (fun h79 => ?_) (fun h79 => ?_)
    · refine lv_aload_n hx hb dMo_expire_117 rfl (lv_at hl 1 rfl) ?_
      refine va_get (D := D) (ci := 4) (v := .ref (ad 10)) (C := RMo) (T := TMo) (N := 29) hx hb ht inMo hown hE.1 hP 0 rfl rfl 10 (by decide) (ht _ tw_597) (fun _ h => h) rfl dMo_expire_118 ?_
      refine lv_iload_n hx hb dMo_expire_121 rfl (lv_at hl 2 rfl) ?_
      refine k_iald hx hb hE.1 hP 10 0 (n := 2) (g := (M 10)) rfl rfl (i := s₀) (by omega) (by decide) dMo_expire_122 ?_
      refine lv_iconst (v := nI 1) hx hb dMo_expire_123 (by decide) ?_
      refine k_icmp_ne (tgt := 139) hx hb (by omega) (by omega) dMo_expire_124 rfl (fun h124 => ?_) (fun hz => absurd hz (by omega))
      refine lv_aload_n hx hb dMo_expire_139 rfl (lv_at hl 1 rfl) ?_
      refine lv_iload_n hx hb dMo_expire_140 rfl (lv_at hl 2 rfl) ?_
      refine kV (rV fx (c_Mo_again l D ca h ad 0 (mS M 14 s₀ ((M 14 s₀) + 1)) s₀ _ (by first | assumption | exact mOk.idle (by assumption) _ | exact mOk.clean (by assumption) _ | exact mOk.renew (by assumption) _ | exact (mOk.renew (by assumption) _).set 23 (show 3 < 6 by decide) | exact (mOk.renew (by assumption) _).set 23 (show 5 < 6 by decide)) (by omega) rfl) ⟨callB_of 1 hts (tb_gi tw_725) rfl rfl rfl (ht _ tw_5) (ht _ tw_722) (by decide +kernel) ⟨(Nat.le_of_ble_eq_true rfl), (Nat.le_of_ble_eq_true rfl)⟩, ht _ tw_724, ht _ tw_853⟩ hE hP hD 0 rfl rfl rfl [0, 1, 2, 3, 4, 5, 6, 7, 8, 9, 10, 11, 12, 13, 14, 15, 16, 17, 18, 19, 20, 21, 22, 23, 24, 25, 26, 27, 28] rfl rfl rfl hl.1 rfl (Nat.le_of_ble_eq_true rfl) dMo_expire_141 ⟨(Nat.le_of_ble_eq_true rfl), (Nat.le_of_ble_eq_true rfl)⟩) hP hD hS hA [0, 1, 2, 3, 4, 5, 6, 7, 8, 9, 10, 11, 12, 13, 14, 15, 16, 17, 18, 19, 20, 21, 22, 23, 24, 25, 26, 27, 28] [] rfl rfl rfl (by decide) (fun _ H locs _ hP hD hS => ?_)
      have hP : va_P D cls_ (mW h ad ca 0 (mAgain (mS M 14 s₀ ((M 14 s₀) + 1)) s₀)) H := hP
      have hD : va_D A (mW h ad ca 0 (mAgain (mS M 14 s₀ ((M 14 s₀) + 1)) s₀)) := hD
      refine lv_iload_n hx hb dMo_expire_144 rfl (lv_at hl 0 rfl) ?_
      have e9 : mExp M s₀ = mAgain (mS M 14 s₀ ((M 14 s₀) + 1)) s₀ := by rw [mExp, if_neg (by omega), if_neg (by omega)]
      exact Co.reti hx hb hret hlk dMo_expire_145 hS hP hD () rfl trivial (by first | (rw [e9]; done) | (rw [e9]; rfl)) (Nat.le_of_ble_eq_true rfl) (Nat.le_of_ble_eq_true rfl)
    · refine lv_aload_n hx hb dMo_expire_82 rfl (lv_at hl 1 rfl) ?_
      refine va_get (D := D) (ci := 4) (v := .ref (ad 10)) (C := RMo) (T := TMo) (N := 29) hx hb ht inMo hown hE.1 hP 0 rfl rfl 10 (by decide) (ht _ tw_597) (fun _ h => h) rfl dMo_expire_83 ?_
      refine lv_iload_n hx hb dMo_expire_86 rfl (lv_at hl 2 rfl) ?_
      refine k_iald hx hb hE.1 hP 10 0 (n := 2) (g := (M 10)) rfl rfl (i := s₀) (by omega) (by decide) dMo_expire_87 ?_
      refine lv_iconst (v := nI 1) hx hb dMo_expire_88 (by decide) ?_
      refine k_icmp_ne (tgt := 109) hx hb (by omega) (by omega) dMo_expire_89 rfl (fun h89 => ?_) (fun hz => absurd hz (by omega))
      refine lv_aload_n hx hb dMo_expire_109 rfl (lv_at hl 1 rfl) ?_
      refine lv_iload_n hx hb dMo_expire_110 rfl (lv_at hl 2 rfl) ?_
      refine kV (rV fx (c_Mo_setUp l D ca h ad 0 (mS M 14 s₀ ((M 14 s₀) + 1)) s₀ (by first | assumption | exact mOk.idle (by assumption) _ | exact mOk.clean (by assumption) _ | exact mOk.renew (by assumption) _ | exact (mOk.renew (by assumption) _).set 23 (show 3 < 6 by decide) | exact (mOk.renew (by assumption) _).set 23 (show 5 < 6 by decide)) (by omega)) ⟨callB_of 1 hts (tb_gi tw_710) rfl rfl rfl (ht _ tw_5) (ht _ tw_707) (by decide +kernel) ⟨(Nat.le_of_ble_eq_true rfl), (Nat.le_of_ble_eq_true rfl)⟩, ht _ tw_709, ht _ tw_850⟩ hE hP hD 0 rfl rfl rfl [0, 1, 2, 3, 4, 5, 6, 7, 8, 9, 10, 11, 12, 13, 14, 15, 16, 17, 18, 19, 20, 21, 22, 23, 24, 25, 26, 27, 28] rfl rfl rfl hl.1 rfl (Nat.le_of_ble_eq_true rfl) dMo_expire_111 ⟨(Nat.le_of_ble_eq_true rfl), (Nat.le_of_ble_eq_true rfl)⟩) hP hD hS hA [0, 1, 2, 3, 4, 5, 6, 7, 8, 9, 10, 11, 12, 13, 14, 15, 16, 17, 18, 19, 20, 21, 22, 23, 24, 25, 26, 27, 28] [] rfl rfl rfl (by decide) (fun _ H locs _ hP hD hS => ?_)
      have hP : va_P D cls_ (mW h ad ca 0 (mSetUp (mS M 14 s₀ ((M 14 s₀) + 1)) s₀)) H := hP
      have hD : va_D A (mW h ad ca 0 (mSetUp (mS M 14 s₀ ((M 14 s₀) + 1)) s₀)) := hD
      refine lv_goto (tgt := 144) hx hb dMo_expire_114 rfl ?_
      refine lv_iload_n hx hb dMo_expire_144 rfl (lv_at hl 0 rfl) ?_
      have e9 : mExp M s₀ = mSetUp (mS M 14 s₀ ((M 14 s₀) + 1)) s₀ := by rw [mExp, if_pos (by omega), if_neg (by omega)]
      exact Co.reti hx hb hret hlk dMo_expire_145 hS hP hD () rfl trivial (by first | (rw [e9]; done) | (rw [e9]; rfl)) (Nat.le_of_ble_eq_true rfl) (Nat.le_of_ble_eq_true rfl)
set_option maxHeartbeats 4000000 in
set_option maxRecDepth 100000 in
theorem c_Mo_expireE (l : Launch) (D : va_G) (ca : Nat → ClassId) (h : Nat) (ad : Nat → Nat) (co : Nat) (M : Nat → Nat → Nat) (s₀ : Nat) (hM : mOk M) (hs : s₀ < 2) (hw : ¬ (M 10 s₀ = 1 ∨ (M 10 s₀ = 2 ∧ 0 < mUn M s₀))) : Co (S := Unit) l yMo_expire (Cond.code yMo_expire cMo_expire 3 (some FieldType.int) :: tb_) { frames := 3, cells := 0, slots := 0, locals := 96 } D ca [.ref h, .int (nI s₀)] (mW h ad ca co M) (fun _ => some (.int (nI 0))) (fun _ => True) (fun _ => (mW h ad ca 2 M)) 0 0 := by
  refine Co.of cMo_expire 3 (some FieldType.int) (by decide) (Nat.le_of_ble_eq_true rfl) ?_
  intro p e s m args below meth c A ls fx hret hlk hin hE hP hD hS hA hl
  have hx := fx.1
  have hb := fx.2.1
  have hown : s.vm.findClass RMo = some m.cls := fx.2.2.2.1
  have hts := fx.2.2.2.2
  have ht : ∀ w ∈ tb_, w.before args s = true := fun w h => hts w (List.mem_cons_of_mem _ h)
  have b1 : M 10 s₀ < 3 := hM 10 _
  have b2 : mUn M s₀ < 8 := ds_lt _ _
  have hl : lv_has ls 3 [(0, .ref h), (1, .int (nI s₀))] := hl
  refine lv_aload_n hx hb dMo_expire_0 rfl (lv_at hl 0 rfl) ?_
  refine lv_iload_n hx hb dMo_expire_1 rfl (lv_at hl 1 rfl) ?_
  refine kI (rS fx (c_Mo_station l D ca s₀ (by omega)) ⟨callB_of 1 hts (tb_gi tw_686) rfl rfl rfl (ht _ tw_5) (ht _ tw_684) (by decide +kernel) ⟨(Nat.le_of_ble_eq_true rfl), (Nat.le_of_ble_eq_true rfl)⟩, ht _ tw_685⟩ hE hP hD [] rfl rfl rfl hl.1 rfl (Nat.le_of_ble_eq_true rfl) dMo_expire_2 ⟨(Nat.le_of_ble_eq_true rfl), (Nat.le_of_ble_eq_true rfl)⟩) hP hD hS hA [] [0, 1, 2, 3, 4, 5, 6, 7, 8, 9, 10, 11, 12, 13, 14, 15, 16, 17, 18, 19, 20, 21, 22, 23, 24, 25, 26, 27, 28] rfl rfl rfl (by decide) (fun _ H locs _ hP hD hS => ?_)
  have hP : va_P D cls_ (mW h ad ca co M) H := hP
  have hD : va_D A (mW h ad ca co M) := hD
  refine k_if_ne (tgt := 12) hx hb (by omega) dMo_expire_5 rfl (fun h5 => ?_) (fun hz => absurd hz (by omega))
  refine lv_aload_n hx hb dMo_expire_12 rfl (lv_at hl 0 rfl) ?_
  refine va_get (D := D) (ci := 4) (v := .ref (ad 10)) (C := RMo) (T := TMo) (N := 29) hx hb ht inMo hown hE.1 hP 0 rfl rfl 10 (by decide) (ht _ tw_597) (fun _ h => h) rfl dMo_expire_13 ?_
  refine lv_iload_n hx hb dMo_expire_16 rfl (lv_at hl 1 rfl) ?_
  refine k_iald hx hb hE.1 hP 10 0 (n := 2) (g := (M 10)) rfl rfl (i := s₀) (by omega) (by decide) dMo_expire_17 ?_
  refine k_if_eq (tgt := 39) hx hb (by omega) dMo_expire_18 rfl (fun h18 => ?_) (fun h18 => ?_)
  · refine lv_iconst (v := nI 2) hx hb dMo_expire_39 (by decide) ?_
    refine lv_goto (tgt := 44) hx hb dMo_expire_40 rfl ?_
    refine va_put (D := D) (ci := 4) (v := .int (nI 2)) (ty := .int) (C := RMo) (T := TMo) (N := 29) hx hb ht inMo tyMo tyMo_ok nmMo hown hE.1 hP hD hS 0 rfl rfl 0 (by decide) (ht _ tw_587) (fun _ h => h) rfl (by decide +kernel) rfl rfl (Nat.le_of_ble_eq_true rfl) dMo_expire_44 (fun H locs hP hD hS => ?_)
    have hP : va_P D cls_ (mW h ad ca 2 M) H := hP
    have hD : va_D A (mW h ad ca 2 M) := hD
    refine lv_aload_n hx hb dMo_expire_47 rfl (lv_at hl 0 rfl) ?_
    refine va_get (D := D) (ci := 4) (v := .int (nI 2)) (C := RMo) (T := TMo) (N := 29) hx hb ht inMo hown hE.1 hP 0 rfl rfl 0 (by decide) (ht _ tw_587) (fun _ h => h) rfl dMo_expire_48 ?_
    refine k_if_le (tgt := 56) hx hb (by omega) dMo_expire_51 rfl (fun hz => absurd hz (by omega)) (fun h51 => ?_)
    refine lv_iconst (v := nI 0) hx hb dMo_expire_54 (by decide) ?_
    exact Co.reti hx hb hret hlk dMo_expire_55 hS hP hD () rfl trivial rfl (Nat.le_of_ble_eq_true rfl) (Nat.le_of_ble_eq_true rfl)
  · refine lv_aload_n hx hb dMo_expire_21 rfl (lv_at hl 0 rfl) ?_
    refine va_get (D := D) (ci := 4) (v := .ref (ad 10)) (C := RMo) (T := TMo) (N := 29) hx hb ht inMo hown hE.1 hP 0 rfl rfl 10 (by decide) (ht _ tw_597) (fun _ h => h) rfl dMo_expire_22 ?_
    refine lv_iload_n hx hb dMo_expire_25 rfl (lv_at hl 1 rfl) ?_
    refine k_iald hx hb hE.1 hP 10 0 (n := 2) (g := (M 10)) rfl rfl (i := s₀) (by omega) (by decide) dMo_expire_26 ?_
    refine lv_iconst (v := nI 2) hx hb dMo_expire_27 (by decide) ?_
    refine k_icmp_ne (tgt := 43) hx hb (by omega) (by omega) dMo_expire_28 rfl (fun hz => absurd hz (by omega)) (fun h28 => ?_)
    refine lv_aload_n hx hb dMo_expire_31 rfl (lv_at hl 0 rfl) ?_
    refine lv_iload_n hx hb dMo_expire_32 rfl (lv_at hl 1 rfl) ?_
    refine kI (rV fx (c_Mo_unconfirmed l D ca h ad co M s₀ (by first | assumption | exact mOk.idle (by assumption) _ | exact mOk.clean (by assumption) _ | exact mOk.renew (by assumption) _ | exact (mOk.renew (by assumption) _).set 23 (show 3 < 6 by decide) | exact (mOk.renew (by assumption) _).set 23 (show 5 < 6 by decide)) (by omega)) ⟨callB_of 1 hts (tb_gi tw_721) rfl rfl rfl (ht _ tw_5) (ht _ tw_718) (by decide +kernel) ⟨(Nat.le_of_ble_eq_true rfl), (Nat.le_of_ble_eq_true rfl)⟩, ht _ tw_720, ht _ tw_852⟩ hE hP hD 0 rfl rfl rfl [0, 1, 2, 3, 4, 5, 6, 7, 8, 9, 10, 11, 12, 13, 14, 15, 16, 17, 18, 19, 20, 21, 22, 23, 24, 25, 26, 27, 28] rfl rfl rfl hl.1 rfl (Nat.le_of_ble_eq_true rfl) dMo_expire_33 ⟨(Nat.le_of_ble_eq_true rfl), (Nat.le_of_ble_eq_true rfl)⟩) hP hD hS hA [0, 1, 2, 3, 4, 5, 6, 7, 8, 9, 10, 11, 12, 13, 14, 15, 16, 17, 18, 19, 20, 21, 22, 23, 24, 25, 26, 27, 28] [] rfl rfl rfl (by decide) (fun _ H locs _ hP hD hS => ?_)
    have hP : va_P D cls_ (mW h ad ca co M) H := hP
    have hD : va_D A (mW h ad ca co M) := hD
    refine k_if_ne (tgt := 43) hx hb (by omega) dMo_expire_36 rfl (fun hz => absurd hz (by omega)) (fun h36 => ?_)
    refine lv_iconst (v := nI 2) hx hb dMo_expire_39 (by decide) ?_
    refine lv_goto (tgt := 44) hx hb dMo_expire_40 rfl ?_
    refine va_put (D := D) (ci := 4) (v := .int (nI 2)) (ty := .int) (C := RMo) (T := TMo) (N := 29) hx hb ht inMo tyMo tyMo_ok nmMo hown hE.1 hP hD hS 0 rfl rfl 0 (by decide) (ht _ tw_587) (fun _ h => h) rfl (by decide +kernel) rfl rfl (Nat.le_of_ble_eq_true rfl) dMo_expire_44 (fun H locs hP hD hS => ?_)
    have hP : va_P D cls_ (mW h ad ca 2 M) H := hP
    have hD : va_D A (mW h ad ca 2 M) := hD
    refine lv_aload_n hx hb dMo_expire_47 rfl (lv_at hl 0 rfl) ?_
    refine va_get (D := D) (ci := 4) (v := .int (nI 2)) (C := RMo) (T := TMo) (N := 29) hx hb ht inMo hown hE.1 hP 0 rfl rfl 0 (by decide) (ht _ tw_587) (fun _ h => h) rfl dMo_expire_48 ?_
    refine k_if_le (tgt := 56) hx hb (by omega) dMo_expire_51 rfl (fun hz => absurd hz (by omega)) (fun h51 => ?_)
    refine lv_iconst (v := nI 0) hx hb dMo_expire_54 (by decide) ?_
    exact Co.reti hx hb hret hlk dMo_expire_55 hS hP hD () rfl trivial rfl (Nat.le_of_ble_eq_true rfl) (Nat.le_of_ble_eq_true rfl)
set_option maxHeartbeats 4000000 in
set_option maxRecDepth 100000 in
theorem c_Mo_expireX (l : Launch) (D : va_G) (ca : Nat → ClassId) (h : Nat) (ad : Nat → Nat) (co : Nat) (M : Nat → Nat → Nat) (x₀ : Int32) (hx0 : ¬ x₀ = 0) (hx1 : ¬ x₀ = nI 1) : Co (S := Unit) l yMo_expire (Cond.code yMo_expire cMo_expire 3 (some FieldType.int) :: tb_) { frames := 3, cells := 0, slots := 0, locals := 96 } D ca [.ref h, .int x₀] (mW h ad ca co M) (fun _ => some (.int (nI 0))) (fun _ => True) (fun _ => (mW h ad ca 1 M)) 0 0 := by
  refine Co.of cMo_expire 3 (some FieldType.int) (by decide) (Nat.le_of_ble_eq_true rfl) ?_
  intro p e s m args below meth c A ls fx hret hlk hin hE hP hD hS hA hl
  have hx := fx.1
  have hb := fx.2.1
  have hown : s.vm.findClass RMo = some m.cls := fx.2.2.2.1
  have hts := fx.2.2.2.2
  have ht : ∀ w ∈ tb_, w.before args s = true := fun w h => hts w (List.mem_cons_of_mem _ h)
  have hl : lv_has ls 3 [(0, .ref h), (1, .int x₀)] := hl
  refine lv_aload_n hx hb dMo_expire_0 rfl (lv_at hl 0 rfl) ?_
  refine lv_iload_n hx hb dMo_expire_1 rfl (lv_at hl 1 rfl) ?_
  refine kI (rS fx (c_Mo_stationX l D ca x₀ hx0 hx1) ⟨callB_of 1 hts (tb_gi tw_686) rfl rfl rfl (ht _ tw_5) (ht _ tw_684) (by decide +kernel) ⟨(Nat.le_of_ble_eq_true rfl), (Nat.le_of_ble_eq_true rfl)⟩, ht _ tw_685⟩ hE hP hD [] rfl rfl rfl hl.1 rfl (Nat.le_of_ble_eq_true rfl) dMo_expire_2 ⟨(Nat.le_of_ble_eq_true rfl), (Nat.le_of_ble_eq_true rfl)⟩) hP hD hS hA [] [0, 1, 2, 3, 4, 5, 6, 7, 8, 9, 10, 11, 12, 13, 14, 15, 16, 17, 18, 19, 20, 21, 22, 23, 24, 25, 26, 27, 28] rfl rfl rfl (by decide) (fun _ H locs _ hP hD hS => ?_)
  have hP : va_P D cls_ (mW h ad ca co M) H := hP
  have hD : va_D A (mW h ad ca co M) := hD
  refine k_if_ne (tgt := 12) hx hb (by omega) dMo_expire_5 rfl (fun hz => absurd hz (by omega)) (fun h5 => ?_)
  refine lv_iconst (v := nI 1) hx hb dMo_expire_8 (by decide) ?_
  refine lv_goto (tgt := 44) hx hb dMo_expire_9 rfl ?_
  refine va_put (D := D) (ci := 4) (v := .int (nI 1)) (ty := .int) (C := RMo) (T := TMo) (N := 29) hx hb ht inMo tyMo tyMo_ok nmMo hown hE.1 hP hD hS 0 rfl rfl 0 (by decide) (ht _ tw_587) (fun _ h => h) rfl (by decide +kernel) rfl rfl (Nat.le_of_ble_eq_true rfl) dMo_expire_44 (fun H locs hP hD hS => ?_)
  have hP : va_P D cls_ (mW h ad ca 1 M) H := hP
  have hD : va_D A (mW h ad ca 1 M) := hD
  refine lv_aload_n hx hb dMo_expire_47 rfl (lv_at hl 0 rfl) ?_
  refine va_get (D := D) (ci := 4) (v := .int (nI 1)) (C := RMo) (T := TMo) (N := 29) hx hb ht inMo hown hE.1 hP 0 rfl rfl 0 (by decide) (ht _ tw_587) (fun _ h => h) rfl dMo_expire_48 ?_
  refine k_if_le (tgt := 56) hx hb (by omega) dMo_expire_51 rfl (fun hz => absurd hz (by omega)) (fun h51 => ?_)
  refine lv_iconst (v := nI 0) hx hb dMo_expire_54 (by decide) ?_
  exact Co.reti hx hb hret hlk dMo_expire_55 hS hP hD () rfl trivial rfl (Nat.le_of_ble_eq_true rfl) (Nat.le_of_ble_eq_true rfl)
set_option maxHeartbeats 4000000 in
set_option maxRecDepth 100000 in
theorem c_Mo_bars (l : Launch) (D : va_G) (ca : Nat → ClassId) (h : Nat) (ad : Nat → Nat) (co : Nat) (M : Nat → Nat → Nat) (s₀ cn : Nat) (hM : mOk M) (hs : s₀ < 2) (hc : cn < 3) (hi : Nat) : Co (S := Unit) l yMo_bars (Cond.code yMo_bars cMo_bars 4 (some FieldType.int) :: tb_) { frames := 2, cells := 0, slots := 0, locals := 64 } D ca [.ref h, .int (nI s₀), .int (nI cn), .int (nI hi)] (mW h ad ca co M) (fun _ => some (.int (nI (if M 10 s₀ = 2 ∧ M 17 s₀ ≤ 9 then 0 else hi)))) (fun _ => True) (fun _ => (mW h ad ca co M)) 0 0 := by
  refine Co.of cMo_bars 4 (some FieldType.int) (by decide) (Nat.le_of_ble_eq_true rfl) ?_
  intro p e s m args below meth c A ls fx hret hlk hin hE hP hD hS hA hl
  have hx := fx.1
  have hb := fx.2.1
  have hown : s.vm.findClass RMo = some m.cls := fx.2.2.2.1
  have hts := fx.2.2.2.2
  have ht : ∀ w ∈ tb_, w.before args s = true := fun w h => hts w (List.mem_cons_of_mem _ h)
  have b1 : M 10 s₀ < 3 := hM 10 _
  have b2 : M 17 s₀ < 17 := hM 17 _
  have hl : lv_has ls 4 [(0, .ref h), (1, .int (nI s₀)), (2, .int (nI cn)), (3, .int (nI hi))] := hl
  refine lv_iload_n hx hb dMo_bars_0 rfl (lv_at hl 1 rfl) ?_
  refine lv_iload_n hx hb dMo_bars_1 rfl (lv_at hl 2 rfl) ?_
  refine kI (rS fx (c_Mo_channelOf l D ca s₀ cn (by omega) (by omega)) ⟨callB_of 2 hts (tb_gi tw_767) rfl rfl rfl (ht _ tw_5) (ht _ tw_765) (by decide +kernel) ⟨(Nat.le_of_ble_eq_true rfl), (Nat.le_of_ble_eq_true rfl)⟩, ht _ tw_766⟩ hE hP hD [] rfl rfl rfl hl.1 rfl (Nat.le_of_ble_eq_true rfl) dMo_bars_2 ⟨(Nat.le_of_ble_eq_true rfl), (Nat.le_of_ble_eq_true rfl)⟩) hP hD hS hA [] [0, 1, 2, 3, 4, 5, 6, 7, 8, 9, 10, 11, 12, 13, 14, 15, 16, 17, 18, 19, 20, 21, 22, 23, 24, 25, 26, 27, 28] rfl rfl rfl (by decide) (fun _ H locs _ hP hD hS => ?_)
  have hP : va_P D cls_ (mW h ad ca co M) H := hP
  have hD : va_D A (mW h ad ca co M) := hD
  refine k_if_ne (tgt := 12) hx hb (by omega) dMo_bars_5 rfl (fun h5 => ?_) (fun hz => absurd hz (by omega))
  refine lv_aload_n hx hb dMo_bars_12 rfl (lv_at hl 0 rfl) ?_
  refine va_get (D := D) (ci := 4) (v := .ref (ad 10)) (C := RMo) (T := TMo) (N := 29) hx hb ht inMo hown hE.1 hP 0 rfl rfl 10 (by decide) (ht _ tw_597) (fun _ h => h) rfl dMo_bars_13 ?_
  refine lv_iload_n hx hb dMo_bars_16 rfl (lv_at hl 1 rfl) ?_
  refine k_iald hx hb hE.1 hP 10 0 (n := 2) (g := (M 10)) rfl rfl (i := s₀) (by omega) (by decide) dMo_bars_17 ?_
  refine lv_iconst (v := nI 2) hx hb dMo_bars_18 (by decide) ?_
  refine k_icmp_ne (tgt := 33) hx hb (by omega) (by omega) dMo_bars_19 rfl (fun h19 => ?_) (fun h19 => ?_)
  · refine lv_iload_n hx hb dMo_bars_33 rfl (lv_at hl 3 rfl) ?_
    refine lv_goto (tgt := 38) hx hb dMo_bars_34 rfl ?_
    exact Co.reti hx hb hret hlk dMo_bars_38 hS hP hD () (by rw [if_neg (by omega)]) trivial rfl (Nat.le_of_ble_eq_true rfl) (Nat.le_of_ble_eq_true rfl)
  · refine lv_aload_n hx hb dMo_bars_22 rfl (lv_at hl 0 rfl) ?_
    refine va_get (D := D) (ci := 4) (v := .ref (ad 17)) (C := RMo) (T := TMo) (N := 29) hx hb ht inMo hown hE.1 hP 0 rfl rfl 17 (by decide) (ht _ tw_604) (fun _ h => h) rfl dMo_bars_23 ?_
    refine lv_iload_n hx hb dMo_bars_26 rfl (lv_at hl 1 rfl) ?_
    refine k_iald hx hb hE.1 hP 17 0 (n := 2) (g := (M 17)) rfl rfl (i := s₀) (by omega) (by decide) dMo_bars_27 ?_
    refine lv_bipush (v := nI 9) hx hb dMo_bars_28 (by decide) ?_
    refine k_icmp_le (tgt := 37) hx hb (by omega) (by omega) dMo_bars_30 rfl (fun h30 => ?_) (fun h30 => ?_)
    · refine lv_iconst (v := nI 0) hx hb dMo_bars_37 (by decide) ?_
      exact Co.reti hx hb hret hlk dMo_bars_38 hS hP hD () (by rw [if_pos (by omega)]) trivial rfl (Nat.le_of_ble_eq_true rfl) (Nat.le_of_ble_eq_true rfl)
    · refine lv_iload_n hx hb dMo_bars_33 rfl (lv_at hl 3 rfl) ?_
      refine lv_goto (tgt := 38) hx hb dMo_bars_34 rfl ?_
      exact Co.reti hx hb hret hlk dMo_bars_38 hS hP hD () (by rw [if_neg (by omega)]) trivial rfl (Nat.le_of_ble_eq_true rfl) (Nat.le_of_ble_eq_true rfl)
set_option maxHeartbeats 4000000 in
set_option maxRecDepth 100000 in
theorem c_Mo_barsX (l : Launch) (D : va_G) (ca : Nat → ClassId) (h : Nat) (ad : Nat → Nat) (co : Nat) (M : Nat → Nat → Nat) (x₀ : Int32) (hx0 : ¬ x₀ = 0) (hx1 : ¬ x₀ = nI 1) (y₀ : Int32) (hi : Nat) : Co (S := Unit) l yMo_bars (Cond.code yMo_bars cMo_bars 4 (some FieldType.int) :: tb_) { frames := 2, cells := 0, slots := 0, locals := 64 } D ca [.ref h, .int x₀, .int y₀, .int (nI hi)] (mW h ad ca co M) (fun _ => some (.int (nI 1))) (fun _ => True) (fun _ => (mW h ad ca co M)) 0 0 := by
  refine Co.of cMo_bars 4 (some FieldType.int) (by decide) (Nat.le_of_ble_eq_true rfl) ?_
  intro p e s m args below meth c A ls fx hret hlk hin hE hP hD hS hA hl
  have hx := fx.1
  have hb := fx.2.1
  have hown : s.vm.findClass RMo = some m.cls := fx.2.2.2.1
  have hts := fx.2.2.2.2
  have ht : ∀ w ∈ tb_, w.before args s = true := fun w h => hts w (List.mem_cons_of_mem _ h)
  have hl : lv_has ls 4 [(0, .ref h), (1, .int x₀), (2, .int y₀), (3, .int (nI hi))] := hl
  refine lv_iload_n hx hb dMo_bars_0 rfl (lv_at hl 1 rfl) ?_
  refine lv_iload_n hx hb dMo_bars_1 rfl (lv_at hl 2 rfl) ?_
  refine kI (rS fx (c_Mo_channelOfX l D ca x₀ hx0 hx1 y₀) ⟨callB_of 2 hts (tb_gi tw_767) rfl rfl rfl (ht _ tw_5) (ht _ tw_765) (by decide +kernel) ⟨(Nat.le_of_ble_eq_true rfl), (Nat.le_of_ble_eq_true rfl)⟩, ht _ tw_766⟩ hE hP hD [] rfl rfl rfl hl.1 rfl (Nat.le_of_ble_eq_true rfl) dMo_bars_2 ⟨(Nat.le_of_ble_eq_true rfl), (Nat.le_of_ble_eq_true rfl)⟩) hP hD hS hA [] [0, 1, 2, 3, 4, 5, 6, 7, 8, 9, 10, 11, 12, 13, 14, 15, 16, 17, 18, 19, 20, 21, 22, 23, 24, 25, 26, 27, 28] rfl rfl rfl (by decide) (fun _ H locs _ hP hD hS => ?_)
  have hP : va_P D cls_ (mW h ad ca co M) H := hP
  have hD : va_D A (mW h ad ca co M) := hD
  refine k_if_ne (tgt := 12) hx hb (by omega) dMo_bars_5 rfl (fun hz => absurd hz (by omega)) (fun h5 => ?_)
  refine lv_iconst (v := nI 1) hx hb dMo_bars_8 (by decide) ?_
  refine lv_goto (tgt := 38) hx hb dMo_bars_9 rfl ?_
  exact Co.reti hx hb hret hlk dMo_bars_38 hS hP hD () rfl trivial rfl (Nat.le_of_ble_eq_true rfl) (Nat.le_of_ble_eq_true rfl)
set_option maxHeartbeats 4000000 in
set_option maxRecDepth 100000 in
theorem c_Mo_barsC (l : Launch) (D : va_G) (ca : Nat → ClassId) (h : Nat) (ad : Nat → Nat) (co : Nat) (M : Nat → Nat → Nat) (s₀ : Nat) (hs : s₀ < 2) (y₀ : Int32) (hy0 : y₀ < 0 ∨ nI 3 ≤ y₀) (hi : Nat) : Co (S := Unit) l yMo_bars (Cond.code yMo_bars cMo_bars 4 (some FieldType.int) :: tb_) { frames := 2, cells := 0, slots := 0, locals := 64 } D ca [.ref h, .int (nI s₀), .int y₀, .int (nI hi)] (mW h ad ca co M) (fun _ => some (.int (nI 1))) (fun _ => True) (fun _ => (mW h ad ca co M)) 0 0 := by
  refine Co.of cMo_bars 4 (some FieldType.int) (by decide) (Nat.le_of_ble_eq_true rfl) ?_
  intro p e s m args below meth c A ls fx hret hlk hin hE hP hD hS hA hl
  have hx := fx.1
  have hb := fx.2.1
  have hown : s.vm.findClass RMo = some m.cls := fx.2.2.2.1
  have hts := fx.2.2.2.2
  have ht : ∀ w ∈ tb_, w.before args s = true := fun w h => hts w (List.mem_cons_of_mem _ h)
  have hl : lv_has ls 4 [(0, .ref h), (1, .int (nI s₀)), (2, .int y₀), (3, .int (nI hi))] := hl
  refine lv_iload_n hx hb dMo_bars_0 rfl (lv_at hl 1 rfl) ?_
  refine lv_iload_n hx hb dMo_bars_1 rfl (lv_at hl 2 rfl) ?_
  refine kI (rS fx (c_Mo_channelOfC l D ca s₀ (by omega) y₀ hy0) ⟨callB_of 2 hts (tb_gi tw_767) rfl rfl rfl (ht _ tw_5) (ht _ tw_765) (by decide +kernel) ⟨(Nat.le_of_ble_eq_true rfl), (Nat.le_of_ble_eq_true rfl)⟩, ht _ tw_766⟩ hE hP hD [] rfl rfl rfl hl.1 rfl (Nat.le_of_ble_eq_true rfl) dMo_bars_2 ⟨(Nat.le_of_ble_eq_true rfl), (Nat.le_of_ble_eq_true rfl)⟩) hP hD hS hA [] [0, 1, 2, 3, 4, 5, 6, 7, 8, 9, 10, 11, 12, 13, 14, 15, 16, 17, 18, 19, 20, 21, 22, 23, 24, 25, 26, 27, 28] rfl rfl rfl (by decide) (fun _ H locs _ hP hD hS => ?_)
  have hP : va_P D cls_ (mW h ad ca co M) H := hP
  have hD : va_D A (mW h ad ca co M) := hD
  refine k_if_ne (tgt := 12) hx hb (by omega) dMo_bars_5 rfl (fun hz => absurd hz (by omega)) (fun h5 => ?_)
  refine lv_iconst (v := nI 1) hx hb dMo_bars_8 (by decide) ?_
  refine lv_goto (tgt := 38) hx hb dMo_bars_9 rfl ?_
  exact Co.reti hx hb hret hlk dMo_bars_38 hS hP hD () rfl trivial rfl (Nat.le_of_ble_eq_true rfl) (Nat.le_of_ble_eq_true rfl)
set_option maxHeartbeats 4000000 in
set_option maxRecDepth 100000 in
theorem c_Mo_become (l : Launch) (D : va_G) (ca : Nat → ClassId) (h : Nat) (ad : Nat → Nat) (co : Nat) (M : Nat → Nat → Nat) (s₀ cn : Nat) (hM : mOk M) (hs : s₀ < 2) (hc : cn < 3) (kd nw : Nat) (hk : kd < 9) (hn : nw < 6) : Co (S := Unit) l yMo_become (Cond.code yMo_become cMo_become 5 none :: tb_) { frames := 4, cells := 0, slots := 0, locals := 128 } D ca [.ref h, .int (nI s₀), .int (nI cn), .int (nI kd), .int (nI nw)] (mW h ad ca co M) (fun _ => none) (fun _ => True) (fun _ => (mW h ad ca co (mBec M s₀ cn kd nw))) 0 0 := by
  refine Co.of cMo_become 5 none (by decide) (Nat.le_of_ble_eq_true rfl) ?_
  intro p e s m args below meth c A ls fx hret hlk hin hE hP hD hS hA hl
  have hx := fx.1
  have hb := fx.2.1
  have hown : s.vm.findClass RMo = some m.cls := fx.2.2.2.1
  have hts := fx.2.2.2.2
  have ht : ∀ w ∈ tb_, w.before args s = true := fun w h => hts w (List.mem_cons_of_mem _ h)
  have hl : lv_has ls 5 [(0, .ref h), (1, .int (nI s₀)), (2, .int (nI cn)), (3, .int (nI kd)), (4, .int (nI nw))] := hl
  refine lv_aload_n hx hb dMo_become_0 rfl (lv_at hl 0 rfl) ?_
  refine lv_iload_n hx hb dMo_become_1 rfl (lv_at hl 1 rfl) ?_
  refine lv_iload_n hx hb dMo_become_2 rfl (lv_at hl 3 rfl) ?_
  refine lv_iload_n hx hb dMo_become_3 rfl (lv_at hl 2 rfl) ?_
  refine lv_iconst (v := nI 0) hx hb dMo_become_4 (by decide) ?_
  refine lv_iconst (v := nI 0) hx hb dMo_become_5 (by decide) ?_
  refine lv_iconst (v := nI 0) hx hb dMo_become_6 (by decide) ?_
  refine kV (rV fx (c_Mo_post l D ca h ad co M s₀ kd cn 0 0 0 (by first | assumption | exact mOk.idle (by assumption) _ | exact mOk.clean (by assumption) _ | exact mOk.renew (by assumption) _ | exact (mOk.renew (by assumption) _).set 23 (show 3 < 6 by decide) | exact (mOk.renew (by assumption) _).set 23 (show 5 < 6 by decide)) (by omega) (by omega) (by omega) (by omega) (by omega) (by omega)) ⟨callB_of 6 hts (tb_gi tw_748) rfl rfl rfl (ht _ tw_5) (ht _ tw_745) (by decide +kernel) ⟨(Nat.le_of_ble_eq_true rfl), (Nat.le_of_ble_eq_true rfl)⟩, ht _ tw_747, ht _ tw_858⟩ hE hP hD 0 rfl rfl rfl [0, 1, 2, 3, 4, 5, 6, 7, 8, 9, 10, 11, 12, 13, 14, 15, 16, 17, 18, 19, 20, 21, 22, 23, 24, 25, 26, 27, 28] rfl rfl rfl hl.1 rfl (Nat.le_of_ble_eq_true rfl) dMo_become_7 ⟨(Nat.le_of_ble_eq_true rfl), (Nat.le_of_ble_eq_true rfl)⟩) hP hD hS hA [0, 1, 2, 3, 4, 5, 6, 7, 8, 9, 10, 11, 12, 13, 14, 15, 16, 17, 18, 19, 20, 21, 22, 23, 24, 25, 26, 27, 28] [] rfl rfl rfl (by decide) (fun _ H locs _ hP hD hS => ?_)
  have hP : va_P D cls_ (mW h ad ca co (mPost M s₀ kd cn 0 0 0)) H := hP
  have hD : va_D A (mW h ad ca co (mPost M s₀ kd cn 0 0 0)) := hD
  refine lv_aload_n hx hb dMo_become_10 rfl (lv_at hl 0 rfl) ?_
  refine lv_iconst (v := nI 3) hx hb dMo_become_11 (by decide) ?_
  refine lv_iload_n hx hb dMo_become_12 rfl (lv_at hl 1 rfl) ?_
  refine k_imul hx hb dMo_become_13 ?_
  refine lv_iload_n hx hb dMo_become_14 rfl (lv_at hl 2 rfl) ?_
  refine k_iadd hx hb dMo_become_15 ?_
  refine kV (rV fx (c_Mo_renew l D ca h ad co (mPost M s₀ kd cn 0 0 0) ((3 * s₀) + cn) (by omega)) ⟨callB_of 1 hts (tb_gi tw_702) rfl rfl rfl (ht _ tw_5) (ht _ tw_699) (by decide +kernel) ⟨(Nat.le_of_ble_eq_true rfl), (Nat.le_of_ble_eq_true rfl)⟩, ht _ tw_701, ht _ tw_848⟩ hE hP hD 0 rfl rfl rfl [0, 1, 2, 3, 4, 5, 6, 7, 8, 9, 10, 11, 12, 13, 14, 15, 16, 17, 18, 19, 20, 21, 22, 23, 24, 25, 26, 27, 28] rfl rfl rfl hl.1 rfl (Nat.le_of_ble_eq_true rfl) dMo_become_16 ⟨(Nat.le_of_ble_eq_true rfl), (Nat.le_of_ble_eq_true rfl)⟩) hP hD hS hA [0, 1, 2, 3, 4, 5, 6, 7, 8, 9, 10, 11, 12, 13, 14, 15, 16, 17, 18, 19, 20, 21, 22, 23, 24, 25, 26, 27, 28] [] rfl rfl rfl (by decide) (fun _ H locs _ hP hD hS => ?_)
  have hP : va_P D cls_ (mW h ad ca co (mRenew (mPost M s₀ kd cn 0 0 0) ((3 * s₀) + cn))) H := hP
  have hD : va_D A (mW h ad ca co (mRenew (mPost M s₀ kd cn 0 0 0) ((3 * s₀) + cn))) := hD
  refine lv_aload_n hx hb dMo_become_19 rfl (lv_at hl 0 rfl) ?_
  refine va_get (D := D) (ci := 4) (v := .ref (ad 23)) (C := RMo) (T := TMo) (N := 29) hx hb ht inMo hown hE.1 hP 0 rfl rfl 23 (by decide) (ht _ tw_610) (fun _ h => h) rfl dMo_become_20 ?_
  refine lv_iconst (v := nI 3) hx hb dMo_become_23 (by decide) ?_
  refine lv_iload_n hx hb dMo_become_24 rfl (lv_at hl 1 rfl) ?_
  refine k_imul hx hb dMo_become_25 ?_
  refine lv_iload_n hx hb dMo_become_26 rfl (lv_at hl 2 rfl) ?_
  refine k_iadd hx hb dMo_become_27 ?_
  refine lv_iload hx hb dMo_become_28 (lv_at hl 4 rfl) ?_
  refine k_iast hx hb hE.1 hP hD hS 23 0 (n := 6) (g := ((mRenew (mPost M s₀ kd cn 0 0 0) ((3 * s₀) + cn)) 23)) rfl rfl (i := ((3 * s₀) + cn)) (x := nw) (by omega) (by decide) dMo_become_30 (fun H locs hP hD hS => ?_)
  rw [mo_set_23] at hP hD
  exact Co.retv hx hb hret hlk dMo_become_31 hS hP hD () rfl trivial rfl (Nat.le_of_ble_eq_true rfl) (Nat.le_of_ble_eq_true rfl)
set_option maxHeartbeats 4000000 in
set_option maxRecDepth 100000 in
theorem c_Mo_call (l : Launch) (D : va_G) (ca : Nat → ClassId) (h : Nat) (ad : Nat → Nat) (co : Nat) (M : Nat → Nat → Nat) (s₀ cn : Nat) (hM : mOk M) (hs : s₀ < 2) (hc : cn < 3) (hup : M 10 s₀ = 2 ∧ M 17 s₀ ≤ 9) (hst : M 23 (3 * s₀ + cn) = 0) : Co (S := Unit) l yMo_call (Cond.code yMo_call cMo_call 3 none :: tb_) { frames := 5, cells := 0, slots := 0, locals := 160 } D ca [.ref h, .int (nI s₀), .int (nI cn)] (mW h ad ca co M) (fun _ => none) (fun _ => True) (fun _ => (mW h ad ca 0 (mBec M s₀ cn 1 1))) 0 0 := by
  refine Co.of cMo_call 3 none (by decide) (Nat.le_of_ble_eq_true rfl) ?_
  intro p e s m args below meth c A ls fx hret hlk hin hE hP hD hS hA hl
  have hx := fx.1
  have hb := fx.2.1
  have hown : s.vm.findClass RMo = some m.cls := fx.2.2.2.1
  have hts := fx.2.2.2.2
  have ht : ∀ w ∈ tb_, w.before args s = true := fun w h => hts w (List.mem_cons_of_mem _ h)
  have e3 : (if M 10 s₀ = 2 ∧ M 17 s₀ ≤ 9 then 0 else 2) = 0 := if_pos hup
  have b1 : M 23 (3 * s₀ + cn) < 6 := hM 23 _
  have hl : lv_has ls 3 [(0, .ref h), (1, .int (nI s₀)), (2, .int (nI cn))] := hl
  refine lv_aload_n hx hb dMo_call_0 rfl (lv_at hl 0 rfl) ?_
  refine lv_aload_n hx hb dMo_call_1 rfl (lv_at hl 0 rfl) ?_
  refine lv_iload_n hx hb dMo_call_2 rfl (lv_at hl 1 rfl) ?_
  refine lv_iload_n hx hb dMo_call_3 rfl (lv_at hl 2 rfl) ?_
  refine lv_iconst (v := nI 2) hx hb dMo_call_4 (by decide) ?_
  refine kI (rV fx (c_Mo_bars l D ca h ad co M s₀ cn (by first | assumption | exact mOk.idle (by assumption) _ | exact mOk.clean (by assumption) _ | exact mOk.renew (by assumption) _ | exact (mOk.renew (by assumption) _).set 23 (show 3 < 6 by decide) | exact (mOk.renew (by assumption) _).set 23 (show 5 < 6 by decide)) (by omega) (by omega) 2) ⟨callB_of 3 hts (tb_gi tw_783) rfl rfl rfl (ht _ tw_5) (ht _ tw_780) (by decide +kernel) ⟨(Nat.le_of_ble_eq_true rfl), (Nat.le_of_ble_eq_true rfl)⟩, ht _ tw_782, ht _ tw_861⟩ hE hP hD 0 rfl rfl rfl [0, 1, 2, 3, 4, 5, 6, 7, 8, 9, 10, 11, 12, 13, 14, 15, 16, 17, 18, 19, 20, 21, 22, 23, 24, 25, 26, 27, 28] rfl rfl rfl hl.1 rfl (Nat.le_of_ble_eq_true rfl) dMo_call_5 ⟨(Nat.le_of_ble_eq_true rfl), (Nat.le_of_ble_eq_true rfl)⟩) hP hD hS hA [0, 1, 2, 3, 4, 5, 6, 7, 8, 9, 10, 11, 12, 13, 14, 15, 16, 17, 18, 19, 20, 21, 22, 23, 24, 25, 26, 27, 28] [] rfl rfl rfl (by decide) (fun _ H locs _ hP hD hS => ?_)
  have hP : va_P D cls_ (mW h ad ca co M) H := hP
  have hD : va_D A (mW h ad ca co M) := hD
  refine k_is (y := nI 0) (by rw [e3]) ?_
  refine va_put (D := D) (ci := 4) (v := .int (nI 0)) (ty := .int) (C := RMo) (T := TMo) (N := 29) hx hb ht inMo tyMo tyMo_ok nmMo hown hE.1 hP hD hS 0 rfl rfl 0 (by decide) (ht _ tw_587) (fun _ h => h) rfl (by decide +kernel) rfl rfl (Nat.le_of_ble_eq_true rfl) dMo_call_8 (fun H locs hP hD hS => ?_)
  have hP : va_P D cls_ (mW h ad ca 0 M) H := hP
  have hD : va_D A (mW h ad ca 0 M) := hD
  refine lv_aload_n hx hb dMo_call_11 rfl (lv_at hl 0 rfl) ?_
  refine va_get (D := D) (ci := 4) (v := .int (nI 0)) (C := RMo) (T := TMo) (N := 29) hx hb ht inMo hown hE.1 hP 0 rfl rfl 0 (by decide) (ht _ tw_587) (fun _ h => h) rfl dMo_call_12 ?_
  refine k_if_ne (tgt := 40) hx hb (by omega) dMo_call_15 rfl (fun hz => absurd hz (by omega)) (fun h15 => ?_)
  refine lv_aload_n hx hb dMo_call_18 rfl (lv_at hl 0 rfl) ?_
  refine lv_aload_n hx hb dMo_call_19 rfl (lv_at hl 0 rfl) ?_
  refine va_get (D := D) (ci := 4) (v := .ref (ad 23)) (C := RMo) (T := TMo) (N := 29) hx hb ht inMo hown hE.1 hP 0 rfl rfl 23 (by decide) (ht _ tw_610) (fun _ h => h) rfl dMo_call_20 ?_
  refine lv_iconst (v := nI 3) hx hb dMo_call_23 (by decide) ?_
  refine lv_iload_n hx hb dMo_call_24 rfl (lv_at hl 1 rfl) ?_
  refine k_imul hx hb dMo_call_25 ?_
  refine lv_iload_n hx hb dMo_call_26 rfl (lv_at hl 2 rfl) ?_
  refine k_iadd hx hb dMo_call_27 ?_
  refine k_iald hx hb hE.1 hP 23 0 (n := 6) (g := (M 23)) rfl rfl (i := ((3 * s₀) + cn)) (by omega) (by decide) dMo_call_28 ?_
  refine k_if_ne (tgt := 36) hx hb (by omega) dMo_call_29 rfl (fun hz => absurd hz (by omega)) (fun h29 => ?_)
  refine lv_iconst (v := nI 0) hx hb dMo_call_32 (by decide) ?_
  refine lv_goto (tgt := 37) hx hb dMo_call_33 rfl ?_
  refine va_put (D := D) (ci := 4) (v := .int (nI 0)) (ty := .int) (C := RMo) (T := TMo) (N := 29) hx hb ht inMo tyMo tyMo_ok nmMo hown hE.1 hP hD hS 0 rfl rfl 0 (by decide) (ht _ tw_587) (fun _ h => h) rfl (by decide +kernel) rfl rfl (Nat.le_of_ble_eq_true rfl) dMo_call_37 (fun H locs hP hD hS => ?_)
  have hP : va_P D cls_ (mW h ad ca 0 M) H := hP
  have hD : va_D A (mW h ad ca 0 M) := hD
  refine lv_aload_n hx hb dMo_call_40 rfl (lv_at hl 0 rfl) ?_
  refine va_get (D := D) (ci := 4) (v := .int (nI 0)) (C := RMo) (T := TMo) (N := 29) hx hb ht inMo hown hE.1 hP 0 rfl rfl 0 (by decide) (ht _ tw_587) (fun _ h => h) rfl dMo_call_41 ?_
  refine k_if_ne (tgt := 55) hx hb (by omega) dMo_call_44 rfl (fun hz => absurd hz (by omega)) (fun h44 => ?_)
  refine lv_aload_n hx hb dMo_call_47 rfl (lv_at hl 0 rfl) ?_
  refine lv_iload_n hx hb dMo_call_48 rfl (lv_at hl 1 rfl) ?_
  refine lv_iload_n hx hb dMo_call_49 rfl (lv_at hl 2 rfl) ?_
  refine lv_iconst (v := nI 1) hx hb dMo_call_50 (by decide) ?_
  refine lv_iconst (v := nI 1) hx hb dMo_call_51 (by decide) ?_
  refine kV (rV fx (c_Mo_become l D ca h ad 0 M s₀ cn (by first | assumption | exact mOk.idle (by assumption) _ | exact mOk.clean (by assumption) _ | exact mOk.renew (by assumption) _ | exact (mOk.renew (by assumption) _).set 23 (show 3 < 6 by decide) | exact (mOk.renew (by assumption) _).set 23 (show 5 < 6 by decide)) (by omega) (by omega) 1 1 (by omega) (by omega)) ⟨callB_of 4 hts (tb_gi tw_787) rfl rfl rfl (ht _ tw_5) (ht _ tw_784) (by decide +kernel) ⟨(Nat.le_of_ble_eq_true rfl), (Nat.le_of_ble_eq_true rfl)⟩, ht _ tw_786, ht _ tw_862⟩ hE hP hD 0 rfl rfl rfl [0, 1, 2, 3, 4, 5, 6, 7, 8, 9, 10, 11, 12, 13, 14, 15, 16, 17, 18, 19, 20, 21, 22, 23, 24, 25, 26, 27, 28] rfl rfl rfl hl.1 rfl (Nat.le_of_ble_eq_true rfl) dMo_call_52 ⟨(Nat.le_of_ble_eq_true rfl), (Nat.le_of_ble_eq_true rfl)⟩) hP hD hS hA [0, 1, 2, 3, 4, 5, 6, 7, 8, 9, 10, 11, 12, 13, 14, 15, 16, 17, 18, 19, 20, 21, 22, 23, 24, 25, 26, 27, 28] [] rfl rfl rfl (by decide) (fun _ H locs _ hP hD hS => ?_)
  have hP : va_P D cls_ (mW h ad ca 0 (mBec M s₀ cn 1 1)) H := hP
  have hD : va_D A (mW h ad ca 0 (mBec M s₀ cn 1 1)) := hD
  exact Co.retv hx hb hret hlk dMo_call_55 hS hP hD () rfl trivial rfl (Nat.le_of_ble_eq_true rfl) (Nat.le_of_ble_eq_true rfl)
set_option maxHeartbeats 4000000 in
set_option maxRecDepth 100000 in
theorem c_Mo_callS (l : Launch) (D : va_G) (ca : Nat → ClassId) (h : Nat) (ad : Nat → Nat) (co : Nat) (M : Nat → Nat → Nat) (s₀ cn : Nat) (hM : mOk M) (hs : s₀ < 2) (hc : cn < 3) (hup : M 10 s₀ = 2 ∧ M 17 s₀ ≤ 9) (hst : ¬ M 23 (3 * s₀ + cn) = 0) : Co (S := Unit) l yMo_call (Cond.code yMo_call cMo_call 3 none :: tb_) { frames := 5, cells := 0, slots := 0, locals := 160 } D ca [.ref h, .int (nI s₀), .int (nI cn)] (mW h ad ca co M) (fun _ => none) (fun _ => True) (fun _ => (mW h ad ca 2 M)) 0 0 := by
  refine Co.of cMo_call 3 none (by decide) (Nat.le_of_ble_eq_true rfl) ?_
  intro p e s m args below meth c A ls fx hret hlk hin hE hP hD hS hA hl
  have hx := fx.1
  have hb := fx.2.1
  have hown : s.vm.findClass RMo = some m.cls := fx.2.2.2.1
  have hts := fx.2.2.2.2
  have ht : ∀ w ∈ tb_, w.before args s = true := fun w h => hts w (List.mem_cons_of_mem _ h)
  have e3 : (if M 10 s₀ = 2 ∧ M 17 s₀ ≤ 9 then 0 else 2) = 0 := if_pos hup
  have b1 : M 23 (3 * s₀ + cn) < 6 := hM 23 _
  have hl : lv_has ls 3 [(0, .ref h), (1, .int (nI s₀)), (2, .int (nI cn))] := hl
  refine lv_aload_n hx hb dMo_call_0 rfl (lv_at hl 0 rfl) ?_
  refine lv_aload_n hx hb dMo_call_1 rfl (lv_at hl 0 rfl) ?_
  refine lv_iload_n hx hb dMo_call_2 rfl (lv_at hl 1 rfl) ?_
  refine lv_iload_n hx hb dMo_call_3 rfl (lv_at hl 2 rfl) ?_
  refine lv_iconst (v := nI 2) hx hb dMo_call_4 (by decide) ?_
  refine kI (rV fx (c_Mo_bars l D ca h ad co M s₀ cn (by first | assumption | exact mOk.idle (by assumption) _ | exact mOk.clean (by assumption) _ | exact mOk.renew (by assumption) _ | exact (mOk.renew (by assumption) _).set 23 (show 3 < 6 by decide) | exact (mOk.renew (by assumption) _).set 23 (show 5 < 6 by decide)) (by omega) (by omega) 2) ⟨callB_of 3 hts (tb_gi tw_783) rfl rfl rfl (ht _ tw_5) (ht _ tw_780) (by decide +kernel) ⟨(Nat.le_of_ble_eq_true rfl), (Nat.le_of_ble_eq_true rfl)⟩, ht _ tw_782, ht _ tw_861⟩ hE hP hD 0 rfl rfl rfl [0, 1, 2, 3, 4, 5, 6, 7, 8, 9, 10, 11, 12, 13, 14, 15, 16, 17, 18, 19, 20, 21, 22, 23, 24, 25, 26, 27, 28] rfl rfl rfl hl.1 rfl (Nat.le_of_ble_eq_true rfl) dMo_call_5 ⟨(Nat.le_of_ble_eq_true rfl), (Nat.le_of_ble_eq_true rfl)⟩) hP hD hS hA [0, 1, 2, 3, 4, 5, 6, 7, 8, 9, 10, 11, 12, 13, 14, 15, 16, 17, 18, 19, 20, 21, 22, 23, 24, 25, 26, 27, 28] [] rfl rfl rfl (by decide) (fun _ H locs _ hP hD hS => ?_)
  have hP : va_P D cls_ (mW h ad ca co M) H := hP
  have hD : va_D A (mW h ad ca co M) := hD
  refine k_is (y := nI 0) (by rw [e3]) ?_
  refine va_put (D := D) (ci := 4) (v := .int (nI 0)) (ty := .int) (C := RMo) (T := TMo) (N := 29) hx hb ht inMo tyMo tyMo_ok nmMo hown hE.1 hP hD hS 0 rfl rfl 0 (by decide) (ht _ tw_587) (fun _ h => h) rfl (by decide +kernel) rfl rfl (Nat.le_of_ble_eq_true rfl) dMo_call_8 (fun H locs hP hD hS => ?_)
  have hP : va_P D cls_ (mW h ad ca 0 M) H := hP
  have hD : va_D A (mW h ad ca 0 M) := hD
  refine lv_aload_n hx hb dMo_call_11 rfl (lv_at hl 0 rfl) ?_
  refine va_get (D := D) (ci := 4) (v := .int (nI 0)) (C := RMo) (T := TMo) (N := 29) hx hb ht inMo hown hE.1 hP 0 rfl rfl 0 (by decide) (ht _ tw_587) (fun _ h => h) rfl dMo_call_12 ?_
  refine k_if_ne (tgt := 40) hx hb (by omega) dMo_call_15 rfl (fun hz => absurd hz (by omega)) (fun h15 => ?_)
  refine lv_aload_n hx hb dMo_call_18 rfl (lv_at hl 0 rfl) ?_
  refine lv_aload_n hx hb dMo_call_19 rfl (lv_at hl 0 rfl) ?_
  refine va_get (D := D) (ci := 4) (v := .ref (ad 23)) (C := RMo) (T := TMo) (N := 29) hx hb ht inMo hown hE.1 hP 0 rfl rfl 23 (by decide) (ht _ tw_610) (fun _ h => h) rfl dMo_call_20 ?_
  refine lv_iconst (v := nI 3) hx hb dMo_call_23 (by decide) ?_
  refine lv_iload_n hx hb dMo_call_24 rfl (lv_at hl 1 rfl) ?_
  refine k_imul hx hb dMo_call_25 ?_
  refine lv_iload_n hx hb dMo_call_26 rfl (lv_at hl 2 rfl) ?_
  refine k_iadd hx hb dMo_call_27 ?_
  refine k_iald hx hb hE.1 hP 23 0 (n := 6) (g := (M 23)) rfl rfl (i := ((3 * s₀) + cn)) (by omega) (by decide) dMo_call_28 ?_
  refine k_if_ne (tgt := 36) hx hb (by omega) dMo_call_29 rfl (fun h29 => ?_) (fun hz => absurd hz (by omega))
  refine lv_iconst (v := nI 2) hx hb dMo_call_36 (by decide) ?_
  refine va_put (D := D) (ci := 4) (v := .int (nI 2)) (ty := .int) (C := RMo) (T := TMo) (N := 29) hx hb ht inMo tyMo tyMo_ok nmMo hown hE.1 hP hD hS 0 rfl rfl 0 (by decide) (ht _ tw_587) (fun _ h => h) rfl (by decide +kernel) rfl rfl (Nat.le_of_ble_eq_true rfl) dMo_call_37 (fun H locs hP hD hS => ?_)
  have hP : va_P D cls_ (mW h ad ca 2 M) H := hP
  have hD : va_D A (mW h ad ca 2 M) := hD
  refine lv_aload_n hx hb dMo_call_40 rfl (lv_at hl 0 rfl) ?_
  refine va_get (D := D) (ci := 4) (v := .int (nI 2)) (C := RMo) (T := TMo) (N := 29) hx hb ht inMo hown hE.1 hP 0 rfl rfl 0 (by decide) (ht _ tw_587) (fun _ h => h) rfl dMo_call_41 ?_
  refine k_if_ne (tgt := 55) hx hb (by omega) dMo_call_44 rfl (fun h44 => ?_) (fun hz => absurd hz (by omega))
  exact Co.retv hx hb hret hlk dMo_call_55 hS hP hD () rfl trivial rfl (Nat.le_of_ble_eq_true rfl) (Nat.le_of_ble_eq_true rfl)
set_option maxHeartbeats 4000000 in
set_option maxRecDepth 100000 in
theorem c_Mo_callU (l : Launch) (D : va_G) (ca : Nat → ClassId) (h : Nat) (ad : Nat → Nat) (co : Nat) (M : Nat → Nat → Nat) (s₀ cn : Nat) (hM : mOk M) (hs : s₀ < 2) (hc : cn < 3) (hup : ¬ (M 10 s₀ = 2 ∧ M 17 s₀ ≤ 9)) : Co (S := Unit) l yMo_call (Cond.code yMo_call cMo_call 3 none :: tb_) { frames := 5, cells := 0, slots := 0, locals := 160 } D ca [.ref h, .int (nI s₀), .int (nI cn)] (mW h ad ca co M) (fun _ => none) (fun _ => True) (fun _ => (mW h ad ca 2 M)) 0 0 := by
  refine Co.of cMo_call 3 none (by decide) (Nat.le_of_ble_eq_true rfl) ?_
  intro p e s m args below meth c A ls fx hret hlk hin hE hP hD hS hA hl
  have hx := fx.1
  have hb := fx.2.1
  have hown : s.vm.findClass RMo = some m.cls := fx.2.2.2.1
  have hts := fx.2.2.2.2
  have ht : ∀ w ∈ tb_, w.before args s = true := fun w h => hts w (List.mem_cons_of_mem _ h)
  have e3 : (if M 10 s₀ = 2 ∧ M 17 s₀ ≤ 9 then 0 else 2) = 2 := if_neg hup
  have hl : lv_has ls 3 [(0, .ref h), (1, .int (nI s₀)), (2, .int (nI cn))] := hl
  refine lv_aload_n hx hb dMo_call_0 rfl (lv_at hl 0 rfl) ?_
  refine lv_aload_n hx hb dMo_call_1 rfl (lv_at hl 0 rfl) ?_
  refine lv_iload_n hx hb dMo_call_2 rfl (lv_at hl 1 rfl) ?_
  refine lv_iload_n hx hb dMo_call_3 rfl (lv_at hl 2 rfl) ?_
  refine lv_iconst (v := nI 2) hx hb dMo_call_4 (by decide) ?_
  refine kI (rV fx (c_Mo_bars l D ca h ad co M s₀ cn (by first | assumption | exact mOk.idle (by assumption) _ | exact mOk.clean (by assumption) _ | exact mOk.renew (by assumption) _ | exact (mOk.renew (by assumption) _).set 23 (show 3 < 6 by decide) | exact (mOk.renew (by assumption) _).set 23 (show 5 < 6 by decide)) (by omega) (by omega) 2) ⟨callB_of 3 hts (tb_gi tw_783) rfl rfl rfl (ht _ tw_5) (ht _ tw_780) (by decide +kernel) ⟨(Nat.le_of_ble_eq_true rfl), (Nat.le_of_ble_eq_true rfl)⟩, ht _ tw_782, ht _ tw_861⟩ hE hP hD 0 rfl rfl rfl [0, 1, 2, 3, 4, 5, 6, 7, 8, 9, 10, 11, 12, 13, 14, 15, 16, 17, 18, 19, 20, 21, 22, 23, 24, 25, 26, 27, 28] rfl rfl rfl hl.1 rfl (Nat.le_of_ble_eq_true rfl) dMo_call_5 ⟨(Nat.le_of_ble_eq_true rfl), (Nat.le_of_ble_eq_true rfl)⟩) hP hD hS hA [0, 1, 2, 3, 4, 5, 6, 7, 8, 9, 10, 11, 12, 13, 14, 15, 16, 17, 18, 19, 20, 21, 22, 23, 24, 25, 26, 27, 28] [] rfl rfl rfl (by decide) (fun _ H locs _ hP hD hS => ?_)
  have hP : va_P D cls_ (mW h ad ca co M) H := hP
  have hD : va_D A (mW h ad ca co M) := hD
  refine k_is (y := nI 2) (by rw [e3]) ?_
  refine va_put (D := D) (ci := 4) (v := .int (nI 2)) (ty := .int) (C := RMo) (T := TMo) (N := 29) hx hb ht inMo tyMo tyMo_ok nmMo hown hE.1 hP hD hS 0 rfl rfl 0 (by decide) (ht _ tw_587) (fun _ h => h) rfl (by decide +kernel) rfl rfl (Nat.le_of_ble_eq_true rfl) dMo_call_8 (fun H locs hP hD hS => ?_)
  have hP : va_P D cls_ (mW h ad ca 2 M) H := hP
  have hD : va_D A (mW h ad ca 2 M) := hD
  refine lv_aload_n hx hb dMo_call_11 rfl (lv_at hl 0 rfl) ?_
  refine va_get (D := D) (ci := 4) (v := .int (nI 2)) (C := RMo) (T := TMo) (N := 29) hx hb ht inMo hown hE.1 hP 0 rfl rfl 0 (by decide) (ht _ tw_587) (fun _ h => h) rfl dMo_call_12 ?_
  refine k_if_ne (tgt := 40) hx hb (by omega) dMo_call_15 rfl (fun h15 => ?_) (fun hz => absurd hz (by omega))
  refine lv_aload_n hx hb dMo_call_40 rfl (lv_at hl 0 rfl) ?_
  refine va_get (D := D) (ci := 4) (v := .int (nI 2)) (C := RMo) (T := TMo) (N := 29) hx hb ht inMo hown hE.1 hP 0 rfl rfl 0 (by decide) (ht _ tw_587) (fun _ h => h) rfl dMo_call_41 ?_
  refine k_if_ne (tgt := 55) hx hb (by omega) dMo_call_44 rfl (fun h44 => ?_) (fun hz => absurd hz (by omega))
  exact Co.retv hx hb hret hlk dMo_call_55 hS hP hD () rfl trivial rfl (Nat.le_of_ble_eq_true rfl) (Nat.le_of_ble_eq_true rfl)
set_option maxHeartbeats 4000000 in
set_option maxRecDepth 100000 in
theorem c_Mo_callX (l : Launch) (D : va_G) (ca : Nat → ClassId) (h : Nat) (ad : Nat → Nat) (co : Nat) (M : Nat → Nat → Nat) (x₀ : Int32) (hx0 : ¬ x₀ = 0) (hx1 : ¬ x₀ = nI 1) (y₀ : Int32) : Co (S := Unit) l yMo_call (Cond.code yMo_call cMo_call 3 none :: tb_) { frames := 5, cells := 0, slots := 0, locals := 160 } D ca [.ref h, .int x₀, .int y₀] (mW h ad ca co M) (fun _ => none) (fun _ => True) (fun _ => (mW h ad ca 1 M)) 0 0 := by
  refine Co.of cMo_call 3 none (by decide) (Nat.le_of_ble_eq_true rfl) ?_
  intro p e s m args below meth c A ls fx hret hlk hin hE hP hD hS hA hl
  have hx := fx.1
  have hb := fx.2.1
  have hown : s.vm.findClass RMo = some m.cls := fx.2.2.2.1
  have hts := fx.2.2.2.2
  have ht : ∀ w ∈ tb_, w.before args s = true := fun w h => hts w (List.mem_cons_of_mem _ h)
  have hl : lv_has ls 3 [(0, .ref h), (1, .int x₀), (2, .int y₀)] := hl
  refine lv_aload_n hx hb dMo_call_0 rfl (lv_at hl 0 rfl) ?_
  refine lv_aload_n hx hb dMo_call_1 rfl (lv_at hl 0 rfl) ?_
  refine lv_iload_n hx hb dMo_call_2 rfl (lv_at hl 1 rfl) ?_
  refine lv_iload_n hx hb dMo_call_3 rfl (lv_at hl 2 rfl) ?_
  refine lv_iconst (v := nI 2) hx hb dMo_call_4 (by decide) ?_
  refine kI (rV fx (c_Mo_barsX l D ca h ad co M x₀ hx0 hx1 y₀ 2) ⟨callB_of 3 hts (tb_gi tw_783) rfl rfl rfl (ht _ tw_5) (ht _ tw_780) (by decide +kernel) ⟨(Nat.le_of_ble_eq_true rfl), (Nat.le_of_ble_eq_true rfl)⟩, ht _ tw_782, ht _ tw_861⟩ hE hP hD 0 rfl rfl rfl [0, 1, 2, 3, 4, 5, 6, 7, 8, 9, 10, 11, 12, 13, 14, 15, 16, 17, 18, 19, 20, 21, 22, 23, 24, 25, 26, 27, 28] rfl rfl rfl hl.1 rfl (Nat.le_of_ble_eq_true rfl) dMo_call_5 ⟨(Nat.le_of_ble_eq_true rfl), (Nat.le_of_ble_eq_true rfl)⟩) hP hD hS hA [0, 1, 2, 3, 4, 5, 6, 7, 8, 9, 10, 11, 12, 13, 14, 15, 16, 17, 18, 19, 20, 21, 22, 23, 24, 25, 26, 27, 28] [] rfl rfl rfl (by decide) (fun _ H locs _ hP hD hS => ?_)
  have hP : va_P D cls_ (mW h ad ca co M) H := hP
  have hD : va_D A (mW h ad ca co M) := hD
  refine va_put (D := D) (ci := 4) (v := .int (nI 1)) (ty := .int) (C := RMo) (T := TMo) (N := 29) hx hb ht inMo tyMo tyMo_ok nmMo hown hE.1 hP hD hS 0 rfl rfl 0 (by decide) (ht _ tw_587) (fun _ h => h) rfl (by decide +kernel) rfl rfl (Nat.le_of_ble_eq_true rfl) dMo_call_8 (fun H locs hP hD hS => ?_)
  have hP : va_P D cls_ (mW h ad ca 1 M) H := hP
  have hD : va_D A (mW h ad ca 1 M) := hD
  refine lv_aload_n hx hb dMo_call_11 rfl (lv_at hl 0 rfl) ?_
  refine va_get (D := D) (ci := 4) (v := .int (nI 1)) (C := RMo) (T := TMo) (N := 29) hx hb ht inMo hown hE.1 hP 0 rfl rfl 0 (by decide) (ht _ tw_587) (fun _ h => h) rfl dMo_call_12 ?_
  refine k_if_ne (tgt := 40) hx hb (by omega) dMo_call_15 rfl (fun h15 => ?_) (fun hz => absurd hz (by omega))
  refine lv_aload_n hx hb dMo_call_40 rfl (lv_at hl 0 rfl) ?_
  refine va_get (D := D) (ci := 4) (v := .int (nI 1)) (C := RMo) (T := TMo) (N := 29) hx hb ht inMo hown hE.1 hP 0 rfl rfl 0 (by decide) (ht _ tw_587) (fun _ h => h) rfl dMo_call_41 ?_
  refine k_if_ne (tgt := 55) hx hb (by omega) dMo_call_44 rfl (fun h44 => ?_) (fun hz => absurd hz (by omega))
  exact Co.retv hx hb hret hlk dMo_call_55 hS hP hD () rfl trivial rfl (Nat.le_of_ble_eq_true rfl) (Nat.le_of_ble_eq_true rfl)
set_option maxHeartbeats 4000000 in
set_option maxRecDepth 100000 in
theorem c_Mo_callC (l : Launch) (D : va_G) (ca : Nat → ClassId) (h : Nat) (ad : Nat → Nat) (co : Nat) (M : Nat → Nat → Nat) (s₀ : Nat) (hs : s₀ < 2) (y₀ : Int32) (hy0 : y₀ < 0 ∨ nI 3 ≤ y₀) : Co (S := Unit) l yMo_call (Cond.code yMo_call cMo_call 3 none :: tb_) { frames := 5, cells := 0, slots := 0, locals := 160 } D ca [.ref h, .int (nI s₀), .int y₀] (mW h ad ca co M) (fun _ => none) (fun _ => True) (fun _ => (mW h ad ca 1 M)) 0 0 := by
  refine Co.of cMo_call 3 none (by decide) (Nat.le_of_ble_eq_true rfl) ?_
  intro p e s m args below meth c A ls fx hret hlk hin hE hP hD hS hA hl
  have hx := fx.1
  have hb := fx.2.1
  have hown : s.vm.findClass RMo = some m.cls := fx.2.2.2.1
  have hts := fx.2.2.2.2
  have ht : ∀ w ∈ tb_, w.before args s = true := fun w h => hts w (List.mem_cons_of_mem _ h)
  have hl : lv_has ls 3 [(0, .ref h), (1, .int (nI s₀)), (2, .int y₀)] := hl
  refine lv_aload_n hx hb dMo_call_0 rfl (lv_at hl 0 rfl) ?_
  refine lv_aload_n hx hb dMo_call_1 rfl (lv_at hl 0 rfl) ?_
  refine lv_iload_n hx hb dMo_call_2 rfl (lv_at hl 1 rfl) ?_
  refine lv_iload_n hx hb dMo_call_3 rfl (lv_at hl 2 rfl) ?_
  refine lv_iconst (v := nI 2) hx hb dMo_call_4 (by decide) ?_
  refine kI (rV fx (c_Mo_barsC l D ca h ad co M s₀ (by omega) y₀ hy0 2) ⟨callB_of 3 hts (tb_gi tw_783) rfl rfl rfl (ht _ tw_5) (ht _ tw_780) (by decide +kernel) ⟨(Nat.le_of_ble_eq_true rfl), (Nat.le_of_ble_eq_true rfl)⟩, ht _ tw_782, ht _ tw_861⟩ hE hP hD 0 rfl rfl rfl [0, 1, 2, 3, 4, 5, 6, 7, 8, 9, 10, 11, 12, 13, 14, 15, 16, 17, 18, 19, 20, 21, 22, 23, 24, 25, 26, 27, 28] rfl rfl rfl hl.1 rfl (Nat.le_of_ble_eq_true rfl) dMo_call_5 ⟨(Nat.le_of_ble_eq_true rfl), (Nat.le_of_ble_eq_true rfl)⟩) hP hD hS hA [0, 1, 2, 3, 4, 5, 6, 7, 8, 9, 10, 11, 12, 13, 14, 15, 16, 17, 18, 19, 20, 21, 22, 23, 24, 25, 26, 27, 28] [] rfl rfl rfl (by decide) (fun _ H locs _ hP hD hS => ?_)
  have hP : va_P D cls_ (mW h ad ca co M) H := hP
  have hD : va_D A (mW h ad ca co M) := hD
  refine va_put (D := D) (ci := 4) (v := .int (nI 1)) (ty := .int) (C := RMo) (T := TMo) (N := 29) hx hb ht inMo tyMo tyMo_ok nmMo hown hE.1 hP hD hS 0 rfl rfl 0 (by decide) (ht _ tw_587) (fun _ h => h) rfl (by decide +kernel) rfl rfl (Nat.le_of_ble_eq_true rfl) dMo_call_8 (fun H locs hP hD hS => ?_)
  have hP : va_P D cls_ (mW h ad ca 1 M) H := hP
  have hD : va_D A (mW h ad ca 1 M) := hD
  refine lv_aload_n hx hb dMo_call_11 rfl (lv_at hl 0 rfl) ?_
  refine va_get (D := D) (ci := 4) (v := .int (nI 1)) (C := RMo) (T := TMo) (N := 29) hx hb ht inMo hown hE.1 hP 0 rfl rfl 0 (by decide) (ht _ tw_587) (fun _ h => h) rfl dMo_call_12 ?_
  refine k_if_ne (tgt := 40) hx hb (by omega) dMo_call_15 rfl (fun h15 => ?_) (fun hz => absurd hz (by omega))
  refine lv_aload_n hx hb dMo_call_40 rfl (lv_at hl 0 rfl) ?_
  refine va_get (D := D) (ci := 4) (v := .int (nI 1)) (C := RMo) (T := TMo) (N := 29) hx hb ht inMo hown hE.1 hP 0 rfl rfl 0 (by decide) (ht _ tw_587) (fun _ h => h) rfl dMo_call_41 ?_
  refine k_if_ne (tgt := 55) hx hb (by omega) dMo_call_44 rfl (fun h44 => ?_) (fun hz => absurd hz (by omega))
  exact Co.retv hx hb hret hlk dMo_call_55 hS hP hD () rfl trivial rfl (Nat.le_of_ble_eq_true rfl) (Nat.le_of_ble_eq_true rfl)
set_option maxHeartbeats 4000000 in
set_option maxRecDepth 100000 in
theorem c_Mo_accept (l : Launch) (D : va_G) (ca : Nat → ClassId) (h : Nat) (ad : Nat → Nat) (co : Nat) (M : Nat → Nat → Nat) (s₀ cn : Nat) (hM : mOk M) (hs : s₀ < 2) (hc : cn < 3) (hup : M 10 s₀ = 2 ∧ M 17 s₀ ≤ 9) (hst : M 23 (3 * s₀ + cn) = 2) : Co (S := Unit) l yMo_accept (Cond.code yMo_accept cMo_accept 3 none :: tb_) { frames := 5, cells := 0, slots := 0, locals := 160 } D ca [.ref h, .int (nI s₀), .int (nI cn)] (mW h ad ca co M) (fun _ => none) (fun _ => True) (fun _ => (mW h ad ca 0 (mBec M s₀ cn 2 3))) 0 0 := by
  refine Co.of cMo_accept 3 none (by decide) (Nat.le_of_ble_eq_true rfl) ?_
  intro p e s m args below meth c A ls fx hret hlk hin hE hP hD hS hA hl
  have hx := fx.1
  have hb := fx.2.1
  have hown : s.vm.findClass RMo = some m.cls := fx.2.2.2.1
  have hts := fx.2.2.2.2
  have ht : ∀ w ∈ tb_, w.before args s = true := fun w h => hts w (List.mem_cons_of_mem _ h)
  have e3 : (if M 10 s₀ = 2 ∧ M 17 s₀ ≤ 9 then 0 else 2) = 0 := if_pos hup
  have b1 : M 23 (3 * s₀ + cn) < 6 := hM 23 _
  have hl : lv_has ls 3 [(0, .ref h), (1, .int (nI s₀)), (2, .int (nI cn))] := hl
  refine lv_aload_n hx hb dMo_accept_0 rfl (lv_at hl 0 rfl) ?_
  refine lv_aload_n hx hb dMo_accept_1 rfl (lv_at hl 0 rfl) ?_
  refine lv_iload_n hx hb dMo_accept_2 rfl (lv_at hl 1 rfl) ?_
  refine lv_iload_n hx hb dMo_accept_3 rfl (lv_at hl 2 rfl) ?_
  refine lv_iconst (v := nI 2) hx hb dMo_accept_4 (by decide) ?_
  refine kI (rV fx (c_Mo_bars l D ca h ad co M s₀ cn (by first | assumption | exact mOk.idle (by assumption) _ | exact mOk.clean (by assumption) _ | exact mOk.renew (by assumption) _ | exact (mOk.renew (by assumption) _).set 23 (show 3 < 6 by decide) | exact (mOk.renew (by assumption) _).set 23 (show 5 < 6 by decide)) (by omega) (by omega) 2) ⟨callB_of 3 hts (tb_gi tw_783) rfl rfl rfl (ht _ tw_5) (ht _ tw_780) (by decide +kernel) ⟨(Nat.le_of_ble_eq_true rfl), (Nat.le_of_ble_eq_true rfl)⟩, ht _ tw_782, ht _ tw_861⟩ hE hP hD 0 rfl rfl rfl [0, 1, 2, 3, 4, 5, 6, 7, 8, 9, 10, 11, 12, 13, 14, 15, 16, 17, 18, 19, 20, 21, 22, 23, 24, 25, 26, 27, 28] rfl rfl rfl hl.1 rfl (Nat.le_of_ble_eq_true rfl) dMo_accept_5 ⟨(Nat.le_of_ble_eq_true rfl), (Nat.le_of_ble_eq_true rfl)⟩) hP hD hS hA [0, 1, 2, 3, 4, 5, 6, 7, 8, 9, 10, 11, 12, 13, 14, 15, 16, 17, 18, 19, 20, 21, 22, 23, 24, 25, 26, 27, 28] [] rfl rfl rfl (by decide) (fun _ H locs _ hP hD hS => ?_)
  have hP : va_P D cls_ (mW h ad ca co M) H := hP
  have hD : va_D A (mW h ad ca co M) := hD
  refine k_is (y := nI 0) (by rw [e3]) ?_
  refine va_put (D := D) (ci := 4) (v := .int (nI 0)) (ty := .int) (C := RMo) (T := TMo) (N := 29) hx hb ht inMo tyMo tyMo_ok nmMo hown hE.1 hP hD hS 0 rfl rfl 0 (by decide) (ht _ tw_587) (fun _ h => h) rfl (by decide +kernel) rfl rfl (Nat.le_of_ble_eq_true rfl) dMo_accept_8 (fun H locs hP hD hS => ?_)
  have hP : va_P D cls_ (mW h ad ca 0 M) H := hP
  have hD : va_D A (mW h ad ca 0 M) := hD
  refine lv_aload_n hx hb dMo_accept_11 rfl (lv_at hl 0 rfl) ?_
  refine va_get (D := D) (ci := 4) (v := .int (nI 0)) (C := RMo) (T := TMo) (N := 29) hx hb ht inMo hown hE.1 hP 0 rfl rfl 0 (by decide) (ht _ tw_587) (fun _ h => h) rfl dMo_accept_12 ?_
  refine k_if_ne (tgt := 41) hx hb (by omega) dMo_accept_15 rfl (fun hz => absurd hz (by omega)) (fun h15 => ?_)
  refine lv_aload_n hx hb dMo_accept_18 rfl (lv_at hl 0 rfl) ?_
  refine lv_aload_n hx hb dMo_accept_19 rfl (lv_at hl 0 rfl) ?_
  refine va_get (D := D) (ci := 4) (v := .ref (ad 23)) (C := RMo) (T := TMo) (N := 29) hx hb ht inMo hown hE.1 hP 0 rfl rfl 23 (by decide) (ht _ tw_610) (fun _ h => h) rfl dMo_accept_20 ?_
  refine lv_iconst (v := nI 3) hx hb dMo_accept_23 (by decide) ?_
  refine lv_iload_n hx hb dMo_accept_24 rfl (lv_at hl 1 rfl) ?_
  refine k_imul hx hb dMo_accept_25 ?_
  refine lv_iload_n hx hb dMo_accept_26 rfl (lv_at hl 2 rfl) ?_
  refine k_iadd hx hb dMo_accept_27 ?_
  refine k_iald hx hb hE.1 hP 23 0 (n := 6) (g := (M 23)) rfl rfl (i := ((3 * s₀) + cn)) (by omega) (by decide) dMo_accept_28 ?_
  refine lv_iconst (v := nI 2) hx hb dMo_accept_29 (by decide) ?_
  refine k_icmp_ne (tgt := 37) hx hb (by omega) (by omega) dMo_accept_30 rfl (fun hz => absurd hz (by omega)) (fun h30 => ?_)
  refine lv_iconst (v := nI 0) hx hb dMo_accept_33 (by decide) ?_
  refine lv_goto (tgt := 38) hx hb dMo_accept_34 rfl ?_
  refine va_put (D := D) (ci := 4) (v := .int (nI 0)) (ty := .int) (C := RMo) (T := TMo) (N := 29) hx hb ht inMo tyMo tyMo_ok nmMo hown hE.1 hP hD hS 0 rfl rfl 0 (by decide) (ht _ tw_587) (fun _ h => h) rfl (by decide +kernel) rfl rfl (Nat.le_of_ble_eq_true rfl) dMo_accept_38 (fun H locs hP hD hS => ?_)
  have hP : va_P D cls_ (mW h ad ca 0 M) H := hP
  have hD : va_D A (mW h ad ca 0 M) := hD
  refine lv_aload_n hx hb dMo_accept_41 rfl (lv_at hl 0 rfl) ?_
  refine va_get (D := D) (ci := 4) (v := .int (nI 0)) (C := RMo) (T := TMo) (N := 29) hx hb ht inMo hown hE.1 hP 0 rfl rfl 0 (by decide) (ht _ tw_587) (fun _ h => h) rfl dMo_accept_42 ?_
  refine k_if_ne (tgt := 56) hx hb (by omega) dMo_accept_45 rfl (fun hz => absurd hz (by omega)) (fun h45 => ?_)
  refine lv_aload_n hx hb dMo_accept_48 rfl (lv_at hl 0 rfl) ?_
  refine lv_iload_n hx hb dMo_accept_49 rfl (lv_at hl 1 rfl) ?_
  refine lv_iload_n hx hb dMo_accept_50 rfl (lv_at hl 2 rfl) ?_
  refine lv_iconst (v := nI 2) hx hb dMo_accept_51 (by decide) ?_
  refine lv_iconst (v := nI 3) hx hb dMo_accept_52 (by decide) ?_
  refine kV (rV fx (c_Mo_become l D ca h ad 0 M s₀ cn (by first | assumption | exact mOk.idle (by assumption) _ | exact mOk.clean (by assumption) _ | exact mOk.renew (by assumption) _ | exact (mOk.renew (by assumption) _).set 23 (show 3 < 6 by decide) | exact (mOk.renew (by assumption) _).set 23 (show 5 < 6 by decide)) (by omega) (by omega) 2 3 (by omega) (by omega)) ⟨callB_of 4 hts (tb_gi tw_787) rfl rfl rfl (ht _ tw_5) (ht _ tw_784) (by decide +kernel) ⟨(Nat.le_of_ble_eq_true rfl), (Nat.le_of_ble_eq_true rfl)⟩, ht _ tw_786, ht _ tw_862⟩ hE hP hD 0 rfl rfl rfl [0, 1, 2, 3, 4, 5, 6, 7, 8, 9, 10, 11, 12, 13, 14, 15, 16, 17, 18, 19, 20, 21, 22, 23, 24, 25, 26, 27, 28] rfl rfl rfl hl.1 rfl (Nat.le_of_ble_eq_true rfl) dMo_accept_53 ⟨(Nat.le_of_ble_eq_true rfl), (Nat.le_of_ble_eq_true rfl)⟩) hP hD hS hA [0, 1, 2, 3, 4, 5, 6, 7, 8, 9, 10, 11, 12, 13, 14, 15, 16, 17, 18, 19, 20, 21, 22, 23, 24, 25, 26, 27, 28] [] rfl rfl rfl (by decide) (fun _ H locs _ hP hD hS => ?_)
  have hP : va_P D cls_ (mW h ad ca 0 (mBec M s₀ cn 2 3)) H := hP
  have hD : va_D A (mW h ad ca 0 (mBec M s₀ cn 2 3)) := hD
  exact Co.retv hx hb hret hlk dMo_accept_56 hS hP hD () rfl trivial rfl (Nat.le_of_ble_eq_true rfl) (Nat.le_of_ble_eq_true rfl)
set_option maxHeartbeats 4000000 in
set_option maxRecDepth 100000 in
theorem c_Mo_acceptS (l : Launch) (D : va_G) (ca : Nat → ClassId) (h : Nat) (ad : Nat → Nat) (co : Nat) (M : Nat → Nat → Nat) (s₀ cn : Nat) (hM : mOk M) (hs : s₀ < 2) (hc : cn < 3) (hup : M 10 s₀ = 2 ∧ M 17 s₀ ≤ 9) (hst : ¬ M 23 (3 * s₀ + cn) = 2) : Co (S := Unit) l yMo_accept (Cond.code yMo_accept cMo_accept 3 none :: tb_) { frames := 5, cells := 0, slots := 0, locals := 160 } D ca [.ref h, .int (nI s₀), .int (nI cn)] (mW h ad ca co M) (fun _ => none) (fun _ => True) (fun _ => (mW h ad ca 2 M)) 0 0 := by
  refine Co.of cMo_accept 3 none (by decide) (Nat.le_of_ble_eq_true rfl) ?_
  intro p e s m args below meth c A ls fx hret hlk hin hE hP hD hS hA hl
  have hx := fx.1
  have hb := fx.2.1
  have hown : s.vm.findClass RMo = some m.cls := fx.2.2.2.1
  have hts := fx.2.2.2.2
  have ht : ∀ w ∈ tb_, w.before args s = true := fun w h => hts w (List.mem_cons_of_mem _ h)
  have e3 : (if M 10 s₀ = 2 ∧ M 17 s₀ ≤ 9 then 0 else 2) = 0 := if_pos hup
  have b1 : M 23 (3 * s₀ + cn) < 6 := hM 23 _
  have hl : lv_has ls 3 [(0, .ref h), (1, .int (nI s₀)), (2, .int (nI cn))] := hl
  refine lv_aload_n hx hb dMo_accept_0 rfl (lv_at hl 0 rfl) ?_
  refine lv_aload_n hx hb dMo_accept_1 rfl (lv_at hl 0 rfl) ?_
  refine lv_iload_n hx hb dMo_accept_2 rfl (lv_at hl 1 rfl) ?_
  refine lv_iload_n hx hb dMo_accept_3 rfl (lv_at hl 2 rfl) ?_
  refine lv_iconst (v := nI 2) hx hb dMo_accept_4 (by decide) ?_
  refine kI (rV fx (c_Mo_bars l D ca h ad co M s₀ cn (by first | assumption | exact mOk.idle (by assumption) _ | exact mOk.clean (by assumption) _ | exact mOk.renew (by assumption) _ | exact (mOk.renew (by assumption) _).set 23 (show 3 < 6 by decide) | exact (mOk.renew (by assumption) _).set 23 (show 5 < 6 by decide)) (by omega) (by omega) 2) ⟨callB_of 3 hts (tb_gi tw_783) rfl rfl rfl (ht _ tw_5) (ht _ tw_780) (by decide +kernel) ⟨(Nat.le_of_ble_eq_true rfl), (Nat.le_of_ble_eq_true rfl)⟩, ht _ tw_782, ht _ tw_861⟩ hE hP hD 0 rfl rfl rfl [0, 1, 2, 3, 4, 5, 6, 7, 8, 9, 10, 11, 12, 13, 14, 15, 16, 17, 18, 19, 20, 21, 22, 23, 24, 25, 26, 27, 28] rfl rfl rfl hl.1 rfl (Nat.le_of_ble_eq_true rfl) dMo_accept_5 ⟨(Nat.le_of_ble_eq_true rfl), (Nat.le_of_ble_eq_true rfl)⟩) hP hD hS hA [0, 1, 2, 3, 4, 5, 6, 7, 8, 9, 10, 11, 12, 13, 14, 15, 16, 17, 18, 19, 20, 21, 22, 23, 24, 25, 26, 27, 28] [] rfl rfl rfl (by decide) (fun _ H locs _ hP hD hS => ?_)
  have hP : va_P D cls_ (mW h ad ca co M) H := hP
  have hD : va_D A (mW h ad ca co M) := hD
  refine k_is (y := nI 0) (by rw [e3]) ?_
  refine va_put (D := D) (ci := 4) (v := .int (nI 0)) (ty := .int) (C := RMo) (T := TMo) (N := 29) hx hb ht inMo tyMo tyMo_ok nmMo hown hE.1 hP hD hS 0 rfl rfl 0 (by decide) (ht _ tw_587) (fun _ h => h) rfl (by decide +kernel) rfl rfl (Nat.le_of_ble_eq_true rfl) dMo_accept_8 (fun H locs hP hD hS => ?_)
  have hP : va_P D cls_ (mW h ad ca 0 M) H := hP
  have hD : va_D A (mW h ad ca 0 M) := hD
  refine lv_aload_n hx hb dMo_accept_11 rfl (lv_at hl 0 rfl) ?_
  refine va_get (D := D) (ci := 4) (v := .int (nI 0)) (C := RMo) (T := TMo) (N := 29) hx hb ht inMo hown hE.1 hP 0 rfl rfl 0 (by decide) (ht _ tw_587) (fun _ h => h) rfl dMo_accept_12 ?_
  refine k_if_ne (tgt := 41) hx hb (by omega) dMo_accept_15 rfl (fun hz => absurd hz (by omega)) (fun h15 => ?_)
  refine lv_aload_n hx hb dMo_accept_18 rfl (lv_at hl 0 rfl) ?_
  refine lv_aload_n hx hb dMo_accept_19 rfl (lv_at hl 0 rfl) ?_
  refine va_get (D := D) (ci := 4) (v := .ref (ad 23)) (C := RMo) (T := TMo) (N := 29) hx hb ht inMo hown hE.1 hP 0 rfl rfl 23 (by decide) (ht _ tw_610) (fun _ h => h) rfl dMo_accept_20 ?_
  refine lv_iconst (v := nI 3) hx hb dMo_accept_23 (by decide) ?_
  refine lv_iload_n hx hb dMo_accept_24 rfl (lv_at hl 1 rfl) ?_
  refine k_imul hx hb dMo_accept_25 ?_
  refine lv_iload_n hx hb dMo_accept_26 rfl (lv_at hl 2 rfl) ?_
  refine k_iadd hx hb dMo_accept_27 ?_
  refine k_iald hx hb hE.1 hP 23 0 (n := 6) (g := (M 23)) rfl rfl (i := ((3 * s₀) + cn)) (by omega) (by decide) dMo_accept_28 ?_
  refine lv_iconst (v := nI 2) hx hb dMo_accept_29 (by decide) ?_
  refine k_icmp_ne (tgt := 37) hx hb (by omega) (by omega) dMo_accept_30 rfl (fun h30 => ?_) (fun hz => absurd hz (by omega))
  refine lv_iconst (v := nI 2) hx hb dMo_accept_37 (by decide) ?_
  refine va_put (D := D) (ci := 4) (v := .int (nI 2)) (ty := .int) (C := RMo) (T := TMo) (N := 29) hx hb ht inMo tyMo tyMo_ok nmMo hown hE.1 hP hD hS 0 rfl rfl 0 (by decide) (ht _ tw_587) (fun _ h => h) rfl (by decide +kernel) rfl rfl (Nat.le_of_ble_eq_true rfl) dMo_accept_38 (fun H locs hP hD hS => ?_)
  have hP : va_P D cls_ (mW h ad ca 2 M) H := hP
  have hD : va_D A (mW h ad ca 2 M) := hD
  refine lv_aload_n hx hb dMo_accept_41 rfl (lv_at hl 0 rfl) ?_
  refine va_get (D := D) (ci := 4) (v := .int (nI 2)) (C := RMo) (T := TMo) (N := 29) hx hb ht inMo hown hE.1 hP 0 rfl rfl 0 (by decide) (ht _ tw_587) (fun _ h => h) rfl dMo_accept_42 ?_
  refine k_if_ne (tgt := 56) hx hb (by omega) dMo_accept_45 rfl (fun h45 => ?_) (fun hz => absurd hz (by omega))
  exact Co.retv hx hb hret hlk dMo_accept_56 hS hP hD () rfl trivial rfl (Nat.le_of_ble_eq_true rfl) (Nat.le_of_ble_eq_true rfl)
set_option maxHeartbeats 4000000 in
set_option maxRecDepth 100000 in
theorem c_Mo_acceptU (l : Launch) (D : va_G) (ca : Nat → ClassId) (h : Nat) (ad : Nat → Nat) (co : Nat) (M : Nat → Nat → Nat) (s₀ cn : Nat) (hM : mOk M) (hs : s₀ < 2) (hc : cn < 3) (hup : ¬ (M 10 s₀ = 2 ∧ M 17 s₀ ≤ 9)) : Co (S := Unit) l yMo_accept (Cond.code yMo_accept cMo_accept 3 none :: tb_) { frames := 5, cells := 0, slots := 0, locals := 160 } D ca [.ref h, .int (nI s₀), .int (nI cn)] (mW h ad ca co M) (fun _ => none) (fun _ => True) (fun _ => (mW h ad ca 2 M)) 0 0 := by
  refine Co.of cMo_accept 3 none (by decide) (Nat.le_of_ble_eq_true rfl) ?_
  intro p e s m args below meth c A ls fx hret hlk hin hE hP hD hS hA hl
  have hx := fx.1
  have hb := fx.2.1
  have hown : s.vm.findClass RMo = some m.cls := fx.2.2.2.1
  have hts := fx.2.2.2.2
  have ht : ∀ w ∈ tb_, w.before args s = true := fun w h => hts w (List.mem_cons_of_mem _ h)
  have e3 : (if M 10 s₀ = 2 ∧ M 17 s₀ ≤ 9 then 0 else 2) = 2 := if_neg hup
  have hl : lv_has ls 3 [(0, .ref h), (1, .int (nI s₀)), (2, .int (nI cn))] := hl
  refine lv_aload_n hx hb dMo_accept_0 rfl (lv_at hl 0 rfl) ?_
  refine lv_aload_n hx hb dMo_accept_1 rfl (lv_at hl 0 rfl) ?_
  refine lv_iload_n hx hb dMo_accept_2 rfl (lv_at hl 1 rfl) ?_
  refine lv_iload_n hx hb dMo_accept_3 rfl (lv_at hl 2 rfl) ?_
  refine lv_iconst (v := nI 2) hx hb dMo_accept_4 (by decide) ?_
  refine kI (rV fx (c_Mo_bars l D ca h ad co M s₀ cn (by first | assumption | exact mOk.idle (by assumption) _ | exact mOk.clean (by assumption) _ | exact mOk.renew (by assumption) _ | exact (mOk.renew (by assumption) _).set 23 (show 3 < 6 by decide) | exact (mOk.renew (by assumption) _).set 23 (show 5 < 6 by decide)) (by omega) (by omega) 2) ⟨callB_of 3 hts (tb_gi tw_783) rfl rfl rfl (ht _ tw_5) (ht _ tw_780) (by decide +kernel) ⟨(Nat.le_of_ble_eq_true rfl), (Nat.le_of_ble_eq_true rfl)⟩, ht _ tw_782, ht _ tw_861⟩ hE hP hD 0 rfl rfl rfl [0, 1, 2, 3, 4, 5, 6, 7, 8, 9, 10, 11, 12, 13, 14, 15, 16, 17, 18, 19, 20, 21, 22, 23, 24, 25, 26, 27, 28] rfl rfl rfl hl.1 rfl (Nat.le_of_ble_eq_true rfl) dMo_accept_5 ⟨(Nat.le_of_ble_eq_true rfl), (Nat.le_of_ble_eq_true rfl)⟩) hP hD hS hA [0, 1, 2, 3, 4, 5, 6, 7, 8, 9, 10, 11, 12, 13, 14, 15, 16, 17, 18, 19, 20, 21, 22, 23, 24, 25, 26, 27, 28] [] rfl rfl rfl (by decide) (fun _ H locs _ hP hD hS => ?_)
  have hP : va_P D cls_ (mW h ad ca co M) H := hP
  have hD : va_D A (mW h ad ca co M) := hD
  refine k_is (y := nI 2) (by rw [e3]) ?_
  refine va_put (D := D) (ci := 4) (v := .int (nI 2)) (ty := .int) (C := RMo) (T := TMo) (N := 29) hx hb ht inMo tyMo tyMo_ok nmMo hown hE.1 hP hD hS 0 rfl rfl 0 (by decide) (ht _ tw_587) (fun _ h => h) rfl (by decide +kernel) rfl rfl (Nat.le_of_ble_eq_true rfl) dMo_accept_8 (fun H locs hP hD hS => ?_)
  have hP : va_P D cls_ (mW h ad ca 2 M) H := hP
  have hD : va_D A (mW h ad ca 2 M) := hD
  refine lv_aload_n hx hb dMo_accept_11 rfl (lv_at hl 0 rfl) ?_
  refine va_get (D := D) (ci := 4) (v := .int (nI 2)) (C := RMo) (T := TMo) (N := 29) hx hb ht inMo hown hE.1 hP 0 rfl rfl 0 (by decide) (ht _ tw_587) (fun _ h => h) rfl dMo_accept_12 ?_
  refine k_if_ne (tgt := 41) hx hb (by omega) dMo_accept_15 rfl (fun h15 => ?_) (fun hz => absurd hz (by omega))
  refine lv_aload_n hx hb dMo_accept_41 rfl (lv_at hl 0 rfl) ?_
  refine va_get (D := D) (ci := 4) (v := .int (nI 2)) (C := RMo) (T := TMo) (N := 29) hx hb ht inMo hown hE.1 hP 0 rfl rfl 0 (by decide) (ht _ tw_587) (fun _ h => h) rfl dMo_accept_42 ?_
  refine k_if_ne (tgt := 56) hx hb (by omega) dMo_accept_45 rfl (fun h45 => ?_) (fun hz => absurd hz (by omega))
  exact Co.retv hx hb hret hlk dMo_accept_56 hS hP hD () rfl trivial rfl (Nat.le_of_ble_eq_true rfl) (Nat.le_of_ble_eq_true rfl)
set_option maxHeartbeats 4000000 in
set_option maxRecDepth 100000 in
theorem c_Mo_acceptX (l : Launch) (D : va_G) (ca : Nat → ClassId) (h : Nat) (ad : Nat → Nat) (co : Nat) (M : Nat → Nat → Nat) (x₀ : Int32) (hx0 : ¬ x₀ = 0) (hx1 : ¬ x₀ = nI 1) (y₀ : Int32) : Co (S := Unit) l yMo_accept (Cond.code yMo_accept cMo_accept 3 none :: tb_) { frames := 5, cells := 0, slots := 0, locals := 160 } D ca [.ref h, .int x₀, .int y₀] (mW h ad ca co M) (fun _ => none) (fun _ => True) (fun _ => (mW h ad ca 1 M)) 0 0 := by
  refine Co.of cMo_accept 3 none (by decide) (Nat.le_of_ble_eq_true rfl) ?_
  intro p e s m args below meth c A ls fx hret hlk hin hE hP hD hS hA hl
  have hx := fx.1
  have hb := fx.2.1
  have hown : s.vm.findClass RMo = some m.cls := fx.2.2.2.1
  have hts := fx.2.2.2.2
  have ht : ∀ w ∈ tb_, w.before args s = true := fun w h => hts w (List.mem_cons_of_mem _ h)
  have hl : lv_has ls 3 [(0, .ref h), (1, .int x₀), (2, .int y₀)] := hl
  refine lv_aload_n hx hb dMo_accept_0 rfl (lv_at hl 0 rfl) ?_
  refine lv_aload_n hx hb dMo_accept_1 rfl (lv_at hl 0 rfl) ?_
  refine lv_iload_n hx hb dMo_accept_2 rfl (lv_at hl 1 rfl) ?_
  refine lv_iload_n hx hb dMo_accept_3 rfl (lv_at hl 2 rfl) ?_
  refine lv_iconst (v := nI 2) hx hb dMo_accept_4 (by decide) ?_
  refine kI (rV fx (c_Mo_barsX l D ca h ad co M x₀ hx0 hx1 y₀ 2) ⟨callB_of 3 hts (tb_gi tw_783) rfl rfl rfl (ht _ tw_5) (ht _ tw_780) (by decide +kernel) ⟨(Nat.le_of_ble_eq_true rfl), (Nat.le_of_ble_eq_true rfl)⟩, ht _ tw_782, ht _ tw_861⟩ hE hP hD 0 rfl rfl rfl [0, 1, 2, 3, 4, 5, 6, 7, 8, 9, 10, 11, 12, 13, 14, 15, 16, 17, 18, 19, 20, 21, 22, 23, 24, 25, 26, 27, 28] rfl rfl rfl hl.1 rfl (Nat.le_of_ble_eq_true rfl) dMo_accept_5 ⟨(Nat.le_of_ble_eq_true rfl), (Nat.le_of_ble_eq_true rfl)⟩) hP hD hS hA [0, 1, 2, 3, 4, 5, 6, 7, 8, 9, 10, 11, 12, 13, 14, 15, 16, 17, 18, 19, 20, 21, 22, 23, 24, 25, 26, 27, 28] [] rfl rfl rfl (by decide) (fun _ H locs _ hP hD hS => ?_)
  have hP : va_P D cls_ (mW h ad ca co M) H := hP
  have hD : va_D A (mW h ad ca co M) := hD
  refine va_put (D := D) (ci := 4) (v := .int (nI 1)) (ty := .int) (C := RMo) (T := TMo) (N := 29) hx hb ht inMo tyMo tyMo_ok nmMo hown hE.1 hP hD hS 0 rfl rfl 0 (by decide) (ht _ tw_587) (fun _ h => h) rfl (by decide +kernel) rfl rfl (Nat.le_of_ble_eq_true rfl) dMo_accept_8 (fun H locs hP hD hS => ?_)
  have hP : va_P D cls_ (mW h ad ca 1 M) H := hP
  have hD : va_D A (mW h ad ca 1 M) := hD
  refine lv_aload_n hx hb dMo_accept_11 rfl (lv_at hl 0 rfl) ?_
  refine va_get (D := D) (ci := 4) (v := .int (nI 1)) (C := RMo) (T := TMo) (N := 29) hx hb ht inMo hown hE.1 hP 0 rfl rfl 0 (by decide) (ht _ tw_587) (fun _ h => h) rfl dMo_accept_12 ?_
  refine k_if_ne (tgt := 41) hx hb (by omega) dMo_accept_15 rfl (fun h15 => ?_) (fun hz => absurd hz (by omega))
  refine lv_aload_n hx hb dMo_accept_41 rfl (lv_at hl 0 rfl) ?_
  refine va_get (D := D) (ci := 4) (v := .int (nI 1)) (C := RMo) (T := TMo) (N := 29) hx hb ht inMo hown hE.1 hP 0 rfl rfl 0 (by decide) (ht _ tw_587) (fun _ h => h) rfl dMo_accept_42 ?_
  refine k_if_ne (tgt := 56) hx hb (by omega) dMo_accept_45 rfl (fun h45 => ?_) (fun hz => absurd hz (by omega))
  exact Co.retv hx hb hret hlk dMo_accept_56 hS hP hD () rfl trivial rfl (Nat.le_of_ble_eq_true rfl) (Nat.le_of_ble_eq_true rfl)
set_option maxHeartbeats 4000000 in
set_option maxRecDepth 100000 in
theorem c_Mo_acceptC (l : Launch) (D : va_G) (ca : Nat → ClassId) (h : Nat) (ad : Nat → Nat) (co : Nat) (M : Nat → Nat → Nat) (s₀ : Nat) (hs : s₀ < 2) (y₀ : Int32) (hy0 : y₀ < 0 ∨ nI 3 ≤ y₀) : Co (S := Unit) l yMo_accept (Cond.code yMo_accept cMo_accept 3 none :: tb_) { frames := 5, cells := 0, slots := 0, locals := 160 } D ca [.ref h, .int (nI s₀), .int y₀] (mW h ad ca co M) (fun _ => none) (fun _ => True) (fun _ => (mW h ad ca 1 M)) 0 0 := by
  refine Co.of cMo_accept 3 none (by decide) (Nat.le_of_ble_eq_true rfl) ?_
  intro p e s m args below meth c A ls fx hret hlk hin hE hP hD hS hA hl
  have hx := fx.1
  have hb := fx.2.1
  have hown : s.vm.findClass RMo = some m.cls := fx.2.2.2.1
  have hts := fx.2.2.2.2
  have ht : ∀ w ∈ tb_, w.before args s = true := fun w h => hts w (List.mem_cons_of_mem _ h)
  have hl : lv_has ls 3 [(0, .ref h), (1, .int (nI s₀)), (2, .int y₀)] := hl
  refine lv_aload_n hx hb dMo_accept_0 rfl (lv_at hl 0 rfl) ?_
  refine lv_aload_n hx hb dMo_accept_1 rfl (lv_at hl 0 rfl) ?_
  refine lv_iload_n hx hb dMo_accept_2 rfl (lv_at hl 1 rfl) ?_
  refine lv_iload_n hx hb dMo_accept_3 rfl (lv_at hl 2 rfl) ?_
  refine lv_iconst (v := nI 2) hx hb dMo_accept_4 (by decide) ?_
  refine kI (rV fx (c_Mo_barsC l D ca h ad co M s₀ (by omega) y₀ hy0 2) ⟨callB_of 3 hts (tb_gi tw_783) rfl rfl rfl (ht _ tw_5) (ht _ tw_780) (by decide +kernel) ⟨(Nat.le_of_ble_eq_true rfl), (Nat.le_of_ble_eq_true rfl)⟩, ht _ tw_782, ht _ tw_861⟩ hE hP hD 0 rfl rfl rfl [0, 1, 2, 3, 4, 5, 6, 7, 8, 9, 10, 11, 12, 13, 14, 15, 16, 17, 18, 19, 20, 21, 22, 23, 24, 25, 26, 27, 28] rfl rfl rfl hl.1 rfl (Nat.le_of_ble_eq_true rfl) dMo_accept_5 ⟨(Nat.le_of_ble_eq_true rfl), (Nat.le_of_ble_eq_true rfl)⟩) hP hD hS hA [0, 1, 2, 3, 4, 5, 6, 7, 8, 9, 10, 11, 12, 13, 14, 15, 16, 17, 18, 19, 20, 21, 22, 23, 24, 25, 26, 27, 28] [] rfl rfl rfl (by decide) (fun _ H locs _ hP hD hS => ?_)
  have hP : va_P D cls_ (mW h ad ca co M) H := hP
  have hD : va_D A (mW h ad ca co M) := hD
  refine va_put (D := D) (ci := 4) (v := .int (nI 1)) (ty := .int) (C := RMo) (T := TMo) (N := 29) hx hb ht inMo tyMo tyMo_ok nmMo hown hE.1 hP hD hS 0 rfl rfl 0 (by decide) (ht _ tw_587) (fun _ h => h) rfl (by decide +kernel) rfl rfl (Nat.le_of_ble_eq_true rfl) dMo_accept_8 (fun H locs hP hD hS => ?_)
  have hP : va_P D cls_ (mW h ad ca 1 M) H := hP
  have hD : va_D A (mW h ad ca 1 M) := hD
  refine lv_aload_n hx hb dMo_accept_11 rfl (lv_at hl 0 rfl) ?_
  refine va_get (D := D) (ci := 4) (v := .int (nI 1)) (C := RMo) (T := TMo) (N := 29) hx hb ht inMo hown hE.1 hP 0 rfl rfl 0 (by decide) (ht _ tw_587) (fun _ h => h) rfl dMo_accept_12 ?_
  refine k_if_ne (tgt := 41) hx hb (by omega) dMo_accept_15 rfl (fun h15 => ?_) (fun hz => absurd hz (by omega))
  refine lv_aload_n hx hb dMo_accept_41 rfl (lv_at hl 0 rfl) ?_
  refine va_get (D := D) (ci := 4) (v := .int (nI 1)) (C := RMo) (T := TMo) (N := 29) hx hb ht inMo hown hE.1 hP 0 rfl rfl 0 (by decide) (ht _ tw_587) (fun _ h => h) rfl dMo_accept_42 ?_
  refine k_if_ne (tgt := 56) hx hb (by omega) dMo_accept_45 rfl (fun h45 => ?_) (fun hz => absurd hz (by omega))
  exact Co.retv hx hb hret hlk dMo_accept_56 hS hP hD () rfl trivial rfl (Nat.le_of_ble_eq_true rfl) (Nat.le_of_ble_eq_true rfl)
set_option maxHeartbeats 4000000 in
set_option maxRecDepth 100000 in
theorem c_Mo_reset (l : Launch) (D : va_G) (ca : Nat → ClassId) (h : Nat) (ad : Nat → Nat) (co : Nat) (M : Nat → Nat → Nat) (s₀ cn : Nat) (hM : mOk M) (hs : s₀ < 2) (hc : cn < 3) (hup : M 10 s₀ = 2 ∧ M 17 s₀ ≤ 9) (hst : M 23 (3 * s₀ + cn) = 3) : Co (S := Unit) l yMo_reset (Cond.code yMo_reset cMo_reset 3 none :: tb_) { frames := 5, cells := 0, slots := 0, locals := 160 } D ca [.ref h, .int (nI s₀), .int (nI cn)] (mW h ad ca co M) (fun _ => none) (fun _ => True) (fun _ => (mW h ad ca 0 (mBec M s₀ cn 7 5))) 0 0 := by
  refine Co.of cMo_reset 3 none (by decide) (Nat.le_of_ble_eq_true rfl) ?_
  intro p e s m args below meth c A ls fx hret hlk hin hE hP hD hS hA hl
  have hx := fx.1
  have hb := fx.2.1
  have hown : s.vm.findClass RMo = some m.cls := fx.2.2.2.1
  have hts := fx.2.2.2.2
  have ht : ∀ w ∈ tb_, w.before args s = true := fun w h => hts w (List.mem_cons_of_mem _ h)
  have e3 : (if M 10 s₀ = 2 ∧ M 17 s₀ ≤ 9 then 0 else 2) = 0 := if_pos hup
  have b1 : M 23 (3 * s₀ + cn) < 6 := hM 23 _
  have hl : lv_has ls 3 [(0, .ref h), (1, .int (nI s₀)), (2, .int (nI cn))] := hl
  refine lv_aload_n hx hb dMo_reset_0 rfl (lv_at hl 0 rfl) ?_
  refine lv_aload_n hx hb dMo_reset_1 rfl (lv_at hl 0 rfl) ?_
  refine lv_iload_n hx hb dMo_reset_2 rfl (lv_at hl 1 rfl) ?_
  refine lv_iload_n hx hb dMo_reset_3 rfl (lv_at hl 2 rfl) ?_
  refine lv_iconst (v := nI 2) hx hb dMo_reset_4 (by decide) ?_
  refine kI (rV fx (c_Mo_bars l D ca h ad co M s₀ cn (by first | assumption | exact mOk.idle (by assumption) _ | exact mOk.clean (by assumption) _ | exact mOk.renew (by assumption) _ | exact (mOk.renew (by assumption) _).set 23 (show 3 < 6 by decide) | exact (mOk.renew (by assumption) _).set 23 (show 5 < 6 by decide)) (by omega) (by omega) 2) ⟨callB_of 3 hts (tb_gi tw_783) rfl rfl rfl (ht _ tw_5) (ht _ tw_780) (by decide +kernel) ⟨(Nat.le_of_ble_eq_true rfl), (Nat.le_of_ble_eq_true rfl)⟩, ht _ tw_782, ht _ tw_861⟩ hE hP hD 0 rfl rfl rfl [0, 1, 2, 3, 4, 5, 6, 7, 8, 9, 10, 11, 12, 13, 14, 15, 16, 17, 18, 19, 20, 21, 22, 23, 24, 25, 26, 27, 28] rfl rfl rfl hl.1 rfl (Nat.le_of_ble_eq_true rfl) dMo_reset_5 ⟨(Nat.le_of_ble_eq_true rfl), (Nat.le_of_ble_eq_true rfl)⟩) hP hD hS hA [0, 1, 2, 3, 4, 5, 6, 7, 8, 9, 10, 11, 12, 13, 14, 15, 16, 17, 18, 19, 20, 21, 22, 23, 24, 25, 26, 27, 28] [] rfl rfl rfl (by decide) (fun _ H locs _ hP hD hS => ?_)
  have hP : va_P D cls_ (mW h ad ca co M) H := hP
  have hD : va_D A (mW h ad ca co M) := hD
  refine k_is (y := nI 0) (by rw [e3]) ?_
  refine va_put (D := D) (ci := 4) (v := .int (nI 0)) (ty := .int) (C := RMo) (T := TMo) (N := 29) hx hb ht inMo tyMo tyMo_ok nmMo hown hE.1 hP hD hS 0 rfl rfl 0 (by decide) (ht _ tw_587) (fun _ h => h) rfl (by decide +kernel) rfl rfl (Nat.le_of_ble_eq_true rfl) dMo_reset_8 (fun H locs hP hD hS => ?_)
  have hP : va_P D cls_ (mW h ad ca 0 M) H := hP
  have hD : va_D A (mW h ad ca 0 M) := hD
  refine lv_aload_n hx hb dMo_reset_11 rfl (lv_at hl 0 rfl) ?_
  refine va_get (D := D) (ci := 4) (v := .int (nI 0)) (C := RMo) (T := TMo) (N := 29) hx hb ht inMo hown hE.1 hP 0 rfl rfl 0 (by decide) (ht _ tw_587) (fun _ h => h) rfl dMo_reset_12 ?_
  refine k_if_ne (tgt := 41) hx hb (by omega) dMo_reset_15 rfl (fun hz => absurd hz (by omega)) (fun h15 => ?_)
  refine lv_aload_n hx hb dMo_reset_18 rfl (lv_at hl 0 rfl) ?_
  refine lv_aload_n hx hb dMo_reset_19 rfl (lv_at hl 0 rfl) ?_
  refine va_get (D := D) (ci := 4) (v := .ref (ad 23)) (C := RMo) (T := TMo) (N := 29) hx hb ht inMo hown hE.1 hP 0 rfl rfl 23 (by decide) (ht _ tw_610) (fun _ h => h) rfl dMo_reset_20 ?_
  refine lv_iconst (v := nI 3) hx hb dMo_reset_23 (by decide) ?_
  refine lv_iload_n hx hb dMo_reset_24 rfl (lv_at hl 1 rfl) ?_
  refine k_imul hx hb dMo_reset_25 ?_
  refine lv_iload_n hx hb dMo_reset_26 rfl (lv_at hl 2 rfl) ?_
  refine k_iadd hx hb dMo_reset_27 ?_
  refine k_iald hx hb hE.1 hP 23 0 (n := 6) (g := (M 23)) rfl rfl (i := ((3 * s₀) + cn)) (by omega) (by decide) dMo_reset_28 ?_
  refine lv_iconst (v := nI 3) hx hb dMo_reset_29 (by decide) ?_
  refine k_icmp_ne (tgt := 37) hx hb (by omega) (by omega) dMo_reset_30 rfl (fun hz => absurd hz (by omega)) (fun h30 => ?_)
  refine lv_iconst (v := nI 0) hx hb dMo_reset_33 (by decide) ?_
  refine lv_goto (tgt := 38) hx hb dMo_reset_34 rfl ?_
  refine va_put (D := D) (ci := 4) (v := .int (nI 0)) (ty := .int) (C := RMo) (T := TMo) (N := 29) hx hb ht inMo tyMo tyMo_ok nmMo hown hE.1 hP hD hS 0 rfl rfl 0 (by decide) (ht _ tw_587) (fun _ h => h) rfl (by decide +kernel) rfl rfl (Nat.le_of_ble_eq_true rfl) dMo_reset_38 (fun H locs hP hD hS => ?_)
  have hP : va_P D cls_ (mW h ad ca 0 M) H := hP
  have hD : va_D A (mW h ad ca 0 M) := hD
  refine lv_aload_n hx hb dMo_reset_41 rfl (lv_at hl 0 rfl) ?_
  refine va_get (D := D) (ci := 4) (v := .int (nI 0)) (C := RMo) (T := TMo) (N := 29) hx hb ht inMo hown hE.1 hP 0 rfl rfl 0 (by decide) (ht _ tw_587) (fun _ h => h) rfl dMo_reset_42 ?_
  refine k_if_ne (tgt := 57) hx hb (by omega) dMo_reset_45 rfl (fun hz => absurd hz (by omega)) (fun h45 => ?_)
  refine lv_aload_n hx hb dMo_reset_48 rfl (lv_at hl 0 rfl) ?_
  refine lv_iload_n hx hb dMo_reset_49 rfl (lv_at hl 1 rfl) ?_
  refine lv_iload_n hx hb dMo_reset_50 rfl (lv_at hl 2 rfl) ?_
  refine lv_bipush (v := nI 7) hx hb dMo_reset_51 (by decide) ?_
  refine lv_iconst (v := nI 5) hx hb dMo_reset_53 (by decide) ?_
  refine kV (rV fx (c_Mo_become l D ca h ad 0 M s₀ cn (by first | assumption | exact mOk.idle (by assumption) _ | exact mOk.clean (by assumption) _ | exact mOk.renew (by assumption) _ | exact (mOk.renew (by assumption) _).set 23 (show 3 < 6 by decide) | exact (mOk.renew (by assumption) _).set 23 (show 5 < 6 by decide)) (by omega) (by omega) 7 5 (by omega) (by omega)) ⟨callB_of 4 hts (tb_gi tw_787) rfl rfl rfl (ht _ tw_5) (ht _ tw_784) (by decide +kernel) ⟨(Nat.le_of_ble_eq_true rfl), (Nat.le_of_ble_eq_true rfl)⟩, ht _ tw_786, ht _ tw_862⟩ hE hP hD 0 rfl rfl rfl [0, 1, 2, 3, 4, 5, 6, 7, 8, 9, 10, 11, 12, 13, 14, 15, 16, 17, 18, 19, 20, 21, 22, 23, 24, 25, 26, 27, 28] rfl rfl rfl hl.1 rfl (Nat.le_of_ble_eq_true rfl) dMo_reset_54 ⟨(Nat.le_of_ble_eq_true rfl), (Nat.le_of_ble_eq_true rfl)⟩) hP hD hS hA [0, 1, 2, 3, 4, 5, 6, 7, 8, 9, 10, 11, 12, 13, 14, 15, 16, 17, 18, 19, 20, 21, 22, 23, 24, 25, 26, 27, 28] [] rfl rfl rfl (by decide) (fun _ H locs _ hP hD hS => ?_)
  have hP : va_P D cls_ (mW h ad ca 0 (mBec M s₀ cn 7 5)) H := hP
  have hD : va_D A (mW h ad ca 0 (mBec M s₀ cn 7 5)) := hD
  exact Co.retv hx hb hret hlk dMo_reset_57 hS hP hD () rfl trivial rfl (Nat.le_of_ble_eq_true rfl) (Nat.le_of_ble_eq_true rfl)
set_option maxHeartbeats 4000000 in
set_option maxRecDepth 100000 in
theorem c_Mo_resetS (l : Launch) (D : va_G) (ca : Nat → ClassId) (h : Nat) (ad : Nat → Nat) (co : Nat) (M : Nat → Nat → Nat) (s₀ cn : Nat) (hM : mOk M) (hs : s₀ < 2) (hc : cn < 3) (hup : M 10 s₀ = 2 ∧ M 17 s₀ ≤ 9) (hst : ¬ M 23 (3 * s₀ + cn) = 3) : Co (S := Unit) l yMo_reset (Cond.code yMo_reset cMo_reset 3 none :: tb_) { frames := 5, cells := 0, slots := 0, locals := 160 } D ca [.ref h, .int (nI s₀), .int (nI cn)] (mW h ad ca co M) (fun _ => none) (fun _ => True) (fun _ => (mW h ad ca 2 M)) 0 0 := by
  refine Co.of cMo_reset 3 none (by decide) (Nat.le_of_ble_eq_true rfl) ?_
  intro p e s m args below meth c A ls fx hret hlk hin hE hP hD hS hA hl
  have hx := fx.1
  have hb := fx.2.1
  have hown : s.vm.findClass RMo = some m.cls := fx.2.2.2.1
  have hts := fx.2.2.2.2
  have ht : ∀ w ∈ tb_, w.before args s = true := fun w h => hts w (List.mem_cons_of_mem _ h)
  have e3 : (if M 10 s₀ = 2 ∧ M 17 s₀ ≤ 9 then 0 else 2) = 0 := if_pos hup
  have b1 : M 23 (3 * s₀ + cn) < 6 := hM 23 _
  have hl : lv_has ls 3 [(0, .ref h), (1, .int (nI s₀)), (2, .int (nI cn))] := hl
  refine lv_aload_n hx hb dMo_reset_0 rfl (lv_at hl 0 rfl) ?_
  refine lv_aload_n hx hb dMo_reset_1 rfl (lv_at hl 0 rfl) ?_
  refine lv_iload_n hx hb dMo_reset_2 rfl (lv_at hl 1 rfl) ?_
  refine lv_iload_n hx hb dMo_reset_3 rfl (lv_at hl 2 rfl) ?_
  refine lv_iconst (v := nI 2) hx hb dMo_reset_4 (by decide) ?_
  refine kI (rV fx (c_Mo_bars l D ca h ad co M s₀ cn (by first | assumption | exact mOk.idle (by assumption) _ | exact mOk.clean (by assumption) _ | exact mOk.renew (by assumption) _ | exact (mOk.renew (by assumption) _).set 23 (show 3 < 6 by decide) | exact (mOk.renew (by assumption) _).set 23 (show 5 < 6 by decide)) (by omega) (by omega) 2) ⟨callB_of 3 hts (tb_gi tw_783) rfl rfl rfl (ht _ tw_5) (ht _ tw_780) (by decide +kernel) ⟨(Nat.le_of_ble_eq_true rfl), (Nat.le_of_ble_eq_true rfl)⟩, ht _ tw_782, ht _ tw_861⟩ hE hP hD 0 rfl rfl rfl [0, 1, 2, 3, 4, 5, 6, 7, 8, 9, 10, 11, 12, 13, 14, 15, 16, 17, 18, 19, 20, 21, 22, 23, 24, 25, 26, 27, 28] rfl rfl rfl hl.1 rfl (Nat.le_of_ble_eq_true rfl) dMo_reset_5 ⟨(Nat.le_of_ble_eq_true rfl), (Nat.le_of_ble_eq_true rfl)⟩) hP hD hS hA [0, 1, 2, 3, 4, 5, 6, 7, 8, 9, 10, 11, 12, 13, 14, 15, 16, 17, 18, 19, 20, 21, 22, 23, 24, 25, 26, 27, 28] [] rfl rfl rfl (by decide) (fun _ H locs _ hP hD hS => ?_)
  have hP : va_P D cls_ (mW h ad ca co M) H := hP
  have hD : va_D A (mW h ad ca co M) := hD
  refine k_is (y := nI 0) (by rw [e3]) ?_
  refine va_put (D := D) (ci := 4) (v := .int (nI 0)) (ty := .int) (C := RMo) (T := TMo) (N := 29) hx hb ht inMo tyMo tyMo_ok nmMo hown hE.1 hP hD hS 0 rfl rfl 0 (by decide) (ht _ tw_587) (fun _ h => h) rfl (by decide +kernel) rfl rfl (Nat.le_of_ble_eq_true rfl) dMo_reset_8 (fun H locs hP hD hS => ?_)
  have hP : va_P D cls_ (mW h ad ca 0 M) H := hP
  have hD : va_D A (mW h ad ca 0 M) := hD
  refine lv_aload_n hx hb dMo_reset_11 rfl (lv_at hl 0 rfl) ?_
  refine va_get (D := D) (ci := 4) (v := .int (nI 0)) (C := RMo) (T := TMo) (N := 29) hx hb ht inMo hown hE.1 hP 0 rfl rfl 0 (by decide) (ht _ tw_587) (fun _ h => h) rfl dMo_reset_12 ?_
  refine k_if_ne (tgt := 41) hx hb (by omega) dMo_reset_15 rfl (fun hz => absurd hz (by omega)) (fun h15 => ?_)
  refine lv_aload_n hx hb dMo_reset_18 rfl (lv_at hl 0 rfl) ?_
  refine lv_aload_n hx hb dMo_reset_19 rfl (lv_at hl 0 rfl) ?_
  refine va_get (D := D) (ci := 4) (v := .ref (ad 23)) (C := RMo) (T := TMo) (N := 29) hx hb ht inMo hown hE.1 hP 0 rfl rfl 23 (by decide) (ht _ tw_610) (fun _ h => h) rfl dMo_reset_20 ?_
  refine lv_iconst (v := nI 3) hx hb dMo_reset_23 (by decide) ?_
  refine lv_iload_n hx hb dMo_reset_24 rfl (lv_at hl 1 rfl) ?_
  refine k_imul hx hb dMo_reset_25 ?_
  refine lv_iload_n hx hb dMo_reset_26 rfl (lv_at hl 2 rfl) ?_
  refine k_iadd hx hb dMo_reset_27 ?_
  refine k_iald hx hb hE.1 hP 23 0 (n := 6) (g := (M 23)) rfl rfl (i := ((3 * s₀) + cn)) (by omega) (by decide) dMo_reset_28 ?_
  refine lv_iconst (v := nI 3) hx hb dMo_reset_29 (by decide) ?_
  refine k_icmp_ne (tgt := 37) hx hb (by omega) (by omega) dMo_reset_30 rfl (fun h30 => ?_) (fun hz => absurd hz (by omega))
  refine lv_iconst (v := nI 2) hx hb dMo_reset_37 (by decide) ?_
  refine va_put (D := D) (ci := 4) (v := .int (nI 2)) (ty := .int) (C := RMo) (T := TMo) (N := 29) hx hb ht inMo tyMo tyMo_ok nmMo hown hE.1 hP hD hS 0 rfl rfl 0 (by decide) (ht _ tw_587) (fun _ h => h) rfl (by decide +kernel) rfl rfl (Nat.le_of_ble_eq_true rfl) dMo_reset_38 (fun H locs hP hD hS => ?_)
  have hP : va_P D cls_ (mW h ad ca 2 M) H := hP
  have hD : va_D A (mW h ad ca 2 M) := hD
  refine lv_aload_n hx hb dMo_reset_41 rfl (lv_at hl 0 rfl) ?_
  refine va_get (D := D) (ci := 4) (v := .int (nI 2)) (C := RMo) (T := TMo) (N := 29) hx hb ht inMo hown hE.1 hP 0 rfl rfl 0 (by decide) (ht _ tw_587) (fun _ h => h) rfl dMo_reset_42 ?_
  refine k_if_ne (tgt := 57) hx hb (by omega) dMo_reset_45 rfl (fun h45 => ?_) (fun hz => absurd hz (by omega))
  exact Co.retv hx hb hret hlk dMo_reset_57 hS hP hD () rfl trivial rfl (Nat.le_of_ble_eq_true rfl) (Nat.le_of_ble_eq_true rfl)
set_option maxHeartbeats 4000000 in
set_option maxRecDepth 100000 in
theorem c_Mo_resetU (l : Launch) (D : va_G) (ca : Nat → ClassId) (h : Nat) (ad : Nat → Nat) (co : Nat) (M : Nat → Nat → Nat) (s₀ cn : Nat) (hM : mOk M) (hs : s₀ < 2) (hc : cn < 3) (hup : ¬ (M 10 s₀ = 2 ∧ M 17 s₀ ≤ 9)) : Co (S := Unit) l yMo_reset (Cond.code yMo_reset cMo_reset 3 none :: tb_) { frames := 5, cells := 0, slots := 0, locals := 160 } D ca [.ref h, .int (nI s₀), .int (nI cn)] (mW h ad ca co M) (fun _ => none) (fun _ => True) (fun _ => (mW h ad ca 2 M)) 0 0 := by
  refine Co.of cMo_reset 3 none (by decide) (Nat.le_of_ble_eq_true rfl) ?_
  intro p e s m args below meth c A ls fx hret hlk hin hE hP hD hS hA hl
  have hx := fx.1
  have hb := fx.2.1
  have hown : s.vm.findClass RMo = some m.cls := fx.2.2.2.1
  have hts := fx.2.2.2.2
  have ht : ∀ w ∈ tb_, w.before args s = true := fun w h => hts w (List.mem_cons_of_mem _ h)
  have e3 : (if M 10 s₀ = 2 ∧ M 17 s₀ ≤ 9 then 0 else 2) = 2 := if_neg hup
  have hl : lv_has ls 3 [(0, .ref h), (1, .int (nI s₀)), (2, .int (nI cn))] := hl
  refine lv_aload_n hx hb dMo_reset_0 rfl (lv_at hl 0 rfl) ?_
  refine lv_aload_n hx hb dMo_reset_1 rfl (lv_at hl 0 rfl) ?_
  refine lv_iload_n hx hb dMo_reset_2 rfl (lv_at hl 1 rfl) ?_
  refine lv_iload_n hx hb dMo_reset_3 rfl (lv_at hl 2 rfl) ?_
  refine lv_iconst (v := nI 2) hx hb dMo_reset_4 (by decide) ?_
  refine kI (rV fx (c_Mo_bars l D ca h ad co M s₀ cn (by first | assumption | exact mOk.idle (by assumption) _ | exact mOk.clean (by assumption) _ | exact mOk.renew (by assumption) _ | exact (mOk.renew (by assumption) _).set 23 (show 3 < 6 by decide) | exact (mOk.renew (by assumption) _).set 23 (show 5 < 6 by decide)) (by omega) (by omega) 2) ⟨callB_of 3 hts (tb_gi tw_783) rfl rfl rfl (ht _ tw_5) (ht _ tw_780) (by decide +kernel) ⟨(Nat.le_of_ble_eq_true rfl), (Nat.le_of_ble_eq_true rfl)⟩, ht _ tw_782, ht _ tw_861⟩ hE hP hD 0 rfl rfl rfl [0, 1, 2, 3, 4, 5, 6, 7, 8, 9, 10, 11, 12, 13, 14, 15, 16, 17, 18, 19, 20, 21, 22, 23, 24, 25, 26, 27, 28] rfl rfl rfl hl.1 rfl (Nat.le_of_ble_eq_true rfl) dMo_reset_5 ⟨(Nat.le_of_ble_eq_true rfl), (Nat.le_of_ble_eq_true rfl)⟩) hP hD hS hA [0, 1, 2, 3, 4, 5, 6, 7, 8, 9, 10, 11, 12, 13, 14, 15, 16, 17, 18, 19, 20, 21, 22, 23, 24, 25, 26, 27, 28] [] rfl rfl rfl (by decide) (fun _ H locs _ hP hD hS => ?_)
  have hP : va_P D cls_ (mW h ad ca co M) H := hP
  have hD : va_D A (mW h ad ca co M) := hD
  refine k_is (y := nI 2) (by rw [e3]) ?_
  refine va_put (D := D) (ci := 4) (v := .int (nI 2)) (ty := .int) (C := RMo) (T := TMo) (N := 29) hx hb ht inMo tyMo tyMo_ok nmMo hown hE.1 hP hD hS 0 rfl rfl 0 (by decide) (ht _ tw_587) (fun _ h => h) rfl (by decide +kernel) rfl rfl (Nat.le_of_ble_eq_true rfl) dMo_reset_8 (fun H locs hP hD hS => ?_)
  have hP : va_P D cls_ (mW h ad ca 2 M) H := hP
  have hD : va_D A (mW h ad ca 2 M) := hD
  refine lv_aload_n hx hb dMo_reset_11 rfl (lv_at hl 0 rfl) ?_
  refine va_get (D := D) (ci := 4) (v := .int (nI 2)) (C := RMo) (T := TMo) (N := 29) hx hb ht inMo hown hE.1 hP 0 rfl rfl 0 (by decide) (ht _ tw_587) (fun _ h => h) rfl dMo_reset_12 ?_
  refine k_if_ne (tgt := 41) hx hb (by omega) dMo_reset_15 rfl (fun h15 => ?_) (fun hz => absurd hz (by omega))
  refine lv_aload_n hx hb dMo_reset_41 rfl (lv_at hl 0 rfl) ?_
  refine va_get (D := D) (ci := 4) (v := .int (nI 2)) (C := RMo) (T := TMo) (N := 29) hx hb ht inMo hown hE.1 hP 0 rfl rfl 0 (by decide) (ht _ tw_587) (fun _ h => h) rfl dMo_reset_42 ?_
  refine k_if_ne (tgt := 57) hx hb (by omega) dMo_reset_45 rfl (fun h45 => ?_) (fun hz => absurd hz (by omega))
  exact Co.retv hx hb hret hlk dMo_reset_57 hS hP hD () rfl trivial rfl (Nat.le_of_ble_eq_true rfl) (Nat.le_of_ble_eq_true rfl)
set_option maxHeartbeats 4000000 in
set_option maxRecDepth 100000 in
theorem c_Mo_resetX (l : Launch) (D : va_G) (ca : Nat → ClassId) (h : Nat) (ad : Nat → Nat) (co : Nat) (M : Nat → Nat → Nat) (x₀ : Int32) (hx0 : ¬ x₀ = 0) (hx1 : ¬ x₀ = nI 1) (y₀ : Int32) : Co (S := Unit) l yMo_reset (Cond.code yMo_reset cMo_reset 3 none :: tb_) { frames := 5, cells := 0, slots := 0, locals := 160 } D ca [.ref h, .int x₀, .int y₀] (mW h ad ca co M) (fun _ => none) (fun _ => True) (fun _ => (mW h ad ca 1 M)) 0 0 := by
  refine Co.of cMo_reset 3 none (by decide) (Nat.le_of_ble_eq_true rfl) ?_
  intro p e s m args below meth c A ls fx hret hlk hin hE hP hD hS hA hl
  have hx := fx.1
  have hb := fx.2.1
  have hown : s.vm.findClass RMo = some m.cls := fx.2.2.2.1
  have hts := fx.2.2.2.2
  have ht : ∀ w ∈ tb_, w.before args s = true := fun w h => hts w (List.mem_cons_of_mem _ h)
  have hl : lv_has ls 3 [(0, .ref h), (1, .int x₀), (2, .int y₀)] := hl
  refine lv_aload_n hx hb dMo_reset_0 rfl (lv_at hl 0 rfl) ?_
  refine lv_aload_n hx hb dMo_reset_1 rfl (lv_at hl 0 rfl) ?_
  refine lv_iload_n hx hb dMo_reset_2 rfl (lv_at hl 1 rfl) ?_
  refine lv_iload_n hx hb dMo_reset_3 rfl (lv_at hl 2 rfl) ?_
  refine lv_iconst (v := nI 2) hx hb dMo_reset_4 (by decide) ?_
  refine kI (rV fx (c_Mo_barsX l D ca h ad co M x₀ hx0 hx1 y₀ 2) ⟨callB_of 3 hts (tb_gi tw_783) rfl rfl rfl (ht _ tw_5) (ht _ tw_780) (by decide +kernel) ⟨(Nat.le_of_ble_eq_true rfl), (Nat.le_of_ble_eq_true rfl)⟩, ht _ tw_782, ht _ tw_861⟩ hE hP hD 0 rfl rfl rfl [0, 1, 2, 3, 4, 5, 6, 7, 8, 9, 10, 11, 12, 13, 14, 15, 16, 17, 18, 19, 20, 21, 22, 23, 24, 25, 26, 27, 28] rfl rfl rfl hl.1 rfl (Nat.le_of_ble_eq_true rfl) dMo_reset_5 ⟨(Nat.le_of_ble_eq_true rfl), (Nat.le_of_ble_eq_true rfl)⟩) hP hD hS hA [0, 1, 2, 3, 4, 5, 6, 7, 8, 9, 10, 11, 12, 13, 14, 15, 16, 17, 18, 19, 20, 21, 22, 23, 24, 25, 26, 27, 28] [] rfl rfl rfl (by decide) (fun _ H locs _ hP hD hS => ?_)
  have hP : va_P D cls_ (mW h ad ca co M) H := hP
  have hD : va_D A (mW h ad ca co M) := hD
  refine va_put (D := D) (ci := 4) (v := .int (nI 1)) (ty := .int) (C := RMo) (T := TMo) (N := 29) hx hb ht inMo tyMo tyMo_ok nmMo hown hE.1 hP hD hS 0 rfl rfl 0 (by decide) (ht _ tw_587) (fun _ h => h) rfl (by decide +kernel) rfl rfl (Nat.le_of_ble_eq_true rfl) dMo_reset_8 (fun H locs hP hD hS => ?_)
  have hP : va_P D cls_ (mW h ad ca 1 M) H := hP
  have hD : va_D A (mW h ad ca 1 M) := hD
  refine lv_aload_n hx hb dMo_reset_11 rfl (lv_at hl 0 rfl) ?_
  refine va_get (D := D) (ci := 4) (v := .int (nI 1)) (C := RMo) (T := TMo) (N := 29) hx hb ht inMo hown hE.1 hP 0 rfl rfl 0 (by decide) (ht _ tw_587) (fun _ h => h) rfl dMo_reset_12 ?_
  refine k_if_ne (tgt := 41) hx hb (by omega) dMo_reset_15 rfl (fun h15 => ?_) (fun hz => absurd hz (by omega))
  refine lv_aload_n hx hb dMo_reset_41 rfl (lv_at hl 0 rfl) ?_
  refine va_get (D := D) (ci := 4) (v := .int (nI 1)) (C := RMo) (T := TMo) (N := 29) hx hb ht inMo hown hE.1 hP 0 rfl rfl 0 (by decide) (ht _ tw_587) (fun _ h => h) rfl dMo_reset_42 ?_
  refine k_if_ne (tgt := 57) hx hb (by omega) dMo_reset_45 rfl (fun h45 => ?_) (fun hz => absurd hz (by omega))
  exact Co.retv hx hb hret hlk dMo_reset_57 hS hP hD () rfl trivial rfl (Nat.le_of_ble_eq_true rfl) (Nat.le_of_ble_eq_true rfl)
set_option maxHeartbeats 4000000 in
set_option maxRecDepth 100000 in
theorem c_Mo_resetC (l : Launch) (D : va_G) (ca : Nat → ClassId) (h : Nat) (ad : Nat → Nat) (co : Nat) (M : Nat → Nat → Nat) (s₀ : Nat) (hs : s₀ < 2) (y₀ : Int32) (hy0 : y₀ < 0 ∨ nI 3 ≤ y₀) : Co (S := Unit) l yMo_reset (Cond.code yMo_reset cMo_reset 3 none :: tb_) { frames := 5, cells := 0, slots := 0, locals := 160 } D ca [.ref h, .int (nI s₀), .int y₀] (mW h ad ca co M) (fun _ => none) (fun _ => True) (fun _ => (mW h ad ca 1 M)) 0 0 := by
  refine Co.of cMo_reset 3 none (by decide) (Nat.le_of_ble_eq_true rfl) ?_
  intro p e s m args below meth c A ls fx hret hlk hin hE hP hD hS hA hl
  have hx := fx.1
  have hb := fx.2.1
  have hown : s.vm.findClass RMo = some m.cls := fx.2.2.2.1
  have hts := fx.2.2.2.2
  have ht : ∀ w ∈ tb_, w.before args s = true := fun w h => hts w (List.mem_cons_of_mem _ h)
  have hl : lv_has ls 3 [(0, .ref h), (1, .int (nI s₀)), (2, .int y₀)] := hl
  refine lv_aload_n hx hb dMo_reset_0 rfl (lv_at hl 0 rfl) ?_
  refine lv_aload_n hx hb dMo_reset_1 rfl (lv_at hl 0 rfl) ?_
  refine lv_iload_n hx hb dMo_reset_2 rfl (lv_at hl 1 rfl) ?_
  refine lv_iload_n hx hb dMo_reset_3 rfl (lv_at hl 2 rfl) ?_
  refine lv_iconst (v := nI 2) hx hb dMo_reset_4 (by decide) ?_
  refine kI (rV fx (c_Mo_barsC l D ca h ad co M s₀ (by omega) y₀ hy0 2) ⟨callB_of 3 hts (tb_gi tw_783) rfl rfl rfl (ht _ tw_5) (ht _ tw_780) (by decide +kernel) ⟨(Nat.le_of_ble_eq_true rfl), (Nat.le_of_ble_eq_true rfl)⟩, ht _ tw_782, ht _ tw_861⟩ hE hP hD 0 rfl rfl rfl [0, 1, 2, 3, 4, 5, 6, 7, 8, 9, 10, 11, 12, 13, 14, 15, 16, 17, 18, 19, 20, 21, 22, 23, 24, 25, 26, 27, 28] rfl rfl rfl hl.1 rfl (Nat.le_of_ble_eq_true rfl) dMo_reset_5 ⟨(Nat.le_of_ble_eq_true rfl), (Nat.le_of_ble_eq_true rfl)⟩) hP hD hS hA [0, 1, 2, 3, 4, 5, 6, 7, 8, 9, 10, 11, 12, 13, 14, 15, 16, 17, 18, 19, 20, 21, 22, 23, 24, 25, 26, 27, 28] [] rfl rfl rfl (by decide) (fun _ H locs _ hP hD hS => ?_)
  have hP : va_P D cls_ (mW h ad ca co M) H := hP
  have hD : va_D A (mW h ad ca co M) := hD
  refine va_put (D := D) (ci := 4) (v := .int (nI 1)) (ty := .int) (C := RMo) (T := TMo) (N := 29) hx hb ht inMo tyMo tyMo_ok nmMo hown hE.1 hP hD hS 0 rfl rfl 0 (by decide) (ht _ tw_587) (fun _ h => h) rfl (by decide +kernel) rfl rfl (Nat.le_of_ble_eq_true rfl) dMo_reset_8 (fun H locs hP hD hS => ?_)
  have hP : va_P D cls_ (mW h ad ca 1 M) H := hP
  have hD : va_D A (mW h ad ca 1 M) := hD
  refine lv_aload_n hx hb dMo_reset_11 rfl (lv_at hl 0 rfl) ?_
  refine va_get (D := D) (ci := 4) (v := .int (nI 1)) (C := RMo) (T := TMo) (N := 29) hx hb ht inMo hown hE.1 hP 0 rfl rfl 0 (by decide) (ht _ tw_587) (fun _ h => h) rfl dMo_reset_12 ?_
  refine k_if_ne (tgt := 41) hx hb (by omega) dMo_reset_15 rfl (fun h15 => ?_) (fun hz => absurd hz (by omega))
  refine lv_aload_n hx hb dMo_reset_41 rfl (lv_at hl 0 rfl) ?_
  refine va_get (D := D) (ci := 4) (v := .int (nI 1)) (C := RMo) (T := TMo) (N := 29) hx hb ht inMo hown hE.1 hP 0 rfl rfl 0 (by decide) (ht _ tw_587) (fun _ h => h) rfl dMo_reset_42 ?_
  refine k_if_ne (tgt := 57) hx hb (by omega) dMo_reset_45 rfl (fun h45 => ?_) (fun hz => absurd hz (by omega))
  exact Co.retv hx hb hret hlk dMo_reset_57 hS hP hD () rfl trivial rfl (Nat.le_of_ble_eq_true rfl) (Nat.le_of_ble_eq_true rfl)
set_option maxHeartbeats 4000000 in
set_option maxRecDepth 100000 in
theorem c_Mo_clear (l : Launch) (D : va_G) (ca : Nat → ClassId) (h : Nat) (ad : Nat → Nat) (co : Nat) (M : Nat → Nat → Nat) (s₀ cn : Nat) (hM : mOk M) (hs : s₀ < 2) (hc : cn < 3) (hup : M 10 s₀ = 2 ∧ M 17 s₀ ≤ 9) (hst : (M 23 (3 * s₀ + cn) ≠ 0 ∧ M 23 (3 * s₀ + cn) ≠ 4)) : Co (S := Unit) l yMo_clear (Cond.code yMo_clear cMo_clear 3 none :: tb_) { frames := 5, cells := 0, slots := 0, locals := 160 } D ca [.ref h, .int (nI s₀), .int (nI cn)] (mW h ad ca co M) (fun _ => none) (fun _ => True) (fun _ => (mW h ad ca 0 (mBec M s₀ cn 3 4))) 0 0 := by
  refine Co.of cMo_clear 3 none (by decide) (Nat.le_of_ble_eq_true rfl) ?_
  intro p e s m args below meth c A ls fx hret hlk hin hE hP hD hS hA hl
  have hx := fx.1
  have hb := fx.2.1
  have hown : s.vm.findClass RMo = some m.cls := fx.2.2.2.1
  have hts := fx.2.2.2.2
  have ht : ∀ w ∈ tb_, w.before args s = true := fun w h => hts w (List.mem_cons_of_mem _ h)
  have e3 : (if M 10 s₀ = 2 ∧ M 17 s₀ ≤ 9 then 0 else 2) = 0 := if_pos hup
  have b1 : M 23 (3 * s₀ + cn) < 6 := hM 23 _
  have hl : lv_has ls 3 [(0, .ref h), (1, .int (nI s₀)), (2, .int (nI cn))] := hl
  refine lv_aload_n hx hb dMo_clear_0 rfl (lv_at hl 0 rfl) ?_
  refine lv_aload_n hx hb dMo_clear_1 rfl (lv_at hl 0 rfl) ?_
  refine lv_iload_n hx hb dMo_clear_2 rfl (lv_at hl 1 rfl) ?_
  refine lv_iload_n hx hb dMo_clear_3 rfl (lv_at hl 2 rfl) ?_
  refine lv_iconst (v := nI 2) hx hb dMo_clear_4 (by decide) ?_
  refine kI (rV fx (c_Mo_bars l D ca h ad co M s₀ cn (by first | assumption | exact mOk.idle (by assumption) _ | exact mOk.clean (by assumption) _ | exact mOk.renew (by assumption) _ | exact (mOk.renew (by assumption) _).set 23 (show 3 < 6 by decide) | exact (mOk.renew (by assumption) _).set 23 (show 5 < 6 by decide)) (by omega) (by omega) 2) ⟨callB_of 3 hts (tb_gi tw_783) rfl rfl rfl (ht _ tw_5) (ht _ tw_780) (by decide +kernel) ⟨(Nat.le_of_ble_eq_true rfl), (Nat.le_of_ble_eq_true rfl)⟩, ht _ tw_782, ht _ tw_861⟩ hE hP hD 0 rfl rfl rfl [0, 1, 2, 3, 4, 5, 6, 7, 8, 9, 10, 11, 12, 13, 14, 15, 16, 17, 18, 19, 20, 21, 22, 23, 24, 25, 26, 27, 28] rfl rfl rfl hl.1 rfl (Nat.le_of_ble_eq_true rfl) dMo_clear_5 ⟨(Nat.le_of_ble_eq_true rfl), (Nat.le_of_ble_eq_true rfl)⟩) hP hD hS hA [0, 1, 2, 3, 4, 5, 6, 7, 8, 9, 10, 11, 12, 13, 14, 15, 16, 17, 18, 19, 20, 21, 22, 23, 24, 25, 26, 27, 28] [] rfl rfl rfl (by decide) (fun _ H locs _ hP hD hS => ?_)
  have hP : va_P D cls_ (mW h ad ca co M) H := hP
  have hD : va_D A (mW h ad ca co M) := hD
  refine k_is (y := nI 0) (by rw [e3]) ?_
  refine va_put (D := D) (ci := 4) (v := .int (nI 0)) (ty := .int) (C := RMo) (T := TMo) (N := 29) hx hb ht inMo tyMo tyMo_ok nmMo hown hE.1 hP hD hS 0 rfl rfl 0 (by decide) (ht _ tw_587) (fun _ h => h) rfl (by decide +kernel) rfl rfl (Nat.le_of_ble_eq_true rfl) dMo_clear_8 (fun H locs hP hD hS => ?_)
  have hP : va_P D cls_ (mW h ad ca 0 M) H := hP
  have hD : va_D A (mW h ad ca 0 M) := hD
  refine lv_aload_n hx hb dMo_clear_11 rfl (lv_at hl 0 rfl) ?_
  refine va_get (D := D) (ci := 4) (v := .int (nI 0)) (C := RMo) (T := TMo) (N := 29) hx hb ht inMo hown hE.1 hP 0 rfl rfl 0 (by decide) (ht _ tw_587) (fun _ h => h) rfl dMo_clear_12 ?_
  refine k_if_ne (tgt := 54) hx hb (by omega) dMo_clear_15 rfl (fun hz => absurd hz (by omega)) (fun h15 => ?_)
  refine lv_aload_n hx hb dMo_clear_18 rfl (lv_at hl 0 rfl) ?_
  refine lv_aload_n hx hb dMo_clear_19 rfl (lv_at hl 0 rfl) ?_
  refine va_get (D := D) (ci := 4) (v := .ref (ad 23)) (C := RMo) (T := TMo) (N := 29) hx hb ht inMo hown hE.1 hP 0 rfl rfl 23 (by decide) (ht _ tw_610) (fun _ h => h) rfl dMo_clear_20 ?_
  refine lv_iconst (v := nI 3) hx hb dMo_clear_23 (by decide) ?_
  refine lv_iload_n hx hb dMo_clear_24 rfl (lv_at hl 1 rfl) ?_
  refine k_imul hx hb dMo_clear_25 ?_
  refine lv_iload_n hx hb dMo_clear_26 rfl (lv_at hl 2 rfl) ?_
  refine k_iadd hx hb dMo_clear_27 ?_
  refine k_iald hx hb hE.1 hP 23 0 (n := 6) (g := (M 23)) rfl rfl (i := ((3 * s₀) + cn)) (by omega) (by decide) dMo_clear_28 ?_
  refine k_if_eq (tgt := 46) hx hb (by omega) dMo_clear_29 rfl (fun hz => absurd hz (by omega)) (fun h29 => ?_)
  refine lv_aload_n hx hb dMo_clear_32 rfl (lv_at hl 0 rfl) ?_
  refine va_get (D := D) (ci := 4) (v := .ref (ad 23)) (C := RMo) (T := TMo) (N := 29) hx hb ht inMo hown hE.1 hP 0 rfl rfl 23 (by decide) (ht _ tw_610) (fun _ h => h) rfl dMo_clear_33 ?_
  refine lv_iconst (v := nI 3) hx hb dMo_clear_36 (by decide) ?_
  refine lv_iload_n hx hb dMo_clear_37 rfl (lv_at hl 1 rfl) ?_
  refine k_imul hx hb dMo_clear_38 ?_
  refine lv_iload_n hx hb dMo_clear_39 rfl (lv_at hl 2 rfl) ?_
  refine k_iadd hx hb dMo_clear_40 ?_
  refine k_iald hx hb hE.1 hP 23 0 (n := 6) (g := (M 23)) rfl rfl (i := ((3 * s₀) + cn)) (by omega) (by decide) dMo_clear_41 ?_
  refine lv_iconst (v := nI 4) hx hb dMo_clear_42 (by decide) ?_
  refine k_icmp_ne (tgt := 50) hx hb (by omega) (by omega) dMo_clear_43 rfl (fun h43 => ?_) (fun hz => absurd hz (by omega))
  refine lv_iconst (v := nI 0) hx hb dMo_clear_50 (by decide) ?_
  refine va_put (D := D) (ci := 4) (v := .int (nI 0)) (ty := .int) (C := RMo) (T := TMo) (N := 29) hx hb ht inMo tyMo tyMo_ok nmMo hown hE.1 hP hD hS 0 rfl rfl 0 (by decide) (ht _ tw_587) (fun _ h => h) rfl (by decide +kernel) rfl rfl (Nat.le_of_ble_eq_true rfl) dMo_clear_51 (fun H locs hP hD hS => ?_)
  have hP : va_P D cls_ (mW h ad ca 0 M) H := hP
  have hD : va_D A (mW h ad ca 0 M) := hD
  refine lv_aload_n hx hb dMo_clear_54 rfl (lv_at hl 0 rfl) ?_
  refine va_get (D := D) (ci := 4) (v := .int (nI 0)) (C := RMo) (T := TMo) (N := 29) hx hb ht inMo hown hE.1 hP 0 rfl rfl 0 (by decide) (ht _ tw_587) (fun _ h => h) rfl dMo_clear_55 ?_
  refine k_if_ne (tgt := 69) hx hb (by omega) dMo_clear_58 rfl (fun hz => absurd hz (by omega)) (fun h58 => ?_)
  refine lv_aload_n hx hb dMo_clear_61 rfl (lv_at hl 0 rfl) ?_
  refine lv_iload_n hx hb dMo_clear_62 rfl (lv_at hl 1 rfl) ?_
  refine lv_iload_n hx hb dMo_clear_63 rfl (lv_at hl 2 rfl) ?_
  refine lv_iconst (v := nI 3) hx hb dMo_clear_64 (by decide) ?_
  refine lv_iconst (v := nI 4) hx hb dMo_clear_65 (by decide) ?_
  refine kV (rV fx (c_Mo_become l D ca h ad 0 M s₀ cn (by first | assumption | exact mOk.idle (by assumption) _ | exact mOk.clean (by assumption) _ | exact mOk.renew (by assumption) _ | exact (mOk.renew (by assumption) _).set 23 (show 3 < 6 by decide) | exact (mOk.renew (by assumption) _).set 23 (show 5 < 6 by decide)) (by omega) (by omega) 3 4 (by omega) (by omega)) ⟨callB_of 4 hts (tb_gi tw_787) rfl rfl rfl (ht _ tw_5) (ht _ tw_784) (by decide +kernel) ⟨(Nat.le_of_ble_eq_true rfl), (Nat.le_of_ble_eq_true rfl)⟩, ht _ tw_786, ht _ tw_862⟩ hE hP hD 0 rfl rfl rfl [0, 1, 2, 3, 4, 5, 6, 7, 8, 9, 10, 11, 12, 13, 14, 15, 16, 17, 18, 19, 20, 21, 22, 23, 24, 25, 26, 27, 28] rfl rfl rfl hl.1 rfl (Nat.le_of_ble_eq_true rfl) dMo_clear_66 ⟨(Nat.le_of_ble_eq_true rfl), (Nat.le_of_ble_eq_true rfl)⟩) hP hD hS hA [0, 1, 2, 3, 4, 5, 6, 7, 8, 9, 10, 11, 12, 13, 14, 15, 16, 17, 18, 19, 20, 21, 22, 23, 24, 25, 26, 27, 28] [] rfl rfl rfl (by decide) (fun _ H locs _ hP hD hS => ?_)
  have hP : va_P D cls_ (mW h ad ca 0 (mBec M s₀ cn 3 4)) H := hP
  have hD : va_D A (mW h ad ca 0 (mBec M s₀ cn 3 4)) := hD
  exact Co.retv hx hb hret hlk dMo_clear_69 hS hP hD () rfl trivial rfl (Nat.le_of_ble_eq_true rfl) (Nat.le_of_ble_eq_true rfl)
set_option maxHeartbeats 4000000 in
set_option maxRecDepth 100000 in
theorem c_Mo_clearS (l : Launch) (D : va_G) (ca : Nat → ClassId) (h : Nat) (ad : Nat → Nat) (co : Nat) (M : Nat → Nat → Nat) (s₀ cn : Nat) (hM : mOk M) (hs : s₀ < 2) (hc : cn < 3) (hup : M 10 s₀ = 2 ∧ M 17 s₀ ≤ 9) (hst : ¬ (M 23 (3 * s₀ + cn) ≠ 0 ∧ M 23 (3 * s₀ + cn) ≠ 4)) : Co (S := Unit) l yMo_clear (Cond.code yMo_clear cMo_clear 3 none :: tb_) { frames := 5, cells := 0, slots := 0, locals := 160 } D ca [.ref h, .int (nI s₀), .int (nI cn)] (mW h ad ca co M) (fun _ => none) (fun _ => True) (fun _ => (mW h ad ca 2 M)) 0 0 := by
  refine Co.of cMo_clear 3 none (by decide) (Nat.le_of_ble_eq_true rfl) ?_
  intro p e s m args below meth c A ls fx hret hlk hin hE hP hD hS hA hl
  have hx := fx.1
  have hb := fx.2.1
  have hown : s.vm.findClass RMo = some m.cls := fx.2.2.2.1
  have hts := fx.2.2.2.2
  have ht : ∀ w ∈ tb_, w.before args s = true := fun w h => hts w (List.mem_cons_of_mem _ h)
  have e3 : (if M 10 s₀ = 2 ∧ M 17 s₀ ≤ 9 then 0 else 2) = 0 := if_pos hup
  have b1 : M 23 (3 * s₀ + cn) < 6 := hM 23 _
  have hl : lv_has ls 3 [(0, .ref h), (1, .int (nI s₀)), (2, .int (nI cn))] := hl
  refine lv_aload_n hx hb dMo_clear_0 rfl (lv_at hl 0 rfl) ?_
  refine lv_aload_n hx hb dMo_clear_1 rfl (lv_at hl 0 rfl) ?_
  refine lv_iload_n hx hb dMo_clear_2 rfl (lv_at hl 1 rfl) ?_
  refine lv_iload_n hx hb dMo_clear_3 rfl (lv_at hl 2 rfl) ?_
  refine lv_iconst (v := nI 2) hx hb dMo_clear_4 (by decide) ?_
  refine kI (rV fx (c_Mo_bars l D ca h ad co M s₀ cn (by first | assumption | exact mOk.idle (by assumption) _ | exact mOk.clean (by assumption) _ | exact mOk.renew (by assumption) _ | exact (mOk.renew (by assumption) _).set 23 (show 3 < 6 by decide) | exact (mOk.renew (by assumption) _).set 23 (show 5 < 6 by decide)) (by omega) (by omega) 2) ⟨callB_of 3 hts (tb_gi tw_783) rfl rfl rfl (ht _ tw_5) (ht _ tw_780) (by decide +kernel) ⟨(Nat.le_of_ble_eq_true rfl), (Nat.le_of_ble_eq_true rfl)⟩, ht _ tw_782, ht _ tw_861⟩ hE hP hD 0 rfl rfl rfl [0, 1, 2, 3, 4, 5, 6, 7, 8, 9, 10, 11, 12, 13, 14, 15, 16, 17, 18, 19, 20, 21, 22, 23, 24, 25, 26, 27, 28] rfl rfl rfl hl.1 rfl (Nat.le_of_ble_eq_true rfl) dMo_clear_5 ⟨(Nat.le_of_ble_eq_true rfl), (Nat.le_of_ble_eq_true rfl)⟩) hP hD hS hA [0, 1, 2, 3, 4, 5, 6, 7, 8, 9, 10, 11, 12, 13, 14, 15, 16, 17, 18, 19, 20, 21, 22, 23, 24, 25, 26, 27, 28] [] rfl rfl rfl (by decide) (fun _ H locs _ hP hD hS => ?_)
  have hP : va_P D cls_ (mW h ad ca co M) H := hP
  have hD : va_D A (mW h ad ca co M) := hD
  refine k_is (y := nI 0) (by rw [e3]) ?_
  refine va_put (D := D) (ci := 4) (v := .int (nI 0)) (ty := .int) (C := RMo) (T := TMo) (N := 29) hx hb ht inMo tyMo tyMo_ok nmMo hown hE.1 hP hD hS 0 rfl rfl 0 (by decide) (ht _ tw_587) (fun _ h => h) rfl (by decide +kernel) rfl rfl (Nat.le_of_ble_eq_true rfl) dMo_clear_8 (fun H locs hP hD hS => ?_)
  have hP : va_P D cls_ (mW h ad ca 0 M) H := hP
  have hD : va_D A (mW h ad ca 0 M) := hD
  refine lv_aload_n hx hb dMo_clear_11 rfl (lv_at hl 0 rfl) ?_
  refine va_get (D := D) (ci := 4) (v := .int (nI 0)) (C := RMo) (T := TMo) (N := 29) hx hb ht inMo hown hE.1 hP 0 rfl rfl 0 (by decide) (ht _ tw_587) (fun _ h => h) rfl dMo_clear_12 ?_
  refine k_if_ne (tgt := 54) hx hb (by omega) dMo_clear_15 rfl (fun hz => absurd hz (by omega)) (fun h15 => ?_)
  refine lv_aload_n hx hb dMo_clear_18 rfl (lv_at hl 0 rfl) ?_
  refine lv_aload_n hx hb dMo_clear_19 rfl (lv_at hl 0 rfl) ?_
  refine va_get (D := D) (ci := 4) (v := .ref (ad 23)) (C := RMo) (T := TMo) (N := 29) hx hb ht inMo hown hE.1 hP 0 rfl rfl 23 (by decide) (ht _ tw_610) (fun _ h => h) rfl dMo_clear_20 ?_
  refine lv_iconst (v := nI 3) hx hb dMo_clear_23 (by decide) ?_
  refine lv_iload_n hx hb dMo_clear_24 rfl (lv_at hl 1 rfl) ?_
  refine k_imul hx hb dMo_clear_25 ?_
  refine lv_iload_n hx hb dMo_clear_26 rfl (lv_at hl 2 rfl) ?_
  refine k_iadd hx hb dMo_clear_27 ?_
  refine k_iald hx hb hE.1 hP 23 0 (n := 6) (g := (M 23)) rfl rfl (i := ((3 * s₀) + cn)) (by omega) (by decide) dMo_clear_28 ?_
  refine k_if_eq (tgt := 46) hx hb (by omega) dMo_clear_29 rfl (fun h29 => ?_) (fun h29 => ?_)
  · refine lv_iconst (v := nI 2) hx hb dMo_clear_46 (by decide) ?_
    refine lv_goto (tgt := 51) hx hb dMo_clear_47 rfl ?_
    refine va_put (D := D) (ci := 4) (v := .int (nI 2)) (ty := .int) (C := RMo) (T := TMo) (N := 29) hx hb ht inMo tyMo tyMo_ok nmMo hown hE.1 hP hD hS 0 rfl rfl 0 (by decide) (ht _ tw_587) (fun _ h => h) rfl (by decide +kernel) rfl rfl (Nat.le_of_ble_eq_true rfl) dMo_clear_51 (fun H locs hP hD hS => ?_)
    have hP : va_P D cls_ (mW h ad ca 2 M) H := hP
    have hD : va_D A (mW h ad ca 2 M) := hD
    refine lv_aload_n hx hb dMo_clear_54 rfl (lv_at hl 0 rfl) ?_
    refine va_get (D := D) (ci := 4) (v := .int (nI 2)) (C := RMo) (T := TMo) (N := 29) hx hb ht inMo hown hE.1 hP 0 rfl rfl 0 (by decide) (ht _ tw_587) (fun _ h => h) rfl dMo_clear_55 ?_
    refine k_if_ne (tgt := 69) hx hb (by omega) dMo_clear_58 rfl (fun h58 => ?_) (fun hz => absurd hz (by omega))
    exact Co.retv hx hb hret hlk dMo_clear_69 hS hP hD () rfl trivial rfl (Nat.le_of_ble_eq_true rfl) (Nat.le_of_ble_eq_true rfl)
  · refine lv_aload_n hx hb dMo_clear_32 rfl (lv_at hl 0 rfl) ?_
    refine va_get (D := D) (ci := 4) (v := .ref (ad 23)) (C := RMo) (T := TMo) (N := 29) hx hb ht inMo hown hE.1 hP 0 rfl rfl 23 (by decide) (ht _ tw_610) (fun _ h => h) rfl dMo_clear_33 ?_
    refine lv_iconst (v := nI 3) hx hb dMo_clear_36 (by decide) ?_
    refine lv_iload_n hx hb dMo_clear_37 rfl (lv_at hl 1 rfl) ?_
    refine k_imul hx hb dMo_clear_38 ?_
    refine lv_iload_n hx hb dMo_clear_39 rfl (lv_at hl 2 rfl) ?_
    refine k_iadd hx hb dMo_clear_40 ?_
    refine k_iald hx hb hE.1 hP 23 0 (n := 6) (g := (M 23)) rfl rfl (i := ((3 * s₀) + cn)) (by omega) (by decide) dMo_clear_41 ?_
    refine lv_iconst (v := nI 4) hx hb dMo_clear_42 (by decide) ?_
    refine k_icmp_ne (tgt := 50) hx hb (by omega) (by omega) dMo_clear_43 rfl (fun hz => absurd hz (by omega)) (fun h43 => ?_)
    refine lv_iconst (v := nI 2) hx hb dMo_clear_46 (by decide) ?_
    refine lv_goto (tgt := 51) hx hb dMo_clear_47 rfl ?_
    refine va_put (D := D) (ci := 4) (v := .int (nI 2)) (ty := .int) (C := RMo) (T := TMo) (N := 29) hx hb ht inMo tyMo tyMo_ok nmMo hown hE.1 hP hD hS 0 rfl rfl 0 (by decide) (ht _ tw_587) (fun _ h => h) rfl (by decide +kernel) rfl rfl (Nat.le_of_ble_eq_true rfl) dMo_clear_51 (fun H locs hP hD hS => ?_)
    have hP : va_P D cls_ (mW h ad ca 2 M) H := hP
    have hD : va_D A (mW h ad ca 2 M) := hD
    refine lv_aload_n hx hb dMo_clear_54 rfl (lv_at hl 0 rfl) ?_
    refine va_get (D := D) (ci := 4) (v := .int (nI 2)) (C := RMo) (T := TMo) (N := 29) hx hb ht inMo hown hE.1 hP 0 rfl rfl 0 (by decide) (ht _ tw_587) (fun _ h => h) rfl dMo_clear_55 ?_
    refine k_if_ne (tgt := 69) hx hb (by omega) dMo_clear_58 rfl (fun h58 => ?_) (fun hz => absurd hz (by omega))
    exact Co.retv hx hb hret hlk dMo_clear_69 hS hP hD () rfl trivial rfl (Nat.le_of_ble_eq_true rfl) (Nat.le_of_ble_eq_true rfl)
set_option maxHeartbeats 4000000 in
set_option maxRecDepth 100000 in
theorem c_Mo_clearU (l : Launch) (D : va_G) (ca : Nat → ClassId) (h : Nat) (ad : Nat → Nat) (co : Nat) (M : Nat → Nat → Nat) (s₀ cn : Nat) (hM : mOk M) (hs : s₀ < 2) (hc : cn < 3) (hup : ¬ (M 10 s₀ = 2 ∧ M 17 s₀ ≤ 9)) : Co (S := Unit) l yMo_clear (Cond.code yMo_clear cMo_clear 3 none :: tb_) { frames := 5, cells := 0, slots := 0, locals := 160 } D ca [.ref h, .int (nI s₀), .int (nI cn)] (mW h ad ca co M) (fun _ => none) (fun _ => True) (fun _ => (mW h ad ca 2 M)) 0 0 := by
  refine Co.of cMo_clear 3 none (by decide) (Nat.le_of_ble_eq_true rfl) ?_
  intro p e s m args below meth c A ls fx hret hlk hin hE hP hD hS hA hl
  have hx := fx.1
  have hb := fx.2.1
  have hown : s.vm.findClass RMo = some m.cls := fx.2.2.2.1
  have hts := fx.2.2.2.2
  have ht : ∀ w ∈ tb_, w.before args s = true := fun w h => hts w (List.mem_cons_of_mem _ h)
  have e3 : (if M 10 s₀ = 2 ∧ M 17 s₀ ≤ 9 then 0 else 2) = 2 := if_neg hup
  have hl : lv_has ls 3 [(0, .ref h), (1, .int (nI s₀)), (2, .int (nI cn))] := hl
  refine lv_aload_n hx hb dMo_clear_0 rfl (lv_at hl 0 rfl) ?_
  refine lv_aload_n hx hb dMo_clear_1 rfl (lv_at hl 0 rfl) ?_
  refine lv_iload_n hx hb dMo_clear_2 rfl (lv_at hl 1 rfl) ?_
  refine lv_iload_n hx hb dMo_clear_3 rfl (lv_at hl 2 rfl) ?_
  refine lv_iconst (v := nI 2) hx hb dMo_clear_4 (by decide) ?_
  refine kI (rV fx (c_Mo_bars l D ca h ad co M s₀ cn (by first | assumption | exact mOk.idle (by assumption) _ | exact mOk.clean (by assumption) _ | exact mOk.renew (by assumption) _ | exact (mOk.renew (by assumption) _).set 23 (show 3 < 6 by decide) | exact (mOk.renew (by assumption) _).set 23 (show 5 < 6 by decide)) (by omega) (by omega) 2) ⟨callB_of 3 hts (tb_gi tw_783) rfl rfl rfl (ht _ tw_5) (ht _ tw_780) (by decide +kernel) ⟨(Nat.le_of_ble_eq_true rfl), (Nat.le_of_ble_eq_true rfl)⟩, ht _ tw_782, ht _ tw_861⟩ hE hP hD 0 rfl rfl rfl [0, 1, 2, 3, 4, 5, 6, 7, 8, 9, 10, 11, 12, 13, 14, 15, 16, 17, 18, 19, 20, 21, 22, 23, 24, 25, 26, 27, 28] rfl rfl rfl hl.1 rfl (Nat.le_of_ble_eq_true rfl) dMo_clear_5 ⟨(Nat.le_of_ble_eq_true rfl), (Nat.le_of_ble_eq_true rfl)⟩) hP hD hS hA [0, 1, 2, 3, 4, 5, 6, 7, 8, 9, 10, 11, 12, 13, 14, 15, 16, 17, 18, 19, 20, 21, 22, 23, 24, 25, 26, 27, 28] [] rfl rfl rfl (by decide) (fun _ H locs _ hP hD hS => ?_)
  have hP : va_P D cls_ (mW h ad ca co M) H := hP
  have hD : va_D A (mW h ad ca co M) := hD
  refine k_is (y := nI 2) (by rw [e3]) ?_
  refine va_put (D := D) (ci := 4) (v := .int (nI 2)) (ty := .int) (C := RMo) (T := TMo) (N := 29) hx hb ht inMo tyMo tyMo_ok nmMo hown hE.1 hP hD hS 0 rfl rfl 0 (by decide) (ht _ tw_587) (fun _ h => h) rfl (by decide +kernel) rfl rfl (Nat.le_of_ble_eq_true rfl) dMo_clear_8 (fun H locs hP hD hS => ?_)
  have hP : va_P D cls_ (mW h ad ca 2 M) H := hP
  have hD : va_D A (mW h ad ca 2 M) := hD
  refine lv_aload_n hx hb dMo_clear_11 rfl (lv_at hl 0 rfl) ?_
  refine va_get (D := D) (ci := 4) (v := .int (nI 2)) (C := RMo) (T := TMo) (N := 29) hx hb ht inMo hown hE.1 hP 0 rfl rfl 0 (by decide) (ht _ tw_587) (fun _ h => h) rfl dMo_clear_12 ?_
  refine k_if_ne (tgt := 54) hx hb (by omega) dMo_clear_15 rfl (fun h15 => ?_) (fun hz => absurd hz (by omega))
  refine lv_aload_n hx hb dMo_clear_54 rfl (lv_at hl 0 rfl) ?_
  refine va_get (D := D) (ci := 4) (v := .int (nI 2)) (C := RMo) (T := TMo) (N := 29) hx hb ht inMo hown hE.1 hP 0 rfl rfl 0 (by decide) (ht _ tw_587) (fun _ h => h) rfl dMo_clear_55 ?_
  refine k_if_ne (tgt := 69) hx hb (by omega) dMo_clear_58 rfl (fun h58 => ?_) (fun hz => absurd hz (by omega))
  exact Co.retv hx hb hret hlk dMo_clear_69 hS hP hD () rfl trivial rfl (Nat.le_of_ble_eq_true rfl) (Nat.le_of_ble_eq_true rfl)
set_option maxHeartbeats 4000000 in
set_option maxRecDepth 100000 in
theorem c_Mo_clearX (l : Launch) (D : va_G) (ca : Nat → ClassId) (h : Nat) (ad : Nat → Nat) (co : Nat) (M : Nat → Nat → Nat) (x₀ : Int32) (hx0 : ¬ x₀ = 0) (hx1 : ¬ x₀ = nI 1) (y₀ : Int32) : Co (S := Unit) l yMo_clear (Cond.code yMo_clear cMo_clear 3 none :: tb_) { frames := 5, cells := 0, slots := 0, locals := 160 } D ca [.ref h, .int x₀, .int y₀] (mW h ad ca co M) (fun _ => none) (fun _ => True) (fun _ => (mW h ad ca 1 M)) 0 0 := by
  refine Co.of cMo_clear 3 none (by decide) (Nat.le_of_ble_eq_true rfl) ?_
  intro p e s m args below meth c A ls fx hret hlk hin hE hP hD hS hA hl
  have hx := fx.1
  have hb := fx.2.1
  have hown : s.vm.findClass RMo = some m.cls := fx.2.2.2.1
  have hts := fx.2.2.2.2
  have ht : ∀ w ∈ tb_, w.before args s = true := fun w h => hts w (List.mem_cons_of_mem _ h)
  have hl : lv_has ls 3 [(0, .ref h), (1, .int x₀), (2, .int y₀)] := hl
  refine lv_aload_n hx hb dMo_clear_0 rfl (lv_at hl 0 rfl) ?_
  refine lv_aload_n hx hb dMo_clear_1 rfl (lv_at hl 0 rfl) ?_
  refine lv_iload_n hx hb dMo_clear_2 rfl (lv_at hl 1 rfl) ?_
  refine lv_iload_n hx hb dMo_clear_3 rfl (lv_at hl 2 rfl) ?_
  refine lv_iconst (v := nI 2) hx hb dMo_clear_4 (by decide) ?_
  refine kI (rV fx (c_Mo_barsX l D ca h ad co M x₀ hx0 hx1 y₀ 2) ⟨callB_of 3 hts (tb_gi tw_783) rfl rfl rfl (ht _ tw_5) (ht _ tw_780) (by decide +kernel) ⟨(Nat.le_of_ble_eq_true rfl), (Nat.le_of_ble_eq_true rfl)⟩, ht _ tw_782, ht _ tw_861⟩ hE hP hD 0 rfl rfl rfl [0, 1, 2, 3, 4, 5, 6, 7, 8, 9, 10, 11, 12, 13, 14, 15, 16, 17, 18, 19, 20, 21, 22, 23, 24, 25, 26, 27, 28] rfl rfl rfl hl.1 rfl (Nat.le_of_ble_eq_true rfl) dMo_clear_5 ⟨(Nat.le_of_ble_eq_true rfl), (Nat.le_of_ble_eq_true rfl)⟩) hP hD hS hA [0, 1, 2, 3, 4, 5, 6, 7, 8, 9, 10, 11, 12, 13, 14, 15, 16, 17, 18, 19, 20, 21, 22, 23, 24, 25, 26, 27, 28] [] rfl rfl rfl (by decide) (fun _ H locs _ hP hD hS => ?_)
  have hP : va_P D cls_ (mW h ad ca co M) H := hP
  have hD : va_D A (mW h ad ca co M) := hD
  refine va_put (D := D) (ci := 4) (v := .int (nI 1)) (ty := .int) (C := RMo) (T := TMo) (N := 29) hx hb ht inMo tyMo tyMo_ok nmMo hown hE.1 hP hD hS 0 rfl rfl 0 (by decide) (ht _ tw_587) (fun _ h => h) rfl (by decide +kernel) rfl rfl (Nat.le_of_ble_eq_true rfl) dMo_clear_8 (fun H locs hP hD hS => ?_)
  have hP : va_P D cls_ (mW h ad ca 1 M) H := hP
  have hD : va_D A (mW h ad ca 1 M) := hD
  refine lv_aload_n hx hb dMo_clear_11 rfl (lv_at hl 0 rfl) ?_
  refine va_get (D := D) (ci := 4) (v := .int (nI 1)) (C := RMo) (T := TMo) (N := 29) hx hb ht inMo hown hE.1 hP 0 rfl rfl 0 (by decide) (ht _ tw_587) (fun _ h => h) rfl dMo_clear_12 ?_
  refine k_if_ne (tgt := 54) hx hb (by omega) dMo_clear_15 rfl (fun h15 => ?_) (fun hz => absurd hz (by omega))
  refine lv_aload_n hx hb dMo_clear_54 rfl (lv_at hl 0 rfl) ?_
  refine va_get (D := D) (ci := 4) (v := .int (nI 1)) (C := RMo) (T := TMo) (N := 29) hx hb ht inMo hown hE.1 hP 0 rfl rfl 0 (by decide) (ht _ tw_587) (fun _ h => h) rfl dMo_clear_55 ?_
  refine k_if_ne (tgt := 69) hx hb (by omega) dMo_clear_58 rfl (fun h58 => ?_) (fun hz => absurd hz (by omega))
  exact Co.retv hx hb hret hlk dMo_clear_69 hS hP hD () rfl trivial rfl (Nat.le_of_ble_eq_true rfl) (Nat.le_of_ble_eq_true rfl)
set_option maxHeartbeats 4000000 in
set_option maxRecDepth 100000 in
theorem c_Mo_clearC (l : Launch) (D : va_G) (ca : Nat → ClassId) (h : Nat) (ad : Nat → Nat) (co : Nat) (M : Nat → Nat → Nat) (s₀ : Nat) (hs : s₀ < 2) (y₀ : Int32) (hy0 : y₀ < 0 ∨ nI 3 ≤ y₀) : Co (S := Unit) l yMo_clear (Cond.code yMo_clear cMo_clear 3 none :: tb_) { frames := 5, cells := 0, slots := 0, locals := 160 } D ca [.ref h, .int (nI s₀), .int y₀] (mW h ad ca co M) (fun _ => none) (fun _ => True) (fun _ => (mW h ad ca 1 M)) 0 0 := by
  refine Co.of cMo_clear 3 none (by decide) (Nat.le_of_ble_eq_true rfl) ?_
  intro p e s m args below meth c A ls fx hret hlk hin hE hP hD hS hA hl
  have hx := fx.1
  have hb := fx.2.1
  have hown : s.vm.findClass RMo = some m.cls := fx.2.2.2.1
  have hts := fx.2.2.2.2
  have ht : ∀ w ∈ tb_, w.before args s = true := fun w h => hts w (List.mem_cons_of_mem _ h)
  have hl : lv_has ls 3 [(0, .ref h), (1, .int (nI s₀)), (2, .int y₀)] := hl
  refine lv_aload_n hx hb dMo_clear_0 rfl (lv_at hl 0 rfl) ?_
  refine lv_aload_n hx hb dMo_clear_1 rfl (lv_at hl 0 rfl) ?_
  refine lv_iload_n hx hb dMo_clear_2 rfl (lv_at hl 1 rfl) ?_
  refine lv_iload_n hx hb dMo_clear_3 rfl (lv_at hl 2 rfl) ?_
  refine lv_iconst (v := nI 2) hx hb dMo_clear_4 (by decide) ?_
  refine kI (rV fx (c_Mo_barsC l D ca h ad co M s₀ (by omega) y₀ hy0 2) ⟨callB_of 3 hts (tb_gi tw_783) rfl rfl rfl (ht _ tw_5) (ht _ tw_780) (by decide +kernel) ⟨(Nat.le_of_ble_eq_true rfl), (Nat.le_of_ble_eq_true rfl)⟩, ht _ tw_782, ht _ tw_861⟩ hE hP hD 0 rfl rfl rfl [0, 1, 2, 3, 4, 5, 6, 7, 8, 9, 10, 11, 12, 13, 14, 15, 16, 17, 18, 19, 20, 21, 22, 23, 24, 25, 26, 27, 28] rfl rfl rfl hl.1 rfl (Nat.le_of_ble_eq_true rfl) dMo_clear_5 ⟨(Nat.le_of_ble_eq_true rfl), (Nat.le_of_ble_eq_true rfl)⟩) hP hD hS hA [0, 1, 2, 3, 4, 5, 6, 7, 8, 9, 10, 11, 12, 13, 14, 15, 16, 17, 18, 19, 20, 21, 22, 23, 24, 25, 26, 27, 28] [] rfl rfl rfl (by decide) (fun _ H locs _ hP hD hS => ?_)
  have hP : va_P D cls_ (mW h ad ca co M) H := hP
  have hD : va_D A (mW h ad ca co M) := hD
  refine va_put (D := D) (ci := 4) (v := .int (nI 1)) (ty := .int) (C := RMo) (T := TMo) (N := 29) hx hb ht inMo tyMo tyMo_ok nmMo hown hE.1 hP hD hS 0 rfl rfl 0 (by decide) (ht _ tw_587) (fun _ h => h) rfl (by decide +kernel) rfl rfl (Nat.le_of_ble_eq_true rfl) dMo_clear_8 (fun H locs hP hD hS => ?_)
  have hP : va_P D cls_ (mW h ad ca 1 M) H := hP
  have hD : va_D A (mW h ad ca 1 M) := hD
  refine lv_aload_n hx hb dMo_clear_11 rfl (lv_at hl 0 rfl) ?_
  refine va_get (D := D) (ci := 4) (v := .int (nI 1)) (C := RMo) (T := TMo) (N := 29) hx hb ht inMo hown hE.1 hP 0 rfl rfl 0 (by decide) (ht _ tw_587) (fun _ h => h) rfl dMo_clear_12 ?_
  refine k_if_ne (tgt := 54) hx hb (by omega) dMo_clear_15 rfl (fun h15 => ?_) (fun hz => absurd hz (by omega))
  refine lv_aload_n hx hb dMo_clear_54 rfl (lv_at hl 0 rfl) ?_
  refine va_get (D := D) (ci := 4) (v := .int (nI 1)) (C := RMo) (T := TMo) (N := 29) hx hb ht inMo hown hE.1 hP 0 rfl rfl 0 (by decide) (ht _ tw_587) (fun _ h => h) rfl dMo_clear_55 ?_
  refine k_if_ne (tgt := 69) hx hb (by omega) dMo_clear_58 rfl (fun h58 => ?_) (fun hz => absurd hz (by omega))
  exact Co.retv hx hb hret hlk dMo_clear_69 hS hP hD () rfl trivial rfl (Nat.le_of_ble_eq_true rfl) (Nat.le_of_ble_eq_true rfl)
