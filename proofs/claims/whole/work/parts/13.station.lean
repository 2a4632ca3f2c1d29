set_option maxHeartbeats 4000000 in
set_option maxRecDepth 100000 in
theorem c_St_unconfirmed (l : Launch) (D : va_G) (ca : Nat → ClassId) (h ln pe ou cs lk sn ac ex tr rj : Nat) (hsn : sn < 8) (hac : ac < 8) : Co (S := Unit) l ySt_unconfirmed (Cond.code ySt_unconfirmed cSt_unconfirmed 1 (some FieldType.int) :: tb_) { frames := 0, cells := 0, slots := 0, locals := 0 } D ca [.ref h] [(h, .inr (2, [.ref ln, .ref pe, .ref ou, .ref cs, .int (nI lk), .int (nI sn), .int (nI ac), .int (nI ex), .int (nI tr), .int (nI rj)]))] (fun _ => some (.int (nI (ds ac sn)))) (fun _ => True) (fun _ => [(h, .inr (2, [.ref ln, .ref pe, .ref ou, .ref cs, .int (nI lk), .int (nI sn), .int (nI ac), .int (nI ex), .int (nI tr), .int (nI rj)]))]) 0 0 := by
  refine Co.of cSt_unconfirmed 1 (some FieldType.int) (by decide) (Nat.le_of_ble_eq_true rfl) ?_
  intro p e s m args below meth c A ls fx hret hlk hin hE hP hD hS hA hl
  have hx := fx.1
  have hb := fx.2.1
  have hown : s.vm.findClass RSt = some m.cls := fx.2.2.2.1
  have hts := fx.2.2.2.2
  have ht : ∀ w ∈ tb_, w.before args s = true := fun w h => hts w (List.mem_cons_of_mem _ h)
  have hl : lv_has ls 1 [(0, .ref h)] := hl
  refine lv_aload_n hx hb dSt_unconfirmed_0 rfl (lv_at hl 0 rfl) ?_
  refine va_get (D := D) (ci := 2) (v := .int (nI sn)) (C := RSt) (T := TSt) (N := 10) hx hb ht inSt hown hE.1 hP 0 rfl rfl 5 (by decide) (ht _ tw_97) (fun _ h => h) rfl dSt_unconfirmed_1 ?_
  refine lv_aload_n hx hb dSt_unconfirmed_4 rfl (lv_at hl 0 rfl) ?_
  refine va_get (D := D) (ci := 2) (v := .int (nI ac)) (C := RSt) (T := TSt) (N := 10) hx hb ht inSt hown hE.1 hP 0 rfl rfl 6 (by decide) (ht _ tw_99) (fun _ h => h) rfl dSt_unconfirmed_5 ?_
  refine lv_isub hx hb dSt_unconfirmed_8 ?_
  refine lv_bipush (v := nI 7) hx hb dSt_unconfirmed_9 (by decide) ?_
  refine lv_iand hx hb dSt_unconfirmed_11 ?_
  refine k_is (y := nI (ds ac sn)) (n_dist ac hac sn hsn) ?_
  exact Co.reti hx hb hret hlk dSt_unconfirmed_12 hS hP hD () rfl trivial rfl (Nat.le_of_ble_eq_true rfl) (Nat.le_of_ble_eq_true rfl)
set_option maxHeartbeats 4000000 in
set_option maxRecDepth 100000 in
theorem c_St_waitsForAnswer (l : Launch) (D : va_G) (ca : Nat → ClassId) (h ln pe ou cs lk sn ac ex tr rj : Nat) (hlk2 : lk < 3) (hsn : sn < 8) (hac : ac < 8) (hex : ex < 8) : Co (S := Unit) l ySt_waitsForAnswer (Cond.code ySt_waitsForAnswer cSt_waitsForAnswer 1 (some FieldType.boolean) :: tb_) { frames := 1, cells := 0, slots := 0, locals := 32 } D ca [.ref h] [(h, .inr (2, [.ref ln, .ref pe, .ref ou, .ref cs, .int (nI lk), .int (nI sn), .int (nI ac), .int (nI ex), .int (nI tr), .int (nI rj)]))] (fun _ => some (.int (nI (if lk = 1 ∨ (lk = 2 ∧ 0 < ds ac sn) then 1 else 0)))) (fun _ => True) (fun _ => [(h, .inr (2, [.ref ln, .ref pe, .ref ou, .ref cs, .int (nI lk), .int (nI sn), .int (nI ac), .int (nI ex), .int (nI tr), .int (nI rj)]))]) 0 0 := by
  refine Co.of cSt_waitsForAnswer 1 (some FieldType.boolean) (by decide) (Nat.le_of_ble_eq_true rfl) ?_
  intro p e s m args below meth c A ls fx hret hlk hin hE hP hD hS hA hl
  have hx := fx.1
  have hb := fx.2.1
  have hown : s.vm.findClass RSt = some m.cls := fx.2.2.2.1
  have hts := fx.2.2.2.2
  have ht : ∀ w ∈ tb_, w.before args s = true := fun w h => hts w (List.mem_cons_of_mem _ h)
  have b1 := ds_lt ac sn
  have hl : lv_has ls 1 [(0, .ref h)] := hl
  refine lv_aload_n hx hb dSt_waitsForAnswer_0 rfl (lv_at hl 0 rfl) ?_
  refine va_get (D := D) (ci := 2) (v := .int (nI lk)) (C := RSt) (T := TSt) (N := 10) hx hb ht inSt hown hE.1 hP 0 rfl rfl 4 (by decide) (ht _ tw_95) (fun _ h => h) rfl dSt_waitsForAnswer_1 ?_
  refine lv_iconst (v := nI 1) hx hb dSt_waitsForAnswer_4 (by decide) ?_
  refine k_icmp_eq (tgt := 23) hx hb (by omega) (by omega) dSt_waitsForAnswer_5 rfl (fun h5 => ?_) (fun h5 => ?_)
  · refine lv_iconst (v := nI 1) hx hb dSt_waitsForAnswer_23 (by decide) ?_
    refine lv_goto (tgt := 28) hx hb dSt_waitsForAnswer_24 rfl ?_
    exact Co.retz hx hb hret hlk (by first | rfl | decide) dSt_waitsForAnswer_28 hS hP hD () (by rw [if_pos (by omega)]) trivial rfl (Nat.le_of_ble_eq_true rfl) (Nat.le_of_ble_eq_true rfl)
  · refine lv_aload_n hx hb dSt_waitsForAnswer_8 rfl (lv_at hl 0 rfl) ?_
    refine va_get (D := D) (ci := 2) (v := .int (nI lk)) (C := RSt) (T := TSt) (N := 10) hx hb ht inSt hown hE.1 hP 0 rfl rfl 4 (by decide) (ht _ tw_95) (fun _ h => h) rfl dSt_waitsForAnswer_9 ?_
    refine lv_iconst (v := nI 2) hx hb dSt_waitsForAnswer_12 (by decide) ?_
    refine k_icmp_ne (tgt := 27) hx hb (by omega) (by omega) dSt_waitsForAnswer_13 rfl (fun h13 => ?_) (fun h13 => ?_)
    · refine lv_iconst (v := nI 0) hx hb dSt_waitsForAnswer_27 (by decide) ?_
      exact Co.retz hx hb hret hlk (by first | rfl | decide) dSt_waitsForAnswer_28 hS hP hD () (by rw [if_neg (by omega)]) trivial rfl (Nat.le_of_ble_eq_true rfl) (Nat.le_of_ble_eq_true rfl)
    · refine lv_aload_n hx hb dSt_waitsForAnswer_16 rfl (lv_at hl 0 rfl) ?_
      refine kI (rV fx (c_St_unconfirmed l D ca h ln pe ou cs lk sn ac ex tr rj (by omega) (by omega)) ⟨callB_of 0 hts (tb_gi tw_250) rfl rfl rfl (ht _ tw_3) (ht _ tw_247) (by decide +kernel) ⟨(Nat.le_of_ble_eq_true rfl), (Nat.le_of_ble_eq_true rfl)⟩, ht _ tw_249, ht _ tw_830⟩ hE hP hD 0 rfl rfl rfl [0] rfl rfl rfl hl.1 rfl (Nat.le_of_ble_eq_true rfl) dSt_waitsForAnswer_17 ⟨(Nat.le_of_ble_eq_true rfl), (Nat.le_of_ble_eq_true rfl)⟩) hP hD hS hA [0] [] rfl rfl rfl (by decide) (fun _ H locs _ hP hD hS => ?_)
      have hP : va_P D cls_ [(h, .inr (2, [.ref ln, .ref pe, .ref ou, .ref cs, .int (nI lk), .int (nI sn), .int (nI ac), .int (nI ex), .int (nI tr), .int (nI rj)]))] H := hP
      have hD : va_D A [(h, .inr (2, [.ref ln, .ref pe, .ref ou, .ref cs, .int (nI lk), .int (nI sn), .int (nI ac), .int (nI ex), .int (nI tr), .int (nI rj)]))] := hD
      refine k_if_le (tgt := 27) hx hb (by omega) dSt_waitsForAnswer_20 rfl (fun h20 => ?_) (fun h20 => ?_)
      · refine lv_iconst (v := nI 0) hx hb dSt_waitsForAnswer_27 (by decide) ?_
        exact Co.retz hx hb hret hlk (by first | rfl | decide) dSt_waitsForAnswer_28 hS hP hD () (by rw [if_neg (by omega)]) trivial rfl (Nat.le_of_ble_eq_true rfl) (Nat.le_of_ble_eq_true rfl)
      · refine lv_iconst (v := nI 1) hx hb dSt_waitsForAnswer_23 (by decide) ?_
        refine lv_goto (tgt := 28) hx hb dSt_waitsForAnswer_24 rfl ?_
        exact Co.retz hx hb hret hlk (by first | rfl | decide) dSt_waitsForAnswer_28 hS hP hD () (by rw [if_pos (by omega)]) trivial rfl (Nat.le_of_ble_eq_true rfl) (Nat.le_of_ble_eq_true rfl)
set_option maxHeartbeats 4000000 in
set_option maxRecDepth 100000 in
theorem c_St_takesCalls (l : Launch) (D : va_G) (ca : Nat → ClassId) (h ln pe ou cs lk sn ac ex tr rj : Nat) (oua : Nat) (O : Rw_) (hlk2 : lk < 3) (hO1 : O.2 ≤ 16) : Co (S := Unit) l ySt_takesCalls (Cond.code ySt_takesCalls cSt_takesCalls 1 (some FieldType.boolean) :: tb_) { frames := 0, cells := 0, slots := 0, locals := 0 } D ca [.ref h] [(h, .inr (2, [.ref ln, .ref pe, .ref ou, .ref cs, .int (nI lk), .int (nI sn), .int (nI ac), .int (nI ex), .int (nI tr), .int (nI rj)])), (ou, .inr (0, [.ref oua, .int (nI O.2)])), (oua, .inl (ca 0, 16, .inl (fun j => nI (O.1 j))))] (fun _ => some (.int (nI (if lk = 2 ∧ O.2 ≤ 9 then 1 else 0)))) (fun _ => True) (fun _ => [(h, .inr (2, [.ref ln, .ref pe, .ref ou, .ref cs, .int (nI lk), .int (nI sn), .int (nI ac), .int (nI ex), .int (nI tr), .int (nI rj)])), (ou, .inr (0, [.ref oua, .int (nI O.2)])), (oua, .inl (ca 0, 16, .inl (fun j => nI (O.1 j))))]) 0 0 := by
  refine Co.of cSt_takesCalls 1 (some FieldType.boolean) (by decide) (Nat.le_of_ble_eq_true rfl) ?_
  intro p e s m args below meth c A ls fx hret hlk hin hE hP hD hS hA hl
  have hx := fx.1
  have hb := fx.2.1
  have hown : s.vm.findClass RSt = some m.cls := fx.2.2.2.1
  have hts := fx.2.2.2.2
  have ht : ∀ w ∈ tb_, w.before args s = true := fun w h => hts w (List.mem_cons_of_mem _ h)
  have hl : lv_has ls 1 [(0, .ref h)] := hl
  refine lv_aload_n hx hb dSt_takesCalls_0 rfl (lv_at hl 0 rfl) ?_
  refine va_get (D := D) (ci := 2) (v := .int (nI lk)) (C := RSt) (T := TSt) (N := 10) hx hb ht inSt hown hE.1 hP 0 rfl rfl 4 (by decide) (ht _ tw_95) (fun _ h => h) rfl dSt_takesCalls_1 ?_
  refine lv_iconst (v := nI 2) hx hb dSt_takesCalls_4 (by decide) ?_
  refine k_icmp_ne (tgt := 24) hx hb (by omega) (by omega) dSt_takesCalls_5 rfl (fun h5 => ?_) (fun h5 => ?_)
  · refine lv_iconst (v := nI 0) hx hb dSt_takesCalls_24 (by decide) ?_
    exact Co.retz hx hb hret hlk (by first | rfl | decide) dSt_takesCalls_25 hS hP hD () (by rw [if_neg (by omega)]) trivial rfl (Nat.le_of_ble_eq_true rfl) (Nat.le_of_ble_eq_true rfl)
  · refine lv_aload_n hx hb dSt_takesCalls_8 rfl (lv_at hl 0 rfl) ?_
    refine va_get (D := D) (ci := 2) (v := .ref ou) (C := RSt) (T := TSt) (N := 10) hx hb ht inSt hown hE.1 hP 0 rfl rfl 2 (by decide) (ht _ tw_91) (fun _ h => h) rfl dSt_takesCalls_9 ?_
    refine va_getN (D := D) (ci := 0) (v := .int (nI O.2)) (host := "ChannelledLink") (C := RRw) (T := TRw) (N := 2) hx hb ht inRw hown hE.1 hP 1 rfl rfl 1 (by decide) (hE.nestU tw_34 rfl) (fun _ h => h) rfl dSt_takesCalls_12 ?_
    refine lv_bipush (v := nI 9) hx hb dSt_takesCalls_15 (by decide) ?_
    refine k_icmp_gt (tgt := 24) hx hb (by omega) (by omega) dSt_takesCalls_17 rfl (fun h17 => ?_) (fun h17 => ?_)
    · refine lv_iconst (v := nI 0) hx hb dSt_takesCalls_24 (by decide) ?_
      exact Co.retz hx hb hret hlk (by first | rfl | decide) dSt_takesCalls_25 hS hP hD () (by rw [if_neg (by omega)]) trivial rfl (Nat.le_of_ble_eq_true rfl) (Nat.le_of_ble_eq_true rfl)
    · refine lv_iconst (v := nI 1) hx hb dSt_takesCalls_20 (by decide) ?_
      refine lv_goto (tgt := 25) hx hb dSt_takesCalls_21 rfl ?_
      exact Co.retz hx hb hret hlk (by first | rfl | decide) dSt_takesCalls_25 hS hP hD () (by rw [if_pos (by omega)]) trivial rfl (Nat.le_of_ble_eq_true rfl) (Nat.le_of_ble_eq_true rfl)
set_option maxHeartbeats 4000000 in
set_option maxRecDepth 100000 in
theorem c_St_sendUnnumbered (l : Launch) (D : va_G) (ca : Nat → ClassId) (h ln pe ou cs lk sn ac ex tr rj : Nat) (pea : Nat) (P : Rw_) (kd : Nat) (hkd : kd < 8) (hP1 : P.2 ≤ 12) : Co (S := Unit) l ySt_sendUnnumbered (Cond.code ySt_sendUnnumbered cSt_sendUnnumbered 2 none :: tb_) { frames := 1, cells := 0, slots := 0, locals := 32 } D ca [.ref h, .int (nI kd)] [(h, .inr (2, [.ref ln, .ref pe, .ref ou, .ref cs, .int (nI lk), .int (nI sn), .int (nI ac), .int (nI ex), .int (nI tr), .int (nI rj)])), (pe, .inr (0, [.ref pea, .int (nI P.2)])), (pea, .inl (ca 0, 12, .inl (fun j => nI (P.1 j))))] (fun _ => none) (fun _ => True) (fun _ => [(h, .inr (2, [.ref ln, .ref pe, .ref ou, .ref cs, .int (nI lk), .int (nI sn), .int (nI ac), .int (nI ex), .int (nI tr), .int (nI rj)])), (pe, .inr (0, [.ref pea, .int (nI ((rAdd 12 P (fr4 kd 0 0 0)).2))])), (pea, .inl (ca 0, 12, .inl (fun j => nI (((rAdd 12 P (fr4 kd 0 0 0)).1) j))))]) 0 0 := by
  refine Co.of cSt_sendUnnumbered 2 none (by decide) (Nat.le_of_ble_eq_true rfl) ?_
  intro p e s m args below meth c A ls fx hret hlk hin hE hP hD hS hA hl
  have hx := fx.1
  have hb := fx.2.1
  have hown : s.vm.findClass RSt = some m.cls := fx.2.2.2.1
  have hts := fx.2.2.2.2
  have ht : ∀ w ∈ tb_, w.before args s = true := fun w h => hts w (List.mem_cons_of_mem _ h)
  have hl : lv_has ls 2 [(0, .ref h), (1, .int (nI kd))] := hl
  refine lv_aload_n hx hb dSt_sendUnnumbered_0 rfl (lv_at hl 0 rfl) ?_
  refine va_get (D := D) (ci := 2) (v := .ref pe) (C := RSt) (T := TSt) (N := 10) hx hb ht inSt hown hE.1 hP 0 rfl rfl 1 (by decide) (ht _ tw_90) (fun _ h => h) rfl dSt_sendUnnumbered_1 ?_
  refine lv_iload_n hx hb dSt_sendUnnumbered_4 rfl (lv_at hl 1 rfl) ?_
  refine lv_iconst (v := nI 0) hx hb dSt_sendUnnumbered_5 (by decide) ?_
  refine lv_iconst (v := nI 0) hx hb dSt_sendUnnumbered_6 (by decide) ?_
  refine lv_iconst (v := nI 0) hx hb dSt_sendUnnumbered_7 (by decide) ?_
  refine kI (rSN fx (c_Fr_of l D ca kd 0 0 0 (by omega) (by omega) (by omega) (by first | omega | (apply hOk; omega))) ⟨va_cnB 4 hts (tb_gi tw_230) rfl rfl rfl (hE.nest tw_228 rfl) (ht _ tw_10) (by decide +kernel) ⟨(Nat.le_of_ble_eq_true rfl), (Nat.le_of_ble_eq_true rfl)⟩, ht _ tw_229, trivial⟩ hE hP hD [] rfl rfl rfl hl.1 rfl (Nat.le_of_ble_eq_true rfl) dSt_sendUnnumbered_8 ⟨(Nat.le_of_ble_eq_true rfl), (Nat.le_of_ble_eq_true rfl)⟩) hP hD hS hA [] [0, 1, 2] rfl rfl rfl (by decide) (fun _ H locs _ hP hD hS => ?_)
  have hP : va_P D cls_ [(h, .inr (2, [.ref ln, .ref pe, .ref ou, .ref cs, .int (nI lk), .int (nI sn), .int (nI ac), .int (nI ex), .int (nI tr), .int (nI rj)])), (pe, .inr (0, [.ref pea, .int (nI P.2)])), (pea, .inl (ca 0, 12, .inl (fun j => nI (P.1 j))))] H := hP
  have hD : va_D A [(h, .inr (2, [.ref ln, .ref pe, .ref ou, .ref cs, .int (nI lk), .int (nI sn), .int (nI ac), .int (nI ex), .int (nI tr), .int (nI rj)])), (pe, .inr (0, [.ref pea, .int (nI P.2)])), (pea, .inl (ca 0, 12, .inl (fun j => nI (P.1 j))))] := hD
  refine kV (rV fx (c_Rw_add l D ca pe pea 12 P (fr4 kd 0 0 0) (by decide) (by first | assumption | exact rAdd_le (by assumption) | omega)) ⟨callB_of 1 hts (tb_gi tw_234) rfl rfl rfl (ht _ tw_2) (ht _ tw_231) (by decide +kernel) ⟨(Nat.le_of_ble_eq_true rfl), (Nat.le_of_ble_eq_true rfl)⟩, ht _ tw_232, ht _ tw_233⟩ hE hP hD 1 rfl rfl rfl [1, 2] rfl rfl rfl hl.1 rfl (Nat.le_of_ble_eq_true rfl) dSt_sendUnnumbered_11 ⟨(Nat.le_of_ble_eq_true rfl), (Nat.le_of_ble_eq_true rfl)⟩) hP hD hS hA [1, 2] [0] rfl rfl rfl (by decide) (fun _ H locs _ hP hD hS => ?_)
  have hP : va_P D cls_ [(h, .inr (2, [.ref ln, .ref pe, .ref ou, .ref cs, .int (nI lk), .int (nI sn), .int (nI ac), .int (nI ex), .int (nI tr), .int (nI rj)])), (pe, .inr (0, [.ref pea, .int (nI ((rAdd 12 P (fr4 kd 0 0 0)).2))])), (pea, .inl (ca 0, 12, .inl (fun j => nI (((rAdd 12 P (fr4 kd 0 0 0)).1) j))))] H := hP
  have hD : va_D A [(h, .inr (2, [.ref ln, .ref pe, .ref ou, .ref cs, .int (nI lk), .int (nI sn), .int (nI ac), .int (nI ex), .int (nI tr), .int (nI rj)])), (pe, .inr (0, [.ref pea, .int (nI ((rAdd 12 P (fr4 kd 0 0 0)).2))])), (pea, .inl (ca 0, 12, .inl (fun j => nI (((rAdd 12 P (fr4 kd 0 0 0)).1) j))))] := hD
  exact Co.retv hx hb hret hlk dSt_sendUnnumbered_14 hS hP hD () rfl trivial rfl (Nat.le_of_ble_eq_true rfl) (Nat.le_of_ble_eq_true rfl)
set_option maxHeartbeats 4000000 in
set_option maxRecDepth 100000 in
theorem c_St_sendAcknowledging (l : Launch) (D : va_G) (ca : Nat → ClassId) (h ln pe ou cs lk sn ac ex tr rj : Nat) (pea : Nat) (P : Rw_) (kd : Nat) (hkd : kd < 8) (hex : ex < 8) (hP1 : P.2 ≤ 12) : Co (S := Unit) l ySt_sendAcknowledging (Cond.code ySt_sendAcknowledging cSt_sendAcknowledging 2 none :: tb_) { frames := 1, cells := 0, slots := 0, locals := 32 } D ca [.ref h, .int (nI kd)] [(h, .inr (2, [.ref ln, .ref pe, .ref ou, .ref cs, .int (nI lk), .int (nI sn), .int (nI ac), .int (nI ex), .int (nI tr), .int (nI rj)])), (pe, .inr (0, [.ref pea, .int (nI P.2)])), (pea, .inl (ca 0, 12, .inl (fun j => nI (P.1 j))))] (fun _ => none) (fun _ => True) (fun _ => [(h, .inr (2, [.ref ln, .ref pe, .ref ou, .ref cs, .int (nI lk), .int (nI sn), .int (nI ac), .int (nI ex), .int (nI tr), .int (nI rj)])), (pe, .inr (0, [.ref pea, .int (nI ((rAdd 12 P (fr4 kd 0 ex 0)).2))])), (pea, .inl (ca 0, 12, .inl (fun j => nI (((rAdd 12 P (fr4 kd 0 ex 0)).1) j))))]) 0 0 := by
  refine Co.of cSt_sendAcknowledging 2 none (by decide) (Nat.le_of_ble_eq_true rfl) ?_
  intro p e s m args below meth c A ls fx hret hlk hin hE hP hD hS hA hl
  have hx := fx.1
  have hb := fx.2.1
  have hown : s.vm.findClass RSt = some m.cls := fx.2.2.2.1
  have hts := fx.2.2.2.2
  have ht : ∀ w ∈ tb_, w.before args s = true := fun w h => hts w (List.mem_cons_of_mem _ h)
  have hl : lv_has ls 2 [(0, .ref h), (1, .int (nI kd))] := hl
  refine lv_aload_n hx hb dSt_sendAcknowledging_0 rfl (lv_at hl 0 rfl) ?_
  refine va_get (D := D) (ci := 2) (v := .ref pe) (C := RSt) (T := TSt) (N := 10) hx hb ht inSt hown hE.1 hP 0 rfl rfl 1 (by decide) (ht _ tw_90) (fun _ h => h) rfl dSt_sendAcknowledging_1 ?_
  refine lv_iload_n hx hb dSt_sendAcknowledging_4 rfl (lv_at hl 1 rfl) ?_
  refine lv_iconst (v := nI 0) hx hb dSt_sendAcknowledging_5 (by decide) ?_
  refine lv_aload_n hx hb dSt_sendAcknowledging_6 rfl (lv_at hl 0 rfl) ?_
  refine va_get (D := D) (ci := 2) (v := .int (nI ex)) (C := RSt) (T := TSt) (N := 10) hx hb ht inSt hown hE.1 hP 0 rfl rfl 7 (by decide) (ht _ tw_101) (fun _ h => h) rfl dSt_sendAcknowledging_7 ?_
  refine lv_iconst (v := nI 0) hx hb dSt_sendAcknowledging_10 (by decide) ?_
  refine kI (rSN fx (c_Fr_of l D ca kd 0 ex 0 (by omega) (by omega) (by omega) (by first | omega | (apply hOk; omega))) ⟨va_cnB 4 hts (tb_gi tw_230) rfl rfl rfl (hE.nest tw_228 rfl) (ht _ tw_10) (by decide +kernel) ⟨(Nat.le_of_ble_eq_true rfl), (Nat.le_of_ble_eq_true rfl)⟩, ht _ tw_229, trivial⟩ hE hP hD [] rfl rfl rfl hl.1 rfl (Nat.le_of_ble_eq_true rfl) dSt_sendAcknowledging_11 ⟨(Nat.le_of_ble_eq_true rfl), (Nat.le_of_ble_eq_true rfl)⟩) hP hD hS hA [] [0, 1, 2] rfl rfl rfl (by decide) (fun _ H locs _ hP hD hS => ?_)
  have hP : va_P D cls_ [(h, .inr (2, [.ref ln, .ref pe, .ref ou, .ref cs, .int (nI lk), .int (nI sn), .int (nI ac), .int (nI ex), .int (nI tr), .int (nI rj)])), (pe, .inr (0, [.ref pea, .int (nI P.2)])), (pea, .inl (ca 0, 12, .inl (fun j => nI (P.1 j))))] H := hP
  have hD : va_D A [(h, .inr (2, [.ref ln, .ref pe, .ref ou, .ref cs, .int (nI lk), .int (nI sn), .int (nI ac), .int (nI ex), .int (nI tr), .int (nI rj)])), (pe, .inr (0, [.ref pea, .int (nI P.2)])), (pea, .inl (ca 0, 12, .inl (fun j => nI (P.1 j))))] := hD
  refine kV (rV fx (c_Rw_add l D ca pe pea 12 P (fr4 kd 0 ex 0) (by decide) (by first | assumption | exact rAdd_le (by assumption) | omega)) ⟨callB_of 1 hts (tb_gi tw_234) rfl rfl rfl (ht _ tw_2) (ht _ tw_231) (by decide +kernel) ⟨(Nat.le_of_ble_eq_true rfl), (Nat.le_of_ble_eq_true rfl)⟩, ht _ tw_232, ht _ tw_233⟩ hE hP hD 1 rfl rfl rfl [1, 2] rfl rfl rfl hl.1 rfl (Nat.le_of_ble_eq_true rfl) dSt_sendAcknowledging_14 ⟨(Nat.le_of_ble_eq_true rfl), (Nat.le_of_ble_eq_true rfl)⟩) hP hD hS hA [1, 2] [0] rfl rfl rfl (by decide) (fun _ H locs _ hP hD hS => ?_)
  have hP : va_P D cls_ [(h, .inr (2, [.ref ln, .ref pe, .ref ou, .ref cs, .int (nI lk), .int (nI sn), .int (nI ac), .int (nI ex), .int (nI tr), .int (nI rj)])), (pe, .inr (0, [.ref pea, .int (nI ((rAdd 12 P (fr4 kd 0 ex 0)).2))])), (pea, .inl (ca 0, 12, .inl (fun j => nI (((rAdd 12 P (fr4 kd 0 ex 0)).1) j))))] H := hP
  have hD : va_D A [(h, .inr (2, [.ref ln, .ref pe, .ref ou, .ref cs, .int (nI lk), .int (nI sn), .int (nI ac), .int (nI ex), .int (nI tr), .int (nI rj)])), (pe, .inr (0, [.ref pea, .int (nI ((rAdd 12 P (fr4 kd 0 ex 0)).2))])), (pea, .inl (ca 0, 12, .inl (fun j => nI (((rAdd 12 P (fr4 kd 0 ex 0)).1) j))))] := hD
  exact Co.retv hx hb hret hlk dSt_sendAcknowledging_17 hS hP hD () rfl trivial rfl (Nat.le_of_ble_eq_true rfl) (Nat.le_of_ble_eq_true rfl)
set_option maxHeartbeats 4000000 in
set_option maxRecDepth 100000 in
theorem c_St_pump (l : Launch) (D : va_G) (ca : Nat → ClassId) (h ln pe ou cs lk sn ac ex tr rj : Nat) (pea oua : Nat) (O P : Rw_) (P1 : Rw_) (s1 : Nat) (hlk2 : lk < 3) (hsn : sn < 8) (hac : ac < 8) (hex : ex < 8) (hO : oOk O) (hP1 : P.2 ≤ 12) (hres : cPump lk sn ac ex O P = (P1, s1)) : Co (S := Unit) l ySt_pump (Cond.code ySt_pump cSt_pump 3 none :: tb_) { frames := 1, cells := 0, slots := 0, locals := 32 } D ca [.ref h] [(h, .inr (2, [.ref ln, .ref pe, .ref ou, .ref cs, .int (nI lk), .int (nI sn), .int (nI ac), .int (nI ex), .int (nI tr), .int (nI rj)])), (pe, .inr (0, [.ref pea, .int (nI P.2)])), (pea, .inl (ca 0, 12, .inl (fun j => nI (P.1 j)))), (ou, .inr (0, [.ref oua, .int (nI O.2)])), (oua, .inl (ca 0, 16, .inl (fun j => nI (O.1 j))))] (fun _ => none) (fun _ => True) (fun _ => [(h, .inr (2, [.ref ln, .ref pe, .ref ou, .ref cs, .int (nI lk), .int (nI s1), .int (nI ac), .int (nI ex), .int (nI tr), .int (nI rj)])), (pe, .inr (0, [.ref pea, .int (nI P1.2)])), (pea, .inl (ca 0, 12, .inl (fun j => nI (P1.1 j)))), (ou, .inr (0, [.ref oua, .int (nI O.2)])), (oua, .inl (ca 0, 16, .inl (fun j => nI (O.1 j))))]) 0 0 := by
  refine Co.of cSt_pump 3 none (by decide) (Nat.le_of_ble_eq_true rfl) ?_
  intro p e s m args below meth c A ls fx hret hlk hin hE hP hD hS hA hl
  have hx := fx.1
  have hb := fx.2.1
  have hown : s.vm.findClass RSt = some m.cls := fx.2.2.2.1
  have hts := fx.2.2.2.2
  have ht : ∀ w ∈ tb_, w.before args s = true := fun w h => hts w (List.mem_cons_of_mem _ h)
  have hO1 := hO.1
  have b1 := ds_lt ac sn
  have hl : lv_has ls 3 [(0, .ref h)] := hl
  refine lv_aload_n hx hb dSt_pump_0 rfl (lv_at hl 0 rfl) ?_
  refine va_get (D := D) (ci := 2) (v := .int (nI lk)) (C := RSt) (T := TSt) (N := 10) hx hb ht inSt hown hE.1 hP 0 rfl rfl 4 (by decide) (ht _ tw_95) (fun _ h => h) rfl dSt_pump_1 ?_
  refine lv_iconst (v := nI 2) hx hb dSt_pump_4 (by decide) ?_
  refine k_icmp_ne (tgt := 22) hx hb (by omega) (by omega) dSt_pump_5 rfl (fun h5 => ?_) (fun h5 => ?_)
  · refine lv_iconst (v := nI 0) hx hb dSt_pump_22 (by decide) ?_
    refine lv_istore_n hx hb dSt_pump_23 rfl hl (by decide) rfl (fun ls hl => ?_)
    have hl : lv_has ls 3 [(1, .int (nI 0)), (0, .ref h)] := hl
    refine lv_aload_n hx hb dSt_pump_24 rfl (lv_at hl 1 rfl) ?_
    refine kI (rV fx (c_St_unconfirmed l D ca h ln pe ou cs lk sn ac ex tr rj (by omega) (by omega)) ⟨callB_of 0 hts (tb_gi tw_250) rfl rfl rfl (ht _ tw_3) (ht _ tw_247) (by decide +kernel) ⟨(Nat.le_of_ble_eq_true rfl), (Nat.le_of_ble_eq_true rfl)⟩, ht _ tw_249, ht _ tw_830⟩ hE hP hD 0 rfl rfl rfl [0] rfl rfl rfl hl.1 rfl (Nat.le_of_ble_eq_true rfl) dSt_pump_25 ⟨(Nat.le_of_ble_eq_true rfl), (Nat.le_of_ble_eq_true rfl)⟩) hP hD hS hA [0] [1, 2, 3, 4] rfl rfl rfl (by decide) (fun _ H locs _ hP hD hS => ?_)
    have hP : va_P D cls_ [(pe, .inr (0, [.ref pea, .int (nI P.2)])), (pea, .inl (ca 0, 12, .inl (fun j => nI (P.1 j)))), (ou, .inr (0, [.ref oua, .int (nI O.2)])), (oua, .inl (ca 0, 16, .inl (fun j => nI (O.1 j)))), (h, .inr (2, [.ref ln, .ref pe, .ref ou, .ref cs, .int (nI lk), .int (nI sn), .int (nI ac), .int (nI ex), .int (nI tr), .int (nI rj)]))] H := hP
    have hD : va_D A [(pe, .inr (0, [.ref pea, .int (nI P.2)])), (pea, .inl (ca 0, 12, .inl (fun j => nI (P.1 j)))), (ou, .inr (0, [.ref oua, .int (nI O.2)])), (oua, .inl (ca 0, 16, .inl (fun j => nI (O.1 j)))), (h, .inr (2, [.ref ln, .ref pe, .ref ou, .ref cs, .int (nI lk), .int (nI sn), .int (nI ac), .int (nI ex), .int (nI tr), .int (nI rj)]))] := hD
    refine lv_istore_n hx hb dSt_pump_28 rfl hl (by decide) rfl (fun ls hl => ?_)
    have hl : lv_has ls 3 [(2, .int (nI (ds ac sn))), (1, .int (nI 0)), (0, .ref h)] := hl
    have hP : va_P D cls_ [(h, .inr (2, [.ref ln, .ref pe, .ref ou, .ref cs, .int (nI lk), .int (nI sn), .int (nI ac), .int (nI ex), .int (nI tr), .int (nI rj)])), (pe, .inr (0, [.ref pea, .int (nI P.2)])), (pea, .inl (ca 0, 12, .inl (fun j => nI (P.1 j)))), (ou, .inr (0, [.ref oua, .int (nI O.2)])), (oua, .inl (ca 0, 16, .inl (fun j => nI (O.1 j))))] H := hP.sub [4, 0, 1, 2, 3] rfl
    have hD : va_D A [(h, .inr (2, [.ref ln, .ref pe, .ref ou, .ref cs, .int (nI lk), .int (nI sn), .int (nI ac), .int (nI ex), .int (nI tr), .int (nI rj)])), (pe, .inr (0, [.ref pea, .int (nI P.2)])), (pea, .inl (ca 0, 12, .inl (fun j => nI (P.1 j)))), (ou, .inr (0, [.ref oua, .int (nI O.2)])), (oua, .inl (ca 0, 16, .inl (fun j => nI (O.1 j))))] := hD.sub [4, 0, 1, 2, 3] rfl rfl
    have hgo : pumpR ex O (0 - ds ac sn) P sn (ds ac sn) = (P1, s1) := by rw [← hres, cPump, pumpN, if_neg (by omega)]
    obtain ⟨en, hen⟩ : ∃ en, en = 0 := ⟨_, rfl⟩
    rw [← hen] at hgo
    have hl : lv_has ls 3 [(2, .int (nI (ds ac sn))), (1, .int (nI en)), (0, .ref h)] := by rw [hen]; exact lv_sub hl [0, 1, 2] rfl
    have hen2 : en ≤ 3 := by omega
    have hen3 : en ≤ O.2 := by omega
    have loop : ∀ (n sn pl : Nat) (P : Rw_) (H : Heap) (locs : List Loc) (ls : Array Slot), sn < 8 → P.2 ≤ 12 → (pl + n = en ∨ (n = 0 ∧ en ≤ pl)) → pl < 100 → pumpR ex O n P sn pl = (P1, s1) → va_P D cls_ [(h, .inr (2, [.ref ln, .ref pe, .ref ou, .ref cs, .int (nI lk), .int (nI sn), .int (nI ac), .int (nI ex), .int (nI tr), .int (nI rj)])), (pe, .inr (0, [.ref pea, .int (nI P.2)])), (pea, .inl (ca 0, 12, .inl (fun j => nI (P.1 j)))), (ou, .inr (0, [.ref oua, .int (nI O.2)])), (oua, .inl (ca 0, 16, .inl (fun j => nI (O.1 j))))] H → va_D A [(h, .inr (2, [.ref ln, .ref pe, .ref ou, .ref cs, .int (nI lk), .int (nI sn), .int (nI ac), .int (nI ex), .int (nI tr), .int (nI rj)])), (pe, .inr (0, [.ref pea, .int (nI P.2)])), (pea, .inl (ca 0, 12, .inl (fun j => nI (P.1 j)))), (ou, .inr (0, [.ref oua, .int (nI O.2)])), (oua, .inl (ca 0, 16, .inl (fun j => nI (O.1 j))))] → va_S A s.heap H locs → lv_has ls 3 [(2, .int (nI pl)), (1, .int (nI en)), (0, .ref h)] → W p l e ({ frames := 1, cells := 0, slots := 0, locals := 32 } : Room) s m args below meth c H locs 0 0 (MQ below (CoQ D (fun _ : Unit => none) (fun _ => True) (fun _ => [(h, .inr (2, [.ref ln, .ref pe, .ref ou, .ref cs, .int (nI lk), .int (nI s1), .int (nI ac), .int (nI ex), .int (nI tr), .int (nI rj)])), (pe, .inr (0, [.ref pea, .int (nI P1.2)])), (pea, .inl (ca 0, 12, .inl (fun j => nI (P1.1 j)))), (ou, .inr (0, [.ref oua, .int (nI O.2)])), (oua, .inl (ca 0, 16, .inl (fun j => nI (O.1 j))))]) A) args s 0 0 A) (F0 m 29 ls []) := by
      intro n
      induction n with
      | zero =>
        intro sn pl P H locs ls hsn hP1 hpn hp9 hgo hP hD hS hl
        refine lv_iload_n hx hb dSt_pump_29 rfl (lv_at hl 0 rfl) ?_
        refine lv_iload_n hx hb dSt_pump_30 rfl (lv_at hl 1 rfl) ?_
        refine k_icmp_ge (tgt := 78) hx hb (by omega) (by omega) dSt_pump_31 rfl (fun h31 => ?_) (fun hz => absurd hz (by omega))
        obtain ⟨rfl, rfl⟩ : P = P1 ∧ sn = s1 := by simpa [pumpR] using hgo
        exact Co.retv hx hb hret hlk dSt_pump_78 hS hP hD () rfl trivial rfl (Nat.le_of_ble_eq_true rfl) (Nat.le_of_ble_eq_true rfl)
      | succ n ih =>
        intro sn pl P H locs ls hsn hP1 hpn hp9 hgo hP hD hS hl
        refine lv_iload_n hx hb dSt_pump_29 rfl (lv_at hl 0 rfl) ?_
        refine lv_iload_n hx hb dSt_pump_30 rfl (lv_at hl 1 rfl) ?_
        refine k_icmp_ge (tgt := 78) hx hb (by omega) (by omega) dSt_pump_31 rfl (fun hz => absurd hz (by omega)) (fun h31 => ?_)
        refine lv_aload_n hx hb dSt_pump_34 rfl (lv_at hl 2 rfl) ?_
        refine va_get (D := D) (ci := 2) (v := .ref pe) (C := RSt) (T := TSt) (N := 10) hx hb ht inSt hown hE.1 hP 0 rfl rfl 1 (by decide) (ht _ tw_90) (fun _ h => h) rfl dSt_pump_35 ?_
        refine lv_iconst (v := nI 3) hx hb dSt_pump_38 (by decide) ?_
        refine lv_aload_n hx hb dSt_pump_39 rfl (lv_at hl 2 rfl) ?_
        refine va_get (D := D) (ci := 2) (v := .int (nI sn)) (C := RSt) (T := TSt) (N := 10) hx hb ht inSt hown hE.1 hP 0 rfl rfl 5 (by decide) (ht _ tw_97) (fun _ h => h) rfl dSt_pump_40 ?_
        refine lv_aload_n hx hb dSt_pump_43 rfl (lv_at hl 2 rfl) ?_
        refine va_get (D := D) (ci := 2) (v := .int (nI ex)) (C := RSt) (T := TSt) (N := 10) hx hb ht inSt hown hE.1 hP 0 rfl rfl 7 (by decide) (ht _ tw_101) (fun _ h => h) rfl dSt_pump_44 ?_
        refine lv_aload_n hx hb dSt_pump_47 rfl (lv_at hl 2 rfl) ?_
        refine va_get (D := D) (ci := 2) (v := .ref ou) (C := RSt) (T := TSt) (N := 10) hx hb ht inSt hown hE.1 hP 0 rfl rfl 2 (by decide) (ht _ tw_91) (fun _ h => h) rfl dSt_pump_48 ?_
        refine lv_iload_n hx hb dSt_pump_51 rfl (lv_at hl 0 rfl) ?_
        refine kI (rV fx (c_Rw_at l D ca ou oua 16 O pl (by decide) (by first | assumption | exact rAdd_le (by assumption) | omega) (by first | assumption | exact rAdd_le (by assumption) | omega)) ⟨callB_of 1 hts (tb_gi tw_286) rfl rfl rfl (ht _ tw_2) (ht _ tw_283) (by decide +kernel) ⟨(Nat.le_of_ble_eq_true rfl), (Nat.le_of_ble_eq_true rfl)⟩, ht _ tw_284, ht _ tw_285⟩ hE hP hD 3 rfl rfl rfl [3, 4] rfl rfl rfl hl.1 rfl (Nat.le_of_ble_eq_true rfl) dSt_pump_52 ⟨(Nat.le_of_ble_eq_true rfl), (Nat.le_of_ble_eq_true rfl)⟩) hP hD hS hA [3, 4] [0, 1, 2] rfl rfl rfl (by decide) (fun _ H locs _ hP hD hS => ?_)
        have hP : va_P D cls_ [(h, .inr (2, [.ref ln, .ref pe, .ref ou, .ref cs, .int (nI lk), .int (nI sn), .int (nI ac), .int (nI ex), .int (nI tr), .int (nI rj)])), (pe, .inr (0, [.ref pea, .int (nI P.2)])), (pea, .inl (ca 0, 12, .inl (fun j => nI (P.1 j)))), (ou, .inr (0, [.ref oua, .int (nI O.2)])), (oua, .inl (ca 0, 16, .inl (fun j => nI (O.1 j))))] H := hP
        have hD : va_D A [(h, .inr (2, [.ref ln, .ref pe, .ref ou, .ref cs, .int (nI lk), .int (nI sn), .int (nI ac), .int (nI ex), .int (nI tr), .int (nI rj)])), (pe, .inr (0, [.ref pea, .int (nI P.2)])), (pea, .inl (ca 0, 12, .inl (fun j => nI (P.1 j)))), (ou, .inr (0, [.ref oua, .int (nI O.2)])), (oua, .inl (ca 0, 16, .inl (fun j => nI (O.1 j))))] := hD
        refine kI (rSN fx (c_Fr_of l D ca 3 sn ex (O.1 pl) (by omega) (by omega) (by omega) (hO.2 _ (by omega))) ⟨va_cnB 4 hts (tb_gi tw_230) rfl rfl rfl (hE.nest tw_228 rfl) (ht _ tw_10) (by decide +kernel) ⟨(Nat.le_of_ble_eq_true rfl), (Nat.le_of_ble_eq_true rfl)⟩, ht _ tw_229, trivial⟩ hE hP hD [] rfl rfl rfl hl.1 rfl (Nat.le_of_ble_eq_true rfl) dSt_pump_55 ⟨(Nat.le_of_ble_eq_true rfl), (Nat.le_of_ble_eq_true rfl)⟩) hP hD hS hA [] [0, 1, 2, 3, 4] rfl rfl rfl (by decide) (fun _ H locs _ hP hD hS => ?_)
        have hP : va_P D cls_ [(h, .inr (2, [.ref ln, .ref pe, .ref ou, .ref cs, .int (nI lk), .int (nI sn), .int (nI ac), .int (nI ex), .int (nI tr), .int (nI rj)])), (pe, .inr (0, [.ref pea, .int (nI P.2)])), (pea, .inl (ca 0, 12, .inl (fun j => nI (P.1 j)))), (ou, .inr (0, [.ref oua, .int (nI O.2)])), (oua, .inl (ca 0, 16, .inl (fun j => nI (O.1 j))))] H := hP
        have hD : va_D A [(h, .inr (2, [.ref ln, .ref pe, .ref ou, .ref cs, .int (nI lk), .int (nI sn), .int (nI ac), .int (nI ex), .int (nI tr), .int (nI rj)])), (pe, .inr (0, [.ref pea, .int (nI P.2)])), (pea, .inl (ca 0, 12, .inl (fun j => nI (P.1 j)))), (ou, .inr (0, [.ref oua, .int (nI O.2)])), (oua, .inl (ca 0, 16, .inl (fun j => nI (O.1 j))))] := hD
        refine kV (rV fx (c_Rw_add l D ca pe pea 12 P (fr4 3 sn ex (O.1 pl)) (by decide) (by first | assumption | exact rAdd_le (by assumption) | omega)) ⟨callB_of 1 hts (tb_gi tw_234) rfl rfl rfl (ht _ tw_2) (ht _ tw_231) (by decide +kernel) ⟨(Nat.le_of_ble_eq_true rfl), (Nat.le_of_ble_eq_true rfl)⟩, ht _ tw_232, ht _ tw_233⟩ hE hP hD 1 rfl rfl rfl [1, 2] rfl rfl rfl hl.1 rfl (Nat.le_of_ble_eq_true rfl) dSt_pump_58 ⟨(Nat.le_of_ble_eq_true rfl), (Nat.le_of_ble_eq_true rfl)⟩) hP hD hS hA [1, 2] [0, 3, 4] rfl rfl rfl (by decide) (fun _ H locs _ hP hD hS => ?_)
        have hP : va_P D cls_ [(h, .inr (2, [.ref ln, .ref pe, .ref ou, .ref cs, .int (nI lk), .int (nI sn), .int (nI ac), .int (nI ex), .int (nI tr), .int (nI rj)])), (ou, .inr (0, [.ref oua, .int (nI O.2)])), (oua, .inl (ca 0, 16, .inl (fun j => nI (O.1 j)))), (pe, .inr (0, [.ref pea, .int (nI ((rAdd 12 P (fr4 3 sn ex (O.1 pl))).2))])), (pea, .inl (ca 0, 12, .inl (fun j => nI (((rAdd 12 P (fr4 3 sn ex (O.1 pl))).1) j))))] H := hP
        have hD : va_D A [(h, .inr (2, [.ref ln, .ref pe, .ref ou, .ref cs, .int (nI lk), .int (nI sn), .int (nI ac), .int (nI ex), .int (nI tr), .int (nI rj)])), (ou, .inr (0, [.ref oua, .int (nI O.2)])), (oua, .inl (ca 0, 16, .inl (fun j => nI (O.1 j)))), (pe, .inr (0, [.ref pea, .int (nI ((rAdd 12 P (fr4 3 sn ex (O.1 pl))).2))])), (pea, .inl (ca 0, 12, .inl (fun j => nI (((rAdd 12 P (fr4 3 sn ex (O.1 pl))).1) j))))] := hD
        refine lv_aload_n hx hb dSt_pump_61 rfl (lv_at hl 2 rfl) ?_
        refine lv_aload_n hx hb dSt_pump_62 rfl (lv_at hl 2 rfl) ?_
        refine va_get (D := D) (ci := 2) (v := .int (nI sn)) (C := RSt) (T := TSt) (N := 10) hx hb ht inSt hown hE.1 hP 0 rfl rfl 5 (by decide) (ht _ tw_97) (fun _ h => h) rfl dSt_pump_63 ?_
        refine kI (rSN fx (c_Cl_after l D ca sn (by omega)) ⟨va_cnB 1 hts (tb_gi tw_289) rfl rfl rfl (hE.nest tw_287 rfl) (ht _ tw_1) (by decide +kernel) ⟨(Nat.le_of_ble_eq_true rfl), (Nat.le_of_ble_eq_true rfl)⟩, ht _ tw_288, trivial⟩ hE hP hD [] rfl rfl rfl hl.1 rfl (Nat.le_of_ble_eq_true rfl) dSt_pump_66 ⟨(Nat.le_of_ble_eq_true rfl), (Nat.le_of_ble_eq_true rfl)⟩) hP hD hS hA [] [0, 1, 2, 3, 4] rfl rfl rfl (by decide) (fun _ H locs _ hP hD hS => ?_)
        have hP : va_P D cls_ [(h, .inr (2, [.ref ln, .ref pe, .ref ou, .ref cs, .int (nI lk), .int (nI sn), .int (nI ac), .int (nI ex), .int (nI tr), .int (nI rj)])), (ou, .inr (0, [.ref oua, .int (nI O.2)])), (oua, .inl (ca 0, 16, .inl (fun j => nI (O.1 j)))), (pe, .inr (0, [.ref pea, .int (nI ((rAdd 12 P (fr4 3 sn ex (O.1 pl))).2))])), (pea, .inl (ca 0, 12, .inl (fun j => nI (((rAdd 12 P (fr4 3 sn ex (O.1 pl))).1) j))))] H := hP
        have hD : va_D A [(h, .inr (2, [.ref ln, .ref pe, .ref ou, .ref cs, .int (nI lk), .int (nI sn), .int (nI ac), .int (nI ex), .int (nI tr), .int (nI rj)])), (ou, .inr (0, [.ref oua, .int (nI O.2)])), (oua, .inl (ca 0, 16, .inl (fun j => nI (O.1 j)))), (pe, .inr (0, [.ref pea, .int (nI ((rAdd 12 P (fr4 3 sn ex (O.1 pl))).2))])), (pea, .inl (ca 0, 12, .inl (fun j => nI (((rAdd 12 P (fr4 3 sn ex (O.1 pl))).1) j))))] := hD
        refine va_put (D := D) (ci := 2) (v := .int (nI (af sn))) (ty := .int) (C := RSt) (T := TSt) (N := 10) hx hb ht inSt tySt tySt_ok nmSt hown hE.1 hP hD hS 0 rfl rfl 5 (by decide) (ht _ tw_97) (fun _ h => h) rfl (by decide +kernel) rfl rfl (Nat.le_of_ble_eq_true rfl) dSt_pump_69 (fun H locs hP hD hS => ?_)
        have hP : va_P D cls_ [(h, .inr (2, [.ref ln, .ref pe, .ref ou, .ref cs, .int (nI lk), .int (nI (af sn)), .int (nI ac), .int (nI ex), .int (nI tr), .int (nI rj)])), (ou, .inr (0, [.ref oua, .int (nI O.2)])), (oua, .inl (ca 0, 16, .inl (fun j => nI (O.1 j)))), (pe, .inr (0, [.ref pea, .int (nI ((rAdd 12 P (fr4 3 sn ex (O.1 pl))).2))])), (pea, .inl (ca 0, 12, .inl (fun j => nI (((rAdd 12 P (fr4 3 sn ex (O.1 pl))).1) j))))] H := hP
        have hD : va_D A [(h, .inr (2, [.ref ln, .ref pe, .ref ou, .ref cs, .int (nI lk), .int (nI (af sn)), .int (nI ac), .int (nI ex), .int (nI tr), .int (nI rj)])), (ou, .inr (0, [.ref oua, .int (nI O.2)])), (oua, .inl (ca 0, 16, .inl (fun j => nI (O.1 j)))), (pe, .inr (0, [.ref pea, .int (nI ((rAdd 12 P (fr4 3 sn ex (O.1 pl))).2))])), (pea, .inl (ca 0, 12, .inl (fun j => nI (((rAdd 12 P (fr4 3 sn ex (O.1 pl))).1) j))))] := hD
        refine lv_iinc (k := 0) (v := nI (pl + 1)) hx hb dSt_pump_72 hl rfl (n_inc _) (by decide) rfl (fun ls hl => ?_)
        have hl : lv_has ls 3 [(2, .int (nI (pl + 1))), (1, .int (nI en)), (0, .ref h)] := hl
        refine lv_goto (tgt := 29) hx hb dSt_pump_75 rfl ?_
        have hP : va_P D cls_ [(h, .inr (2, [.ref ln, .ref pe, .ref ou, .ref cs, .int (nI lk), .int (nI (af sn)), .int (nI ac), .int (nI ex), .int (nI tr), .int (nI rj)])), (pe, .inr (0, [.ref pea, .int (nI ((rAdd 12 P (fr4 3 sn ex (O.1 pl))).2))])), (pea, .inl (ca 0, 12, .inl (fun j => nI (((rAdd 12 P (fr4 3 sn ex (O.1 pl))).1) j)))), (ou, .inr (0, [.ref oua, .int (nI O.2)])), (oua, .inl (ca 0, 16, .inl (fun j => nI (O.1 j))))] H := hP.sub [0, 3, 4, 1, 2] rfl
        have hD : va_D A [(h, .inr (2, [.ref ln, .ref pe, .ref ou, .ref cs, .int (nI lk), .int (nI (af sn)), .int (nI ac), .int (nI ex), .int (nI tr), .int (nI rj)])), (pe, .inr (0, [.ref pea, .int (nI ((rAdd 12 P (fr4 3 sn ex (O.1 pl))).2))])), (pea, .inl (ca 0, 12, .inl (fun j => nI (((rAdd 12 P (fr4 3 sn ex (O.1 pl))).1) j)))), (ou, .inr (0, [.ref oua, .int (nI O.2)])), (oua, .inl (ca 0, 16, .inl (fun j => nI (O.1 j))))] := hD.sub [0, 3, 4, 1, 2] rfl rfl
        exact ih (af sn) (pl + 1) (rAdd 12 P (fr4 3 sn ex (O.1 pl))) H locs ls (af_lt _) (rAdd_le hP1) (by omega) (by omega) hgo hP hD hS hl
    exact loop (en - ds ac sn) sn (ds ac sn) P H locs ls hsn hP1 (by omega) (by omega) hgo hP hD hS hl
  · refine lv_aload_n hx hb dSt_pump_8 rfl (lv_at hl 0 rfl) ?_
    refine va_get (D := D) (ci := 2) (v := .ref ou) (C := RSt) (T := TSt) (N := 10) hx hb ht inSt hown hE.1 hP 0 rfl rfl 2 (by decide) (ht _ tw_91) (fun _ h => h) rfl dSt_pump_9 ?_
    refine va_getN (D := D) (ci := 0) (v := .int (nI O.2)) (host := "ChannelledLink") (C := RRw) (T := TRw) (N := 2) hx hb ht inRw hown hE.1 hP 3 rfl rfl 1 (by decide) (hE.nestU tw_34 rfl) (fun _ h => h) rfl dSt_pump_12 ?_
    refine lv_iconst (v := nI 3) hx hb dSt_pump_15 (by decide) ?_
    refine va_mmin hx hb (fx.2.2.1.trans hl.1.symm) hown (ht _ tw_437) (ht _ tw_438) (ht _ tw_15) (ht _ tw_439) (Nat.le_of_ble_eq_true rfl) (Nat.le_of_ble_eq_true rfl) (Nat.le_of_ble_eq_true rfl) (Nat.le_of_ble_eq_true rfl) dSt_pump_16 ?_
    refine k_is (y := nI (min O.2 3)) (n_min (by omega) (by omega)) ?_
    refine lv_goto (tgt := 23) hx hb dSt_pump_19 rfl ?_
    refine lv_istore_n hx hb dSt_pump_23 rfl hl (by decide) rfl (fun ls hl => ?_)
    have hl : lv_has ls 3 [(1, .int (nI (min O.2 3))), (0, .ref h)] := hl
    refine lv_aload_n hx hb dSt_pump_24 rfl (lv_at hl 1 rfl) ?_
    refine kI (rV fx (c_St_unconfirmed l D ca h ln pe ou cs lk sn ac ex tr rj (by omega) (by omega)) ⟨callB_of 0 hts (tb_gi tw_250) rfl rfl rfl (ht _ tw_3) (ht _ tw_247) (by decide +kernel) ⟨(Nat.le_of_ble_eq_true rfl), (Nat.le_of_ble_eq_true rfl)⟩, ht _ tw_249, ht _ tw_830⟩ hE hP hD 0 rfl rfl rfl [0] rfl rfl rfl hl.1 rfl (Nat.le_of_ble_eq_true rfl) dSt_pump_25 ⟨(Nat.le_of_ble_eq_true rfl), (Nat.le_of_ble_eq_true rfl)⟩) hP hD hS hA [0] [1, 2, 3, 4] rfl rfl rfl (by decide) (fun _ H locs _ hP hD hS => ?_)
    have hP : va_P D cls_ [(pe, .inr (0, [.ref pea, .int (nI P.2)])), (pea, .inl (ca 0, 12, .inl (fun j => nI (P.1 j)))), (ou, .inr (0, [.ref oua, .int (nI O.2)])), (oua, .inl (ca 0, 16, .inl (fun j => nI (O.1 j)))), (h, .inr (2, [.ref ln, .ref pe, .ref ou, .ref cs, .int (nI lk), .int (nI sn), .int (nI ac), .int (nI ex), .int (nI tr), .int (nI rj)]))] H := hP
    have hD : va_D A [(pe, .inr (0, [.ref pea, .int (nI P.2)])), (pea, .inl (ca 0, 12, .inl (fun j => nI (P.1 j)))), (ou, .inr (0, [.ref oua, .int (nI O.2)])), (oua, .inl (ca 0, 16, .inl (fun j => nI (O.1 j)))), (h, .inr (2, [.ref ln, .ref pe, .ref ou, .ref cs, .int (nI lk), .int (nI sn), .int (nI ac), .int (nI ex), .int (nI tr), .int (nI rj)]))] := hD
    refine lv_istore_n hx hb dSt_pump_28 rfl hl (by decide) rfl (fun ls hl => ?_)
    have hl : lv_has ls 3 [(2, .int (nI (ds ac sn))), (1, .int (nI (min O.2 3))), (0, .ref h)] := hl
    have hP : va_P D cls_ [(h, .inr (2, [.ref ln, .ref pe, .ref ou, .ref cs, .int (nI lk), .int (nI sn), .int (nI ac), .int (nI ex), .int (nI tr), .int (nI rj)])), (pe, .inr (0, [.ref pea, .int (nI P.2)])), (pea, .inl (ca 0, 12, .inl (fun j => nI (P.1 j)))), (ou, .inr (0, [.ref oua, .int (nI O.2)])), (oua, .inl (ca 0, 16, .inl (fun j => nI (O.1 j))))] H := hP.sub [4, 0, 1, 2, 3] rfl
    have hD : va_D A [(h, .inr (2, [.ref ln, .ref pe, .ref ou, .ref cs, .int (nI lk), .int (nI sn), .int (nI ac), .int (nI ex), .int (nI tr), .int (nI rj)])), (pe, .inr (0, [.ref pea, .int (nI P.2)])), (pea, .inl (ca 0, 12, .inl (fun j => nI (P.1 j)))), (ou, .inr (0, [.ref oua, .int (nI O.2)])), (oua, .inl (ca 0, 16, .inl (fun j => nI (O.1 j))))] := hD.sub [4, 0, 1, 2, 3] rfl rfl
    have hgo : pumpR ex O ((min O.2 3) - ds ac sn) P sn (ds ac sn) = (P1, s1) := by rw [← hres, cPump, pumpN, if_pos (by omega)]
    obtain ⟨en, hen⟩ : ∃ en, en = min O.2 3 := ⟨_, rfl⟩
    rw [← hen] at hgo
    have hl : lv_has ls 3 [(2, .int (nI (ds ac sn))), (1, .int (nI en)), (0, .ref h)] := by rw [hen]; exact lv_sub hl [0, 1, 2] rfl
    have hen2 : en ≤ 3 := by omega
    have hen3 : en ≤ O.2 := by omega
    have loop : ∀ (n sn pl : Nat) (P : Rw_) (H : Heap) (locs : List Loc) (ls : Array Slot), sn < 8 → P.2 ≤ 12 → (pl + n = en ∨ (n = 0 ∧ en ≤ pl)) → pl < 100 → pumpR ex O n P sn pl = (P1, s1) → va_P D cls_ [(h, .inr (2, [.ref ln, .ref pe, .ref ou, .ref cs, .int (nI lk), .int (nI sn), .int (nI ac), .int (nI ex), .int (nI tr), .int (nI rj)])), (pe, .inr (0, [.ref pea, .int (nI P.2)])), (pea, .inl (ca 0, 12, .inl (fun j => nI (P.1 j)))), (ou, .inr (0, [.ref oua, .int (nI O.2)])), (oua, .inl (ca 0, 16, .inl (fun j => nI (O.1 j))))] H → va_D A [(h, .inr (2, [.ref ln, .ref pe, .ref ou, .ref cs, .int (nI lk), .int (nI sn), .int (nI ac), .int (nI ex), .int (nI tr), .int (nI rj)])), (pe, .inr (0, [.ref pea, .int (nI P.2)])), (pea, .inl (ca 0, 12, .inl (fun j => nI (P.1 j)))), (ou, .inr (0, [.ref oua, .int (nI O.2)])), (oua, .inl (ca 0, 16, .inl (fun j => nI (O.1 j))))] → va_S A s.heap H locs → lv_has ls 3 [(2, .int (nI pl)), (1, .int (nI en)), (0, .ref h)] → W p l e ({ frames := 1, cells := 0, slots := 0, locals := 32 } : Room) s m args below meth c H locs 0 0 (MQ below (CoQ D (fun _ : Unit => none) (fun _ => True) (fun _ => [(h, .inr (2, [.ref ln, .ref pe, .ref ou, .ref cs, .int (nI lk), .int (nI s1), .int (nI ac), .int (nI ex), .int (nI tr), .int (nI rj)])), (pe, .inr (0, [.ref pea, .int (nI P1.2)])), (pea, .inl (ca 0, 12, .inl (fun j => nI (P1.1 j)))), (ou, .inr (0, [.ref oua, .int (nI O.2)])), (oua, .inl (ca 0, 16, .inl (fun j => nI (O.1 j))))]) A) args s 0 0 A) (F0 m 29 ls []) := by
      intro n
      induction n with
      | zero =>
        intro sn pl P H locs ls hsn hP1 hpn hp9 hgo hP hD hS hl
        refine lv_iload_n hx hb dSt_pump_29 rfl (lv_at hl 0 rfl) ?_
        refine lv_iload_n hx hb dSt_pump_30 rfl (lv_at hl 1 rfl) ?_
        refine k_icmp_ge (tgt := 78) hx hb (by omega) (by omega) dSt_pump_31 rfl (fun h31 => ?_) (fun hz => absurd hz (by omega))
        obtain ⟨rfl, rfl⟩ : P = P1 ∧ sn = s1 := by simpa [pumpR] using hgo
        exact Co.retv hx hb hret hlk dSt_pump_78 hS hP hD () rfl trivial rfl (Nat.le_of_ble_eq_true rfl) (Nat.le_of_ble_eq_true rfl)
      | succ n ih =>
        intro sn pl P H locs ls hsn hP1 hpn hp9 hgo hP hD hS hl
        refine lv_iload_n hx hb dSt_pump_29 rfl (lv_at hl 0 rfl) ?_
        refine lv_iload_n hx hb dSt_pump_30 rfl (lv_at hl 1 rfl) ?_
        refine k_icmp_ge (tgt := 78) hx hb (by omega) (by omega) dSt_pump_31 rfl (fun hz => absurd hz (by omega)) (fun h31 => ?_)
        refine lv_aload_n hx hb dSt_pump_34 rfl (lv_at hl 2 rfl) ?_
        refine va_get (D := D) (ci := 2) (v := .ref pe) (C := RSt) (T := TSt) (N := 10) hx hb ht inSt hown hE.1 hP 0 rfl rfl 1 (by decide) (ht _ tw_90) (fun _ h => h) rfl dSt_pump_35 ?_
        refine lv_iconst (v := nI 3) hx hb dSt_pump_38 (by decide) ?_
        refine lv_aload_n hx hb dSt_pump_39 rfl (lv_at hl 2 rfl) ?_
        refine va_get (D := D) (ci := 2) (v := .int (nI sn)) (C := RSt) (T := TSt) (N := 10) hx hb ht inSt hown hE.1 hP 0 rfl rfl 5 (by decide) (ht _ tw_97) (fun _ h => h) rfl dSt_pump_40 ?_
        refine lv_aload_n hx hb dSt_pump_43 rfl (lv_at hl 2 rfl) ?_
        refine va_get (D := D) (ci := 2) (v := .int (nI ex)) (C := RSt) (T := TSt) (N := 10) hx hb ht inSt hown hE.1 hP 0 rfl rfl 7 (by decide) (ht _ tw_101) (fun _ h => h) rfl dSt_pump_44 ?_
        refine lv_aload_n hx hb dSt_pump_47 rfl (lv_at hl 2 rfl) ?_
        refine va_get (D := D) (ci := 2) (v := .ref ou) (C := RSt) (T := TSt) (N := 10) hx hb ht inSt hown hE.1 hP 0 rfl rfl 2 (by decide) (ht _ tw_91) (fun _ h => h) rfl dSt_pump_48 ?_
        refine lv_iload_n hx hb dSt_pump_51 rfl (lv_at hl 0 rfl) ?_
        refine kI (rV fx (c_Rw_at l D ca ou oua 16 O pl (by decide) (by first | assumption | exact rAdd_le (by assumption) | omega) (by first | assumption | exact rAdd_le (by assumption) | omega)) ⟨callB_of 1 hts (tb_gi tw_286) rfl rfl rfl (ht _ tw_2) (ht _ tw_283) (by decide +kernel) ⟨(Nat.le_of_ble_eq_true rfl), (Nat.le_of_ble_eq_true rfl)⟩, ht _ tw_284, ht _ tw_285⟩ hE hP hD 3 rfl rfl rfl [3, 4] rfl rfl rfl hl.1 rfl (Nat.le_of_ble_eq_true rfl) dSt_pump_52 ⟨(Nat.le_of_ble_eq_true rfl), (Nat.le_of_ble_eq_true rfl)⟩) hP hD hS hA [3, 4] [0, 1, 2] rfl rfl rfl (by decide) (fun _ H locs _ hP hD hS => ?_)
        have hP : va_P D cls_ [(h, .inr (2, [.ref ln, .ref pe, .ref ou, .ref cs, .int (nI lk), .int (nI sn), .int (nI ac), .int (nI ex), .int (nI tr), .int (nI rj)])), (pe, .inr (0, [.ref pea, .int (nI P.2)])), (pea, .inl (ca 0, 12, .inl (fun j => nI (P.1 j)))), (ou, .inr (0, [.ref oua, .int (nI O.2)])), (oua, .inl (ca 0, 16, .inl (fun j => nI (O.1 j))))] H := hP
        have hD : va_D A [(h, .inr (2, [.ref ln, .ref pe, .ref ou, .ref cs, .int (nI lk), .int (nI sn), .int (nI ac), .int (nI ex), .int (nI tr), .int (nI rj)])), (pe, .inr (0, [.ref pea, .int (nI P.2)])), (pea, .inl (ca 0, 12, .inl (fun j => nI (P.1 j)))), (ou, .inr (0, [.ref oua, .int (nI O.2)])), (oua, .inl (ca 0, 16, .inl (fun j => nI (O.1 j))))] := hD
        refine kI (rSN fx (c_Fr_of l D ca 3 sn ex (O.1 pl) (by omega) (by omega) (by omega) (hO.2 _ (by omega))) ⟨va_cnB 4 hts (tb_gi tw_230) rfl rfl rfl (hE.nest tw_228 rfl) (ht _ tw_10) (by decide +kernel) ⟨(Nat.le_of_ble_eq_true rfl), (Nat.le_of_ble_eq_true rfl)⟩, ht _ tw_229, trivial⟩ hE hP hD [] rfl rfl rfl hl.1 rfl (Nat.le_of_ble_eq_true rfl) dSt_pump_55 ⟨(Nat.le_of_ble_eq_true rfl), (Nat.le_of_ble_eq_true rfl)⟩) hP hD hS hA [] [0, 1, 2, 3, 4] rfl rfl rfl (by decide) (fun _ H locs _ hP hD hS => ?_)
        have hP : va_P D cls_ [(h, .inr (2, [.ref ln, .ref pe, .ref ou, .ref cs, .int (nI lk), .int (nI sn), .int (nI ac), .int (nI ex), .int (nI tr), .int (nI rj)])), (pe, .inr (0, [.ref pea, .int (nI P.2)])), (pea, .inl (ca 0, 12, .inl (fun j => nI (P.1 j)))), (ou, .inr (0, [.ref oua, .int (nI O.2)])), (oua, .inl (ca 0, 16, .inl (fun j => nI (O.1 j))))] H := hP
        have hD : va_D A [(h, .inr (2, [.ref ln, .ref pe, .ref ou, .ref cs, .int (nI lk), .int (nI sn), .int (nI ac), .int (nI ex), .int (nI tr), .int (nI rj)])), (pe, .inr (0, [.ref pea, .int (nI P.2)])), (pea, .inl (ca 0, 12, .inl (fun j => nI (P.1 j)))), (ou, .inr (0, [.ref oua, .int (nI O.2)])), (oua, .inl (ca 0, 16, .inl (fun j => nI (O.1 j))))] := hD
        refine kV (rV fx (c_Rw_add l D ca pe pea 12 P (fr4 3 sn ex (O.1 pl)) (by decide) (by first | assumption | exact rAdd_le (by assumption) | omega)) ⟨callB_of 1 hts (tb_gi tw_234) rfl rfl rfl (ht _ tw_2) (ht _ tw_231) (by decide +kernel) ⟨(Nat.le_of_ble_eq_true rfl), (Nat.le_of_ble_eq_true rfl)⟩, ht _ tw_232, ht _ tw_233⟩ hE hP hD 1 rfl rfl rfl [1, 2] rfl rfl rfl hl.1 rfl (Nat.le_of_ble_eq_true rfl) dSt_pump_58 ⟨(Nat.le_of_ble_eq_true rfl), (Nat.le_of_ble_eq_true rfl)⟩) hP hD hS hA [1, 2] [0, 3, 4] rfl rfl rfl (by decide) (fun _ H locs _ hP hD hS => ?_)
        have hP : va_P D cls_ [(h, .inr (2, [.ref ln, .ref pe, .ref ou, .ref cs, .int (nI lk), .int (nI sn), .int (nI ac), .int (nI ex), .int (nI tr), .int (nI rj)])), (ou, .inr (0, [.ref oua, .int (nI O.2)])), (oua, .inl (ca 0, 16, .inl (fun j => nI (O.1 j)))), (pe, .inr (0, [.ref pea, .int (nI ((rAdd 12 P (fr4 3 sn ex (O.1 pl))).2))])), (pea, .inl (ca 0, 12, .inl (fun j => nI (((rAdd 12 P (fr4 3 sn ex (O.1 pl))).1) j))))] H := hP
        have hD : va_D A [(h, .inr (2, [.ref ln, .ref pe, .ref ou, .ref cs, .int (nI lk), .int (nI sn), .int (nI ac), .int (nI ex), .int (nI tr), .int (nI rj)])), (ou, .inr (0, [.ref oua, .int (nI O.2)])), (oua, .inl (ca 0, 16, .inl (fun j => nI (O.1 j)))), (pe, .inr (0, [.ref pea, .int (nI ((rAdd 12 P (fr4 3 sn ex (O.1 pl))).2))])), (pea, .inl (ca 0, 12, .inl (fun j => nI (((rAdd 12 P (fr4 3 sn ex (O.1 pl))).1) j))))] := hD
        refine lv_aload_n hx hb dSt_pump_61 rfl (lv_at hl 2 rfl) ?_
        refine lv_aload_n hx hb dSt_pump_62 rfl (lv_at hl 2 rfl) ?_
        refine va_get (D := D) (ci := 2) (v := .int (nI sn)) (C := RSt) (T := TSt) (N := 10) hx hb ht inSt hown hE.1 hP 0 rfl rfl 5 (by decide) (ht _ tw_97) (fun _ h => h) rfl dSt_pump_63 ?_
        refine kI (rSN fx (c_Cl_after l D ca sn (by omega)) ⟨va_cnB 1 hts (tb_gi tw_289) rfl rfl rfl (hE.nest tw_287 rfl) (ht _ tw_1) (by decide +kernel) ⟨(Nat.le_of_ble_eq_true rfl), (Nat.le_of_ble_eq_true rfl)⟩, ht _ tw_288, trivial⟩ hE hP hD [] rfl rfl rfl hl.1 rfl (Nat.le_of_ble_eq_true rfl) dSt_pump_66 ⟨(Nat.le_of_ble_eq_true rfl), (Nat.le_of_ble_eq_true rfl)⟩) hP hD hS hA [] [0, 1, 2, 3, 4] rfl rfl rfl (by decide) (fun _ H locs _ hP hD hS => ?_)
        have hP : va_P D cls_ [(h, .inr (2, [.ref ln, .ref pe, .ref ou, .ref cs, .int (nI lk), .int (nI sn), .int (nI ac), .int (nI ex), .int (nI tr), .int (nI rj)])), (ou, .inr (0, [.ref oua, .int (nI O.2)])), (oua, .inl (ca 0, 16, .inl (fun j => nI (O.1 j)))), (pe, .inr (0, [.ref pea, .int (nI ((rAdd 12 P (fr4 3 sn ex (O.1 pl))).2))])), (pea, .inl (ca 0, 12, .inl (fun j => nI (((rAdd 12 P (fr4 3 sn ex (O.1 pl))).1) j))))] H := hP
        have hD : va_D A [(h, .inr (2, [.ref ln, .ref pe, .ref ou, .ref cs, .int (nI lk), .int (nI sn), .int (nI ac), .int (nI ex), .int (nI tr), .int (nI rj)])), (ou, .inr (0, [.ref oua, .int (nI O.2)])), (oua, .inl (ca 0, 16, .inl (fun j => nI (O.1 j)))), (pe, .inr (0, [.ref pea, .int (nI ((rAdd 12 P (fr4 3 sn ex (O.1 pl))).2))])), (pea, .inl (ca 0, 12, .inl (fun j => nI (((rAdd 12 P (fr4 3 sn ex (O.1 pl))).1) j))))] := hD
        refine va_put (D := D) (ci := 2) (v := .int (nI (af sn))) (ty := .int) (C := RSt) (T := TSt) (N := 10) hx hb ht inSt tySt tySt_ok nmSt hown hE.1 hP hD hS 0 rfl rfl 5 (by decide) (ht _ tw_97) (fun _ h => h) rfl (by decide +kernel) rfl rfl (Nat.le_of_ble_eq_true rfl) dSt_pump_69 (fun H locs hP hD hS => ?_)
        have hP : va_P D cls_ [(h, .inr (2, [.ref ln, .ref pe, .ref ou, .ref cs, .int (nI lk), .int (nI (af sn)), .int (nI ac), .int (nI ex), .int (nI tr), .int (nI rj)])), (ou, .inr (0, [.ref oua, .int (nI O.2)])), (oua, .inl (ca 0, 16, .inl (fun j => nI (O.1 j)))), (pe, .inr (0, [.ref pea, .int (nI ((rAdd 12 P (fr4 3 sn ex (O.1 pl))).2))])), (pea, .inl (ca 0, 12, .inl (fun j => nI (((rAdd 12 P (fr4 3 sn ex (O.1 pl))).1) j))))] H := hP
        have hD : va_D A [(h, .inr (2, [.ref ln, .ref pe, .ref ou, .ref cs, .int (nI lk), .int (nI (af sn)), .int (nI ac), .int (nI ex), .int (nI tr), .int (nI rj)])), (ou, .inr (0, [.ref oua, .int (nI O.2)])), (oua, .inl (ca 0, 16, .inl (fun j => nI (O.1 j)))), (pe, .inr (0, [.ref pea, .int (nI ((rAdd 12 P (fr4 3 sn ex (O.1 pl))).2))])), (pea, .inl (ca 0, 12, .inl (fun j => nI (((rAdd 12 P (fr4 3 sn ex (O.1 pl))).1) j))))] := hD
        refine lv_iinc (k := 0) (v := nI (pl + 1)) hx hb dSt_pump_72 hl rfl (n_inc _) (by decide) rfl (fun ls hl => ?_)
        have hl : lv_has ls 3 [(2, .int (nI (pl + 1))), (1, .int (nI en)), (0, .ref h)] := hl
        refine lv_goto (tgt := 29) hx hb dSt_pump_75 rfl ?_
        have hP : va_P D cls_ [(h, .inr (2, [.ref ln, .ref pe, .ref ou, .ref cs, .int (nI lk), .int (nI (af sn)), .int (nI ac), .int (nI ex), .int (nI tr), .int (nI rj)])), (pe, .inr (0, [.ref pea, .int (nI ((rAdd 12 P (fr4 3 sn ex (O.1 pl))).2))])), (pea, .inl (ca 0, 12, .inl (fun j => nI (((rAdd 12 P (fr4 3 sn ex (O.1 pl))).1) j)))), (ou, .inr (0, [.ref oua, .int (nI O.2)])), (oua, .inl (ca 0, 16, .inl (fun j => nI (O.1 j))))] H := hP.sub [0, 3, 4, 1, 2] rfl
        have hD : va_D A [(h, .inr (2, [.ref ln, .ref pe, .ref ou, .ref cs, .int (nI lk), .int (nI (af sn)), .int (nI ac), .int (nI ex), .int (nI tr), .int (nI rj)])), (pe, .inr (0, [.ref pea, .int (nI ((rAdd 12 P (fr4 3 sn ex (O.1 pl))).2))])), (pea, .inl (ca 0, 12, .inl (fun j => nI (((rAdd 12 P (fr4 3 sn ex (O.1 pl))).1) j)))), (ou, .inr (0, [.ref oua, .int (nI O.2)])), (oua, .inl (ca 0, 16, .inl (fun j => nI (O.1 j))))] := hD.sub [0, 3, 4, 1, 2] rfl rfl
        exact ih (af sn) (pl + 1) (rAdd 12 P (fr4 3 sn ex (O.1 pl))) H locs ls (af_lt _) (rAdd_le hP1) (by omega) (by omega) hgo hP hD hS hl
    exact loop (en - ds ac sn) sn (ds ac sn) P H locs ls hsn hP1 (by omega) (by omega) hgo hP hD hS hl
set_option maxHeartbeats 4000000 in
set_option maxRecDepth 100000 in
theorem c_St_sendUnconfirmed (l : Launch) (D : va_G) (ca : Nat → ClassId) (h ln pe ou cs lk sn ac ex tr rj : Nat) (pea oua : Nat) (O P : Rw_) (P1 : Rw_) (hlk2 : lk < 3) (hsn : sn < 8) (hac : ac < 8) (hex : ex < 8) (hO : oOk O) (hP1 : P.2 ≤ 12) (hun : ds ac sn ≤ O.2) (hres : cAgain sn ac ex O P = P1) : Co (S := Unit) l ySt_sendUnconfirmed (Cond.code ySt_sendUnconfirmed cSt_sendUnconfirmed 4 none :: tb_) { frames := 1, cells := 0, slots := 0, locals := 32 } D ca [.ref h] [(h, .inr (2, [.ref ln, .ref pe, .ref ou, .ref cs, .int (nI lk), .int (nI sn), .int (nI ac), .int (nI ex), .int (nI tr), .int (nI rj)])), (pe, .inr (0, [.ref pea, .int (nI P.2)])), (pea, .inl (ca 0, 12, .inl (fun j => nI (P.1 j)))), (ou, .inr (0, [.ref oua, .int (nI O.2)])), (oua, .inl (ca 0, 16, .inl (fun j => nI (O.1 j))))] (fun _ => none) (fun _ => True) (fun _ => [(h, .inr (2, [.ref ln, .ref pe, .ref ou, .ref cs, .int (nI lk), .int (nI sn), .int (nI ac), .int (nI ex), .int (nI tr), .int (nI rj)])), (pe, .inr (0, [.ref pea, .int (nI P1.2)])), (pea, .inl (ca 0, 12, .inl (fun j => nI (P1.1 j)))), (ou, .inr (0, [.ref oua, .int (nI O.2)])), (oua, .inl (ca 0, 16, .inl (fun j => nI (O.1 j))))]) 0 0 := by
  refine Co.of cSt_sendUnconfirmed 4 none (by decide) (Nat.le_of_ble_eq_true rfl) ?_
  intro p e s m args below meth c A ls fx hret hlk hin hE hP hD hS hA hl
  have hx := fx.1
  have hb := fx.2.1
  have hown : s.vm.findClass RSt = some m.cls := fx.2.2.2.1
  have hts := fx.2.2.2.2
  have ht : ∀ w ∈ tb_, w.before args s = true := fun w h => hts w (List.mem_cons_of_mem _ h)
  have hO1 := hO.1
  have b1 := ds_lt ac sn
  have hl : lv_has ls 4 [(0, .ref h)] := hl
  refine lv_aload_n hx hb dSt_sendUnconfirmed_0 rfl (lv_at hl 0 rfl) ?_
  refine kI (rV fx (c_St_unconfirmed l D ca h ln pe ou cs lk sn ac ex tr rj (by omega) (by omega)) ⟨callB_of 0 hts (tb_gi tw_250) rfl rfl rfl (ht _ tw_3) (ht _ tw_247) (by decide +kernel) ⟨(Nat.le_of_ble_eq_true rfl), (Nat.le_of_ble_eq_true rfl)⟩, ht _ tw_249, ht _ tw_830⟩ hE hP hD 0 rfl rfl rfl [0] rfl rfl rfl hl.1 rfl (Nat.le_of_ble_eq_true rfl) dSt_sendUnconfirmed_1 ⟨(Nat.le_of_ble_eq_true rfl), (Nat.le_of_ble_eq_true rfl)⟩) hP hD hS hA [0] [1, 2, 3, 4] rfl rfl rfl (by decide) (fun _ H locs _ hP hD hS => ?_)
  have hP : va_P D cls_ [(pe, .inr (0, [.ref pea, .int (nI P.2)])), (pea, .inl (ca 0, 12, .inl (fun j => nI (P.1 j)))), (ou, .inr (0, [.ref oua, .int (nI O.2)])), (oua, .inl (ca 0, 16, .inl (fun j => nI (O.1 j)))), (h, .inr (2, [.ref ln, .ref pe, .ref ou, .ref cs, .int (nI lk), .int (nI sn), .int (nI ac), .int (nI ex), .int (nI tr), .int (nI rj)]))] H := hP
  have hD : va_D A [(pe, .inr (0, [.ref pea, .int (nI P.2)])), (pea, .inl (ca 0, 12, .inl (fun j => nI (P.1 j)))), (ou, .inr (0, [.ref oua, .int (nI O.2)])), (oua, .inl (ca 0, 16, .inl (fun j => nI (O.1 j)))), (h, .inr (2, [.ref ln, .ref pe, .ref ou, .ref cs, .int (nI lk), .int (nI sn), .int (nI ac), .int (nI ex), .int (nI tr), .int (nI rj)]))] := hD
  refine lv_istore_n hx hb dSt_sendUnconfirmed_4 rfl hl (by decide) rfl (fun ls hl => ?_)
  have hl : lv_has ls 4 [(1, .int (nI (ds ac sn))), (0, .ref h)] := hl
  refine lv_aload_n hx hb dSt_sendUnconfirmed_5 rfl (lv_at hl 1 rfl) ?_
  refine va_get (D := D) (ci := 2) (v := .int (nI ac)) (C := RSt) (T := TSt) (N := 10) hx hb ht inSt hown hE.1 hP 4 rfl rfl 6 (by decide) (ht _ tw_99) (fun _ h => h) rfl dSt_sendUnconfirmed_6 ?_
  refine lv_istore_n hx hb dSt_sendUnconfirmed_9 rfl hl (by decide) rfl (fun ls hl => ?_)
  have hl : lv_has ls 4 [(2, .int (nI ac)), (1, .int (nI (ds ac sn))), (0, .ref h)] := hl
  refine lv_iconst (v := nI 0) hx hb dSt_sendUnconfirmed_10 (by decide) ?_
  refine lv_istore_n hx hb dSt_sendUnconfirmed_11 rfl hl (by decide) rfl (fun ls hl => ?_)
  have hl : lv_has ls 4 [(3, .int (nI 0)), (2, .int (nI ac)), (1, .int (nI (ds ac sn))), (0, .ref h)] := hl
  have hP : va_P D cls_ [(h, .inr (2, [.ref ln, .ref pe, .ref ou, .ref cs, .int (nI lk), .int (nI sn), .int (nI ac), .int (nI ex), .int (nI tr), .int (nI rj)])), (pe, .inr (0, [.ref pea, .int (nI P.2)])), (pea, .inl (ca 0, 12, .inl (fun j => nI (P.1 j)))), (ou, .inr (0, [.ref oua, .int (nI O.2)])), (oua, .inl (ca 0, 16, .inl (fun j => nI (O.1 j))))] H := hP.sub [4, 0, 1, 2, 3] rfl
  have hD : va_D A [(h, .inr (2, [.ref ln, .ref pe, .ref ou, .ref cs, .int (nI lk), .int (nI sn), .int (nI ac), .int (nI ex), .int (nI tr), .int (nI rj)])), (pe, .inr (0, [.ref pea, .int (nI P.2)])), (pea, .inl (ca 0, 12, .inl (fun j => nI (P.1 j)))), (ou, .inr (0, [.ref oua, .int (nI O.2)])), (oua, .inl (ca 0, 16, .inl (fun j => nI (O.1 j))))] := hD.sub [4, 0, 1, 2, 3] rfl rfl
  have hgo : againR ex O (ds ac sn) P ac 0 = P1 := hres
  have hl := lv_sub hl [0, 1, 2, 3] rfl
  generalize ds ac sn = en at hl hgo b1 hun
  have loop : ∀ (n nb pl : Nat) (P : Rw_) (H : Heap) (locs : List Loc) (ls : Array Slot), nb < 8 → P.2 ≤ 12 → pl + n = en → againR ex O n P nb pl = P1 → va_P D cls_ [(h, .inr (2, [.ref ln, .ref pe, .ref ou, .ref cs, .int (nI lk), .int (nI sn), .int (nI ac), .int (nI ex), .int (nI tr), .int (nI rj)])), (pe, .inr (0, [.ref pea, .int (nI P.2)])), (pea, .inl (ca 0, 12, .inl (fun j => nI (P.1 j)))), (ou, .inr (0, [.ref oua, .int (nI O.2)])), (oua, .inl (ca 0, 16, .inl (fun j => nI (O.1 j))))] H → va_D A [(h, .inr (2, [.ref ln, .ref pe, .ref ou, .ref cs, .int (nI lk), .int (nI sn), .int (nI ac), .int (nI ex), .int (nI tr), .int (nI rj)])), (pe, .inr (0, [.ref pea, .int (nI P.2)])), (pea, .inl (ca 0, 12, .inl (fun j => nI (P.1 j)))), (ou, .inr (0, [.ref oua, .int (nI O.2)])), (oua, .inl (ca 0, 16, .inl (fun j => nI (O.1 j))))] → va_S A s.heap H locs → lv_has ls 4 [(3, .int (nI pl)), (2, .int (nI nb)), (1, .int (nI en)), (0, .ref h)] → W p l e ({ frames := 1, cells := 0, slots := 0, locals := 32 } : Room) s m args below meth c H locs 0 0 (MQ below (CoQ D (fun _ : Unit => none) (fun _ => True) (fun _ => [(h, .inr (2, [.ref ln, .ref pe, .ref ou, .ref cs, .int (nI lk), .int (nI sn), .int (nI ac), .int (nI ex), .int (nI tr), .int (nI rj)])), (pe, .inr (0, [.ref pea, .int (nI P1.2)])), (pea, .inl (ca 0, 12, .inl (fun j => nI (P1.1 j)))), (ou, .inr (0, [.ref oua, .int (nI O.2)])), (oua, .inl (ca 0, 16, .inl (fun j => nI (O.1 j))))]) A) args s 0 0 A) (F0 m 12 ls []) := by
    intro n
    induction n with
    | zero =>
      intro nb pl P H locs ls hnb hP1 hpn hgo hP hD hS hl
      refine lv_iload_n hx hb dSt_sendUnconfirmed_12 rfl (lv_at hl 0 rfl) ?_
      refine lv_iload_n hx hb dSt_sendUnconfirmed_13 rfl (lv_at hl 2 rfl) ?_
      refine k_icmp_ge (tgt := 52) hx hb (by omega) (by omega) dSt_sendUnconfirmed_14 rfl (fun h14 => ?_) (fun hz => absurd hz (by omega))
      obtain rfl : P = P1 := hgo
      exact Co.retv hx hb hret hlk dSt_sendUnconfirmed_52 hS hP hD () rfl trivial rfl (Nat.le_of_ble_eq_true rfl) (Nat.le_of_ble_eq_true rfl)
    | succ n ih =>
      intro nb pl P H locs ls hnb hP1 hpn hgo hP hD hS hl
      refine lv_iload_n hx hb dSt_sendUnconfirmed_12 rfl (lv_at hl 0 rfl) ?_
      refine lv_iload_n hx hb dSt_sendUnconfirmed_13 rfl (lv_at hl 2 rfl) ?_
      refine k_icmp_ge (tgt := 52) hx hb (by omega) (by omega) dSt_sendUnconfirmed_14 rfl (fun hz => absurd hz (by omega)) (fun h14 => ?_)
      refine lv_aload_n hx hb dSt_sendUnconfirmed_17 rfl (lv_at hl 3 rfl) ?_
      refine va_get (D := D) (ci := 2) (v := .ref pe) (C := RSt) (T := TSt) (N := 10) hx hb ht inSt hown hE.1 hP 0 rfl rfl 1 (by decide) (ht _ tw_90) (fun _ h => h) rfl dSt_sendUnconfirmed_18 ?_
      refine lv_iconst (v := nI 3) hx hb dSt_sendUnconfirmed_21 (by decide) ?_
      refine lv_iload_n hx hb dSt_sendUnconfirmed_22 rfl (lv_at hl 1 rfl) ?_
      refine lv_aload_n hx hb dSt_sendUnconfirmed_23 rfl (lv_at hl 3 rfl) ?_
      refine va_get (D := D) (ci := 2) (v := .int (nI ex)) (C := RSt) (T := TSt) (N := 10) hx hb ht inSt hown hE.1 hP 0 rfl rfl 7 (by decide) (ht _ tw_101) (fun _ h => h) rfl dSt_sendUnconfirmed_24 ?_
      refine lv_aload_n hx hb dSt_sendUnconfirmed_27 rfl (lv_at hl 3 rfl) ?_
      refine va_get (D := D) (ci := 2) (v := .ref ou) (C := RSt) (T := TSt) (N := 10) hx hb ht inSt hown hE.1 hP 0 rfl rfl 2 (by decide) (ht _ tw_91) (fun _ h => h) rfl dSt_sendUnconfirmed_28 ?_
      refine lv_iload_n hx hb dSt_sendUnconfirmed_31 rfl (lv_at hl 0 rfl) ?_
      refine kI (rV fx (c_Rw_at l D ca ou oua 16 O pl (by decide) (by first | assumption | exact rAdd_le (by assumption) | omega) (by first | assumption | exact rAdd_le (by assumption) | omega)) ⟨callB_of 1 hts (tb_gi tw_286) rfl rfl rfl (ht _ tw_2) (ht _ tw_283) (by decide +kernel) ⟨(Nat.le_of_ble_eq_true rfl), (Nat.le_of_ble_eq_true rfl)⟩, ht _ tw_284, ht _ tw_285⟩ hE hP hD 3 rfl rfl rfl [3, 4] rfl rfl rfl hl.1 rfl (Nat.le_of_ble_eq_true rfl) dSt_sendUnconfirmed_32 ⟨(Nat.le_of_ble_eq_true rfl), (Nat.le_of_ble_eq_true rfl)⟩) hP hD hS hA [3, 4] [0, 1, 2] rfl rfl rfl (by decide) (fun _ H locs _ hP hD hS => ?_)
      have hP : va_P D cls_ [(h, .inr (2, [.ref ln, .ref pe, .ref ou, .ref cs, .int (nI lk), .int (nI sn), .int (nI ac), .int (nI ex), .int (nI tr), .int (nI rj)])), (pe, .inr (0, [.ref pea, .int (nI P.2)])), (pea, .inl (ca 0, 12, .inl (fun j => nI (P.1 j)))), (ou, .inr (0, [.ref oua, .int (nI O.2)])), (oua, .inl (ca 0, 16, .inl (fun j => nI (O.1 j))))] H := hP
      have hD : va_D A [(h, .inr (2, [.ref ln, .ref pe, .ref ou, .ref cs, .int (nI lk), .int (nI sn), .int (nI ac), .int (nI ex), .int (nI tr), .int (nI rj)])), (pe, .inr (0, [.ref pea, .int (nI P.2)])), (pea, .inl (ca 0, 12, .inl (fun j => nI (P.1 j)))), (ou, .inr (0, [.ref oua, .int (nI O.2)])), (oua, .inl (ca 0, 16, .inl (fun j => nI (O.1 j))))] := hD
      refine kI (rSN fx (c_Fr_of l D ca 3 nb ex (O.1 pl) (by omega) (by omega) (by omega) (hO.2 _ (by omega))) ⟨va_cnB 4 hts (tb_gi tw_230) rfl rfl rfl (hE.nest tw_228 rfl) (ht _ tw_10) (by decide +kernel) ⟨(Nat.le_of_ble_eq_true rfl), (Nat.le_of_ble_eq_true rfl)⟩, ht _ tw_229, trivial⟩ hE hP hD [] rfl rfl rfl hl.1 rfl (Nat.le_of_ble_eq_true rfl) dSt_sendUnconfirmed_35 ⟨(Nat.le_of_ble_eq_true rfl), (Nat.le_of_ble_eq_true rfl)⟩) hP hD hS hA [] [0, 1, 2, 3, 4] rfl rfl rfl (by decide) (fun _ H locs _ hP hD hS => ?_)
      have hP : va_P D cls_ [(h, .inr (2, [.ref ln, .ref pe, .ref ou, .ref cs, .int (nI lk), .int (nI sn), .int (nI ac), .int (nI ex), .int (nI tr), .int (nI rj)])), (pe, .inr (0, [.ref pea, .int (nI P.2)])), (pea, .inl (ca 0, 12, .inl (fun j => nI (P.1 j)))), (ou, .inr (0, [.ref oua, .int (nI O.2)])), (oua, .inl (ca 0, 16, .inl (fun j => nI (O.1 j))))] H := hP
      have hD : va_D A [(h, .inr (2, [.ref ln, .ref pe, .ref ou, .ref cs, .int (nI lk), .int (nI sn), .int (nI ac), .int (nI ex), .int (nI tr), .int (nI rj)])), (pe, .inr (0, [.ref pea, .int (nI P.2)])), (pea, .inl (ca 0, 12, .inl (fun j => nI (P.1 j)))), (ou, .inr (0, [.ref oua, .int (nI O.2)])), (oua, .inl (ca 0, 16, .inl (fun j => nI (O.1 j))))] := hD
      refine kV (rV fx (c_Rw_add l D ca pe pea 12 P (fr4 3 nb ex (O.1 pl)) (by decide) (by first | assumption | exact rAdd_le (by assumption) | omega)) ⟨callB_of 1 hts (tb_gi tw_234) rfl rfl rfl (ht _ tw_2) (ht _ tw_231) (by decide +kernel) ⟨(Nat.le_of_ble_eq_true rfl), (Nat.le_of_ble_eq_true rfl)⟩, ht _ tw_232, ht _ tw_233⟩ hE hP hD 1 rfl rfl rfl [1, 2] rfl rfl rfl hl.1 rfl (Nat.le_of_ble_eq_true rfl) dSt_sendUnconfirmed_38 ⟨(Nat.le_of_ble_eq_true rfl), (Nat.le_of_ble_eq_true rfl)⟩) hP hD hS hA [1, 2] [0, 3, 4] rfl rfl rfl (by decide) (fun _ H locs _ hP hD hS => ?_)
      have hP : va_P D cls_ [(h, .inr (2, [.ref ln, .ref pe, .ref ou, .ref cs, .int (nI lk), .int (nI sn), .int (nI ac), .int (nI ex), .int (nI tr), .int (nI rj)])), (ou, .inr (0, [.ref oua, .int (nI O.2)])), (oua, .inl (ca 0, 16, .inl (fun j => nI (O.1 j)))), (pe, .inr (0, [.ref pea, .int (nI ((rAdd 12 P (fr4 3 nb ex (O.1 pl))).2))])), (pea, .inl (ca 0, 12, .inl (fun j => nI (((rAdd 12 P (fr4 3 nb ex (O.1 pl))).1) j))))] H := hP
      have hD : va_D A [(h, .inr (2, [.ref ln, .ref pe, .ref ou, .ref cs, .int (nI lk), .int (nI sn), .int (nI ac), .int (nI ex), .int (nI tr), .int (nI rj)])), (ou, .inr (0, [.ref oua, .int (nI O.2)])), (oua, .inl (ca 0, 16, .inl (fun j => nI (O.1 j)))), (pe, .inr (0, [.ref pea, .int (nI ((rAdd 12 P (fr4 3 nb ex (O.1 pl))).2))])), (pea, .inl (ca 0, 12, .inl (fun j => nI (((rAdd 12 P (fr4 3 nb ex (O.1 pl))).1) j))))] := hD
      refine lv_iload_n hx hb dSt_sendUnconfirmed_41 rfl (lv_at hl 1 rfl) ?_
      refine kI (rSN fx (c_Cl_after l D ca nb (by omega)) ⟨va_cnB 1 hts (tb_gi tw_289) rfl rfl rfl (hE.nest tw_287 rfl) (ht _ tw_1) (by decide +kernel) ⟨(Nat.le_of_ble_eq_true rfl), (Nat.le_of_ble_eq_true rfl)⟩, ht _ tw_288, trivial⟩ hE hP hD [] rfl rfl rfl hl.1 rfl (Nat.le_of_ble_eq_true rfl) dSt_sendUnconfirmed_42 ⟨(Nat.le_of_ble_eq_true rfl), (Nat.le_of_ble_eq_true rfl)⟩) hP hD hS hA [] [0, 1, 2, 3, 4] rfl rfl rfl (by decide) (fun _ H locs _ hP hD hS => ?_)
      have hP : va_P D cls_ [(h, .inr (2, [.ref ln, .ref pe, .ref ou, .ref cs, .int (nI lk), .int (nI sn), .int (nI ac), .int (nI ex), .int (nI tr), .int (nI rj)])), (ou, .inr (0, [.ref oua, .int (nI O.2)])), (oua, .inl (ca 0, 16, .inl (fun j => nI (O.1 j)))), (pe, .inr (0, [.ref pea, .int (nI ((rAdd 12 P (fr4 3 nb ex (O.1 pl))).2))])), (pea, .inl (ca 0, 12, .inl (fun j => nI (((rAdd 12 P (fr4 3 nb ex (O.1 pl))).1) j))))] H := hP
      have hD : va_D A [(h, .inr (2, [.ref ln, .ref pe, .ref ou, .ref cs, .int (nI lk), .int (nI sn), .int (nI ac), .int (nI ex), .int (nI tr), .int (nI rj)])), (ou, .inr (0, [.ref oua, .int (nI O.2)])), (oua, .inl (ca 0, 16, .inl (fun j => nI (O.1 j)))), (pe, .inr (0, [.ref pea, .int (nI ((rAdd 12 P (fr4 3 nb ex (O.1 pl))).2))])), (pea, .inl (ca 0, 12, .inl (fun j => nI (((rAdd 12 P (fr4 3 nb ex (O.1 pl))).1) j))))] := hD
      refine lv_istore_n hx hb dSt_sendUnconfirmed_45 rfl hl (by decide) rfl (fun ls hl => ?_)
      have hl : lv_has ls 4 [(2, .int (nI (af nb))), (3, .int (nI pl)), (1, .int (nI en)), (0, .ref h)] := hl
      refine lv_iinc (k := 1) (v := nI (pl + 1)) hx hb dSt_sendUnconfirmed_46 hl rfl (n_inc _) (by decide) rfl (fun ls hl => ?_)
      have hl : lv_has ls 4 [(3, .int (nI (pl + 1))), (2, .int (nI (af nb))), (1, .int (nI en)), (0, .ref h)] := hl
      refine lv_goto (tgt := 12) hx hb dSt_sendUnconfirmed_49 rfl ?_
      have hP : va_P D cls_ [(h, .inr (2, [.ref ln, .ref pe, .ref ou, .ref cs, .int (nI lk), .int (nI sn), .int (nI ac), .int (nI ex), .int (nI tr), .int (nI rj)])), (pe, .inr (0, [.ref pea, .int (nI ((rAdd 12 P (fr4 3 nb ex (O.1 pl))).2))])), (pea, .inl (ca 0, 12, .inl (fun j => nI (((rAdd 12 P (fr4 3 nb ex (O.1 pl))).1) j)))), (ou, .inr (0, [.ref oua, .int (nI O.2)])), (oua, .inl (ca 0, 16, .inl (fun j => nI (O.1 j))))] H := hP.sub [0, 3, 4, 1, 2] rfl
      have hD : va_D A [(h, .inr (2, [.ref ln, .ref pe, .ref ou, .ref cs, .int (nI lk), .int (nI sn), .int (nI ac), .int (nI ex), .int (nI tr), .int (nI rj)])), (pe, .inr (0, [.ref pea, .int (nI ((rAdd 12 P (fr4 3 nb ex (O.1 pl))).2))])), (pea, .inl (ca 0, 12, .inl (fun j => nI (((rAdd 12 P (fr4 3 nb ex (O.1 pl))).1) j)))), (ou, .inr (0, [.ref oua, .int (nI O.2)])), (oua, .inl (ca 0, 16, .inl (fun j => nI (O.1 j))))] := hD.sub [0, 3, 4, 1, 2] rfl rfl
      have hl := lv_sub hl [0, 1, 2, 3] rfl
      exact ih (af nb) (pl + 1) (rAdd 12 P (fr4 3 nb ex (O.1 pl))) H locs ls (af_lt _) (rAdd_le hP1) (by omega) hgo hP hD hS hl
  exact loop en ac 0 P H locs ls hac hP1 (by omega) hgo hP hD hS hl
set_option maxHeartbeats 4000000 in
set_option maxRecDepth 100000 in
theorem c_St_sendPacket (l : Launch) (D : va_G) (ca : Nat → ClassId) (h ln pe ou cs lk sn ac ex tr rj : Nat) (pea oua : Nat) (O P : Rw_) (pk : Nat) (hlk2 : lk < 3) (hsn : sn < 8) (hac : ac < 8) (hex : ex < 8) (hO : oOk O) (hP1 : P.2 ≤ 12) (hpk : pk < 2097152) : Co (S := Unit) l ySt_sendPacket (Cond.code ySt_sendPacket cSt_sendPacket 2 none :: tb_) { frames := 2, cells := 0, slots := 0, locals := 64 } D ca [.ref h, .int (nI pk)] [(h, .inr (2, [.ref ln, .ref pe, .ref ou, .ref cs, .int (nI lk), .int (nI sn), .int (nI ac), .int (nI ex), .int (nI tr), .int (nI rj)])), (pe, .inr (0, [.ref pea, .int (nI P.2)])), (pea, .inl (ca 0, 12, .inl (fun j => nI (P.1 j)))), (ou, .inr (0, [.ref oua, .int (nI O.2)])), (oua, .inl (ca 0, 16, .inl (fun j => nI (O.1 j))))] (fun _ => none) (fun _ => True) (fun _ => [(h, .inr (2, [.ref ln, .ref pe, .ref ou, .ref cs, .int (nI lk), .int (nI ((sSend lk sn ac ex O P pk).1)), .int (nI ac), .int (nI ex), .int (nI tr), .int (nI rj)])), (pe, .inr (0, [.ref pea, .int (nI (((sSend lk sn ac ex O P pk).2.2).2))])), (pea, .inl (ca 0, 12, .inl (fun j => nI ((((sSend lk sn ac ex O P pk).2.2).1) j)))), (ou, .inr (0, [.ref oua, .int (nI (((sSend lk sn ac ex O P pk).2.1).2))])), (oua, .inl (ca 0, 16, .inl (fun j => nI ((((sSend lk sn ac ex O P pk).2.1).1) j))))]) 0 0 := by
  refine Co.of cSt_sendPacket 2 none (by decide) (Nat.le_of_ble_eq_true rfl) ?_
  intro p e s m args below meth c A ls fx hret hlk hin hE hP hD hS hA hl
  have hx := fx.1
  have hb := fx.2.1
  have hown : s.vm.findClass RSt = some m.cls := fx.2.2.2.1
  have hts := fx.2.2.2.2
  have ht : ∀ w ∈ tb_, w.before args s = true := fun w h => hts w (List.mem_cons_of_mem _ h)
  have hO1 := hO.1
  have hl : lv_has ls 2 [(0, .ref h), (1, .int (nI pk))] := hl
  refine lv_aload_n hx hb dSt_sendPacket_0 rfl (lv_at hl 0 rfl) ?_
  refine va_get (D := D) (ci := 2) (v := .ref ou) (C := RSt) (T := TSt) (N := 10) hx hb ht inSt hown hE.1 hP 0 rfl rfl 2 (by decide) (ht _ tw_91) (fun _ h => h) rfl dSt_sendPacket_1 ?_
  refine lv_iload_n hx hb dSt_sendPacket_4 rfl (lv_at hl 1 rfl) ?_
  refine kV (rV fx (c_Rw_add l D ca ou oua 16 O pk (by decide) (by first | assumption | exact rAdd_le (by assumption) | omega)) ⟨callB_of 1 hts (tb_gi tw_234) rfl rfl rfl (ht _ tw_2) (ht _ tw_231) (by decide +kernel) ⟨(Nat.le_of_ble_eq_true rfl), (Nat.le_of_ble_eq_true rfl)⟩, ht _ tw_232, ht _ tw_233⟩ hE hP hD 3 rfl rfl rfl [3, 4] rfl rfl rfl hl.1 rfl (Nat.le_of_ble_eq_true rfl) dSt_sendPacket_5 ⟨(Nat.le_of_ble_eq_true rfl), (Nat.le_of_ble_eq_true rfl)⟩) hP hD hS hA [3, 4] [0, 1, 2] rfl rfl rfl (by decide) (fun _ H locs _ hP hD hS => ?_)
  have hP : va_P D cls_ [(h, .inr (2, [.ref ln, .ref pe, .ref ou, .ref cs, .int (nI lk), .int (nI sn), .int (nI ac), .int (nI ex), .int (nI tr), .int (nI rj)])), (pe, .inr (0, [.ref pea, .int (nI P.2)])), (pea, .inl (ca 0, 12, .inl (fun j => nI (P.1 j)))), (ou, .inr (0, [.ref oua, .int (nI ((rAdd 16 O pk).2))])), (oua, .inl (ca 0, 16, .inl (fun j => nI (((rAdd 16 O pk).1) j))))] H := hP
  have hD : va_D A [(h, .inr (2, [.ref ln, .ref pe, .ref ou, .ref cs, .int (nI lk), .int (nI sn), .int (nI ac), .int (nI ex), .int (nI tr), .int (nI rj)])), (pe, .inr (0, [.ref pea, .int (nI P.2)])), (pea, .inl (ca 0, 12, .inl (fun j => nI (P.1 j)))), (ou, .inr (0, [.ref oua, .int (nI ((rAdd 16 O pk).2))])), (oua, .inl (ca 0, 16, .inl (fun j => nI (((rAdd 16 O pk).1) j))))] := hD
  refine lv_aload_n hx hb dSt_sendPacket_8 rfl (lv_at hl 0 rfl) ?_
  refine kV (rV fx (c_St_pump l D ca h ln pe ou cs lk sn ac ex tr rj pea oua (rAdd 16 O pk) P (cPump lk sn ac ex (rAdd 16 O pk) P).1 (cPump lk sn ac ex (rAdd 16 O pk) P).2 (by omega) (by first | omega | exact cPump_snd (by omega)) (by omega) (by omega) (by first | assumption | exact oOk.add (by assumption) (by first | omega | exact pk5_lt (by omega) (by omega) (by omega) (by omega) (by omega))) (by first | assumption | exact rAdd_le (by assumption) | exact cPump_le (by assumption) | exact cAgain_le (by assumption) | exact cPump_le (cAgain_le (by assumption)) | omega) rfl) ⟨callB_of 0 hts (tb_gi tw_436) rfl rfl rfl (ht _ tw_3) (ht _ tw_433) (by decide +kernel) ⟨(Nat.le_of_ble_eq_true rfl), (Nat.le_of_ble_eq_true rfl)⟩, ht _ tw_435, ht _ tw_844⟩ hE hP hD 0 rfl rfl rfl [0, 1, 2, 3, 4] rfl rfl rfl hl.1 rfl (Nat.le_of_ble_eq_true rfl) dSt_sendPacket_9 ⟨(Nat.le_of_ble_eq_true rfl), (Nat.le_of_ble_eq_true rfl)⟩) hP hD hS hA [0, 1, 2, 3, 4] [] rfl rfl rfl (by decide) (fun _ H locs _ hP hD hS => ?_)
  have hP : va_P D cls_ [(h, .inr (2, [.ref ln, .ref pe, .ref ou, .ref cs, .int (nI lk), .int (nI ((cPump lk sn ac ex (rAdd 16 O pk) P).2)), .int (nI ac), .int (nI ex), .int (nI tr), .int (nI rj)])), (pe, .inr (0, [.ref pea, .int (nI (((cPump lk sn ac ex (rAdd 16 O pk) P).1).2))])), (pea, .inl (ca 0, 12, .inl (fun j => nI ((((cPump lk sn ac ex (rAdd 16 O pk) P).1).1) j)))), (ou, .inr (0, [.ref oua, .int (nI ((rAdd 16 O pk).2))])), (oua, .inl (ca 0, 16, .inl (fun j => nI (((rAdd 16 O pk).1) j))))] H := hP
  have hD : va_D A [(h, .inr (2, [.ref ln, .ref pe, .ref ou, .ref cs, .int (nI lk), .int (nI ((cPump lk sn ac ex (rAdd 16 O pk) P).2)), .int (nI ac), .int (nI ex), .int (nI tr), .int (nI rj)])), (pe, .inr (0, [.ref pea, .int (nI (((cPump lk sn ac ex (rAdd 16 O pk) P).1).2))])), (pea, .inl (ca 0, 12, .inl (fun j => nI ((((cPump lk sn ac ex (rAdd 16 O pk) P).1).1) j)))), (ou, .inr (0, [.ref oua, .int (nI ((rAdd 16 O pk).2))])), (oua, .inl (ca 0, 16, .inl (fun j => nI (((rAdd 16 O pk).1) j))))] := hD
  exact Co.retv hx hb hret hlk dSt_sendPacket_12 hS hP hD () rfl trivial rfl (Nat.le_of_ble_eq_true rfl) (Nat.le_of_ble_eq_true rfl)
set_option maxHeartbeats 4000000 in
set_option maxRecDepth 100000 in
theorem c_St_confirm (l : Launch) (D : va_G) (ca : Nat → ClassId) (h ln pe ou cs lk sn ac ex tr rj : Nat) (oua : Nat) (O : Rw_) (ak : Nat) (ac' tr' : Nat) (O' : Rw_) (hsn : sn < 8) (hac : ac < 8) (hak : ak < 8) (hO1 : O.2 ≤ 16) (hun : ds ac sn ≤ O.2) (hres : sConf sn ac ak tr O = (ac', tr', O')) : Co (S := Unit) l ySt_confirm (Cond.code ySt_confirm cSt_confirm 3 none :: tb_) { frames := 2, cells := 0, slots := 0, locals := 64 } D ca [.ref h, .int (nI ak)] [(h, .inr (2, [.ref ln, .ref pe, .ref ou, .ref cs, .int (nI lk), .int (nI sn), .int (nI ac), .int (nI ex), .int (nI tr), .int (nI rj)])), (ou, .inr (0, [.ref oua, .int (nI O.2)])), (oua, .inl (ca 0, 16, .inl (fun j => nI (O.1 j))))] (fun _ => none) (fun _ => True) (fun _ => [(h, .inr (2, [.ref ln, .ref pe, .ref ou, .ref cs, .int (nI lk), .int (nI sn), .int (nI ac'), .int (nI ex), .int (nI tr'), .int (nI rj)])), (ou, .inr (0, [.ref oua, .int (nI O'.2)])), (oua, .inl (ca 0, 16, .inl (fun j => nI (O'.1 j))))]) 0 0 := by
  refine Co.of cSt_confirm 3 none (by decide) (Nat.le_of_ble_eq_true rfl) ?_
  intro p e s m args below meth c A ls fx hret hlk hin hE hP hD hS hA hl
  have hx := fx.1
  have hb := fx.2.1
  have hown : s.vm.findClass RSt = some m.cls := fx.2.2.2.1
  have hts := fx.2.2.2.2
  have ht : ∀ w ∈ tb_, w.before args s = true := fun w h => hts w (List.mem_cons_of_mem _ h)
  have b1 := ds_lt ac sn
  have b2 := ds_lt ac ak
  have hl : lv_has ls 3 [(0, .ref h), (1, .int (nI ak))] := hl
  refine lv_aload_n hx hb dSt_confirm_0 rfl (lv_at hl 0 rfl) ?_
  refine va_get (D := D) (ci := 2) (v := .int (nI ac)) (C := RSt) (T := TSt) (N := 10) hx hb ht inSt hown hE.1 hP 0 rfl rfl 6 (by decide) (ht _ tw_99) (fun _ h => h) rfl dSt_confirm_1 ?_
  refine lv_iload_n hx hb dSt_confirm_4 rfl (lv_at hl 1 rfl) ?_
  refine kI (rSN fx (c_Cl_distance l D ca ac ak (by omega) (by omega)) ⟨va_cnB 2 hts (tb_gi tw_352) rfl rfl rfl (hE.nest tw_350 rfl) (ht _ tw_1) (by decide +kernel) ⟨(Nat.le_of_ble_eq_true rfl), (Nat.le_of_ble_eq_true rfl)⟩, ht _ tw_351, trivial⟩ hE hP hD [] rfl rfl rfl hl.1 rfl (Nat.le_of_ble_eq_true rfl) dSt_confirm_5 ⟨(Nat.le_of_ble_eq_true rfl), (Nat.le_of_ble_eq_true rfl)⟩) hP hD hS hA [] [0, 1, 2] rfl rfl rfl (by decide) (fun _ H locs _ hP hD hS => ?_)
  have hP : va_P D cls_ [(h, .inr (2, [.ref ln, .ref pe, .ref ou, .ref cs, .int (nI lk), .int (nI sn), .int (nI ac), .int (nI ex), .int (nI tr), .int (nI rj)])), (ou, .inr (0, [.ref oua, .int (nI O.2)])), (oua, .inl (ca 0, 16, .inl (fun j => nI (O.1 j))))] H := hP
  have hD : va_D A [(h, .inr (2, [.ref ln, .ref pe, .ref ou, .ref cs, .int (nI lk), .int (nI sn), .int (nI ac), .int (nI ex), .int (nI tr), .int (nI rj)])), (ou, .inr (0, [.ref oua, .int (nI O.2)])), (oua, .inl (ca 0, 16, .inl (fun j => nI (O.1 j))))] := hD
  refine lv_istore_n hx hb dSt_confirm_8 rfl hl (by decide) rfl (fun ls hl => ?_)
  have hl : lv_has ls 3 [(2, .int (nI (ds ac ak))), (0, .ref h), (1, .int (nI ak))] := hl
  refine lv_iload_n hx hb dSt_confirm_9 rfl (lv_at hl 0 rfl) ?_
  refine k_if_le (tgt := 39) hx hb (by omega) dSt_confirm_10 rfl (fun h10 => ?_) (fun h10 => ?_)
  · rw [sConf, if_neg (by omega)] at hres
    simp only [Prod.mk.injEq] at hres
    obtain ⟨rfl, rfl, rfl⟩ := hres
    exact Co.retv hx hb hret hlk dSt_confirm_39 hS hP hD () rfl trivial rfl (Nat.le_of_ble_eq_true rfl) (Nat.le_of_ble_eq_true rfl)
  · refine lv_iload_n hx hb dSt_confirm_13 rfl (lv_at hl 0 rfl) ?_
    refine lv_aload_n hx hb dSt_confirm_14 rfl (lv_at hl 1 rfl) ?_
    refine kI (rV fx (c_St_unconfirmed l D ca h ln pe ou cs lk sn ac ex tr rj (by omega) (by omega)) ⟨callB_of 0 hts (tb_gi tw_250) rfl rfl rfl (ht _ tw_3) (ht _ tw_247) (by decide +kernel) ⟨(Nat.le_of_ble_eq_true rfl), (Nat.le_of_ble_eq_true rfl)⟩, ht _ tw_249, ht _ tw_830⟩ hE hP hD 0 rfl rfl rfl [0] rfl rfl rfl hl.1 rfl (Nat.le_of_ble_eq_true rfl) dSt_confirm_15 ⟨(Nat.le_of_ble_eq_true rfl), (Nat.le_of_ble_eq_true rfl)⟩) hP hD hS hA [0] [1, 2] rfl rfl rfl (by decide) (fun _ H locs _ hP hD hS => ?_)
    have hP : va_P D cls_ [(ou, .inr (0, [.ref oua, .int (nI O.2)])), (oua, .inl (ca 0, 16, .inl (fun j => nI (O.1 j)))), (h, .inr (2, [.ref ln, .ref pe, .ref ou, .ref cs, .int (nI lk), .int (nI sn), .int (nI ac), .int (nI ex), .int (nI tr), .int (nI rj)]))] H := hP
    have hD : va_D A [(ou, .inr (0, [.ref oua, .int (nI O.2)])), (oua, .inl (ca 0, 16, .inl (fun j => nI (O.1 j)))), (h, .inr (2, [.ref ln, .ref pe, .ref ou, .ref cs, .int (nI lk), .int (nI sn), .int (nI ac), .int (nI ex), .int (nI tr), .int (nI rj)]))] := hD
    refine k_icmp_gt (tgt := 39) hx hb (by omega) (by omega) dSt_confirm_18 rfl (fun h18 => ?_) (fun h18 => ?_)
    · have hP : va_P D cls_ [(h, .inr (2, [.ref ln, .ref pe, .ref ou, .ref cs, .int (nI lk), .int (nI sn), .int (nI ac), .int (nI ex), .int (nI tr), .int (nI rj)])), (ou, .inr (0, [.ref oua, .int (nI O.2)])), (oua, .inl (ca 0, 16, .inl (fun j => nI (O.1 j))))] H := hP.sub [2, 0, 1] rfl
      have hD : va_D A [(h, .inr (2, [.ref ln, .ref pe, .ref ou, .ref cs, .int (nI lk), .int (nI sn), .int (nI ac), .int (nI ex), .int (nI tr), .int (nI rj)])), (ou, .inr (0, [.ref oua, .int (nI O.2)])), (oua, .inl (ca 0, 16, .inl (fun j => nI (O.1 j))))] := hD.sub [2, 0, 1] rfl rfl
      rw [sConf, if_neg (by omega)] at hres
      simp only [Prod.mk.injEq] at hres
      obtain ⟨rfl, rfl, rfl⟩ := hres
      exact Co.retv hx hb hret hlk dSt_confirm_39 hS hP hD () rfl trivial rfl (Nat.le_of_ble_eq_true rfl) (Nat.le_of_ble_eq_true rfl)
    · refine lv_aload_n hx hb dSt_confirm_21 rfl (lv_at hl 1 rfl) ?_
      refine va_get (D := D) (ci := 2) (v := .ref ou) (C := RSt) (T := TSt) (N := 10) hx hb ht inSt hown hE.1 hP 2 rfl rfl 2 (by decide) (ht _ tw_91) (fun _ h => h) rfl dSt_confirm_22 ?_
      refine lv_iload_n hx hb dSt_confirm_25 rfl (lv_at hl 0 rfl) ?_
      refine kV (rV fx (c_Rw_drop l D ca ou oua 16 O (ds ac ak) (by decide) (by first | assumption | exact rAdd_le (by assumption) | omega) (by first | assumption | exact rAdd_le (by assumption) | omega)) ⟨callB_of 1 hts (tb_gi tw_324) rfl rfl rfl (ht _ tw_2) (ht _ tw_353) (by decide +kernel) ⟨(Nat.le_of_ble_eq_true rfl), (Nat.le_of_ble_eq_true rfl)⟩, ht _ tw_322, ht _ tw_323⟩ hE hP hD 0 rfl rfl rfl [0, 1] rfl rfl rfl hl.1 rfl (Nat.le_of_ble_eq_true rfl) dSt_confirm_26 ⟨(Nat.le_of_ble_eq_true rfl), (Nat.le_of_ble_eq_true rfl)⟩) hP hD hS hA [0, 1] [2] rfl rfl rfl (by decide) (fun _ H locs _ hP hD hS => ?_)
      have hP : va_P D cls_ [(h, .inr (2, [.ref ln, .ref pe, .ref ou, .ref cs, .int (nI lk), .int (nI sn), .int (nI ac), .int (nI ex), .int (nI tr), .int (nI rj)])), (ou, .inr (0, [.ref oua, .int (nI ((rDrop O (ds ac ak)).2))])), (oua, .inl (ca 0, 16, .inl (fun j => nI (((rDrop O (ds ac ak)).1) j))))] H := hP
      have hD : va_D A [(h, .inr (2, [.ref ln, .ref pe, .ref ou, .ref cs, .int (nI lk), .int (nI sn), .int (nI ac), .int (nI ex), .int (nI tr), .int (nI rj)])), (ou, .inr (0, [.ref oua, .int (nI ((rDrop O (ds ac ak)).2))])), (oua, .inl (ca 0, 16, .inl (fun j => nI (((rDrop O (ds ac ak)).1) j))))] := hD
      refine lv_aload_n hx hb dSt_confirm_29 rfl (lv_at hl 1 rfl) ?_
      refine lv_iload_n hx hb dSt_confirm_30 rfl (lv_at hl 2 rfl) ?_
      refine va_put (D := D) (ci := 2) (v := .int (nI ak)) (ty := .int) (C := RSt) (T := TSt) (N := 10) hx hb ht inSt tySt tySt_ok nmSt hown hE.1 hP hD hS 0 rfl rfl 6 (by decide) (ht _ tw_99) (fun _ h => h) rfl (by decide +kernel) rfl rfl (Nat.le_of_ble_eq_true rfl) dSt_confirm_31 (fun H locs hP hD hS => ?_)
      have hP : va_P D cls_ [(h, .inr (2, [.ref ln, .ref pe, .ref ou, .ref cs, .int (nI lk), .int (nI sn), .int (nI ak), .int (nI ex), .int (nI tr), .int (nI rj)])), (ou, .inr (0, [.ref oua, .int (nI ((rDrop O (ds ac ak)).2))])), (oua, .inl (ca 0, 16, .inl (fun j => nI (((rDrop O (ds ac ak)).1) j))))] H := hP
      have hD : va_D A [(h, .inr (2, [.ref ln, .ref pe, .ref ou, .ref cs, .int (nI lk), .int (nI sn), .int (nI ak), .int (nI ex), .int (nI tr), .int (nI rj)])), (ou, .inr (0, [.ref oua, .int (nI ((rDrop O (ds ac ak)).2))])), (oua, .inl (ca 0, 16, .inl (fun j => nI (((rDrop O (ds ac ak)).1) j))))] := hD
      refine lv_aload_n hx hb dSt_confirm_34 rfl (lv_at hl 1 rfl) ?_
      refine lv_iconst (v := nI 0) hx hb dSt_confirm_35 (by decide) ?_
      refine va_put (D := D) (ci := 2) (v := .int (nI 0)) (ty := .int) (C := RSt) (T := TSt) (N := 10) hx hb ht inSt tySt tySt_ok nmSt hown hE.1 hP hD hS 0 rfl rfl 8 (by decide) (ht _ tw_103) (fun _ h => h) rfl (by decide +kernel) rfl rfl (Nat.le_of_ble_eq_true rfl) dSt_confirm_36 (fun H locs hP hD hS => ?_)
      have hP : va_P D cls_ [(h, .inr (2, [.ref ln, .ref pe, .ref ou, .ref cs, .int (nI lk), .int (nI sn), .int (nI ak), .int (nI ex), .int (nI 0), .int (nI rj)])), (ou, .inr (0, [.ref oua, .int (nI ((rDrop O (ds ac ak)).2))])), (oua, .inl (ca 0, 16, .inl (fun j => nI (((rDrop O (ds ac ak)).1) j))))] H := hP
      have hD : va_D A [(h, .inr (2, [.ref ln, .ref pe, .ref ou, .ref cs, .int (nI lk), .int (nI sn), .int (nI ak), .int (nI ex), .int (nI 0), .int (nI rj)])), (ou, .inr (0, [.ref oua, .int (nI ((rDrop O (ds ac ak)).2))])), (oua, .inl (ca 0, 16, .inl (fun j => nI (((rDrop O (ds ac ak)).1) j))))] := hD
      rw [sConf, if_pos (by omega)] at hres
      simp only [Prod.mk.injEq] at hres
      obtain ⟨rfl, rfl, rfl⟩ := hres
      exact Co.retv hx hb hret hlk dSt_confirm_39 hS hP hD () rfl trivial rfl (Nat.le_of_ble_eq_true rfl) (Nat.le_of_ble_eq_true rfl)
set_option maxHeartbeats 4000000 in
set_option maxRecDepth 100000 in
theorem c_St_rejectOnce (l : Launch) (D : va_G) (ca : Nat → ClassId) (h ln pe ou cs lk sn ac ex tr rj : Nat) (pea : Nat) (P : Rw_) (rj' : Nat) (P' : Rw_) (hex : ex < 8) (hrj : rj < 2) (hP1 : P.2 ≤ 12) (hres : sRej rj ex P = (rj', P')) : Co (S := Unit) l ySt_rejectOnce (Cond.code ySt_rejectOnce cSt_rejectOnce 1 none :: tb_) { frames := 2, cells := 0, slots := 0, locals := 64 } D ca [.ref h] [(h, .inr (2, [.ref ln, .ref pe, .ref ou, .ref cs, .int (nI lk), .int (nI sn), .int (nI ac), .int (nI ex), .int (nI tr), .int (nI rj)])), (pe, .inr (0, [.ref pea, .int (nI P.2)])), (pea, .inl (ca 0, 12, .inl (fun j => nI (P.1 j))))] (fun _ => none) (fun _ => True) (fun _ => [(h, .inr (2, [.ref ln, .ref pe, .ref ou, .ref cs, .int (nI lk), .int (nI sn), .int (nI ac), .int (nI ex), .int (nI tr), .int (nI rj')])), (pe, .inr (0, [.ref pea, .int (nI P'.2)])), (pea, .inl (ca 0, 12, .inl (fun j => nI (P'.1 j))))]) 0 0 := by
  refine Co.of cSt_rejectOnce 1 none (by decide) (Nat.le_of_ble_eq_true rfl) ?_
  intro p e s m args below meth c A ls fx hret hlk hin hE hP hD hS hA hl
  have hx := fx.1
  have hb := fx.2.1
  have hown : s.vm.findClass RSt = some m.cls := fx.2.2.2.1
  have hts := fx.2.2.2.2
  have ht : ∀ w ∈ tb_, w.before args s = true := fun w h => hts w (List.mem_cons_of_mem _ h)
  have hl : lv_has ls 1 [(0, .ref h)] := hl
  refine lv_aload_n hx hb dSt_rejectOnce_0 rfl (lv_at hl 0 rfl) ?_
  refine va_get (D := D) (ci := 2) (v := .int (nI rj)) (C := RSt) (T := TSt) (N := 10) hx hb ht inSt hown hE.1 hP 0 rfl rfl 9 (by decide) (ht _ tw_105) (fun _ h => h) rfl dSt_rejectOnce_1 ?_
  refine k_if_ne (tgt := 17) hx hb (by omega) dSt_rejectOnce_4 rfl (fun h4 => ?_) (fun h4 => ?_)
  · rw [sRej, if_neg (by omega)] at hres
    simp only [Prod.mk.injEq] at hres
    obtain ⟨rfl, rfl⟩ := hres
    exact Co.retv hx hb hret hlk dSt_rejectOnce_17 hS hP hD () rfl trivial rfl (Nat.le_of_ble_eq_true rfl) (Nat.le_of_ble_eq_true rfl)
  · refine lv_aload_n hx hb dSt_rejectOnce_7 rfl (lv_at hl 0 rfl) ?_
    refine lv_iconst (v := nI 1) hx hb dSt_rejectOnce_8 (by decide) ?_
    refine va_put (D := D) (ci := 2) (v := .int (nI 1)) (ty := .boolean) (C := RSt) (T := TSt) (N := 10) hx hb ht inSt tySt tySt_ok nmSt hown hE.1 hP hD hS 0 rfl rfl 9 (by decide) (ht _ tw_105) (fun _ h => h) rfl (by decide +kernel) rfl rfl (Nat.le_of_ble_eq_true rfl) dSt_rejectOnce_9 (fun H locs hP hD hS => ?_)
    have hP : va_P D cls_ [(h, .inr (2, [.ref ln, .ref pe, .ref ou, .ref cs, .int (nI lk), .int (nI sn), .int (nI ac), .int (nI ex), .int (nI tr), .int (nI 1)])), (pe, .inr (0, [.ref pea, .int (nI P.2)])), (pea, .inl (ca 0, 12, .inl (fun j => nI (P.1 j))))] H := hP
    have hD : va_D A [(h, .inr (2, [.ref ln, .ref pe, .ref ou, .ref cs, .int (nI lk), .int (nI sn), .int (nI ac), .int (nI ex), .int (nI tr), .int (nI 1)])), (pe, .inr (0, [.ref pea, .int (nI P.2)])), (pea, .inl (ca 0, 12, .inl (fun j => nI (P.1 j))))] := hD
    refine lv_aload_n hx hb dSt_rejectOnce_12 rfl (lv_at hl 0 rfl) ?_
    refine lv_iconst (v := nI 5) hx hb dSt_rejectOnce_13 (by decide) ?_
    refine kV (rV fx (c_St_sendAcknowledging l D ca h ln pe ou cs lk sn ac ex tr 1 pea P 5 (by omega) (by omega) (by first | assumption | exact rAdd_le (by assumption) | exact cPump_le (by assumption) | exact cAgain_le (by assumption) | exact cPump_le (cAgain_le (by assumption)) | omega)) ⟨callB_of 1 hts (tb_gi tw_368) rfl rfl rfl (ht _ tw_3) (ht _ tw_365) (by decide +kernel) ⟨(Nat.le_of_ble_eq_true rfl), (Nat.le_of_ble_eq_true rfl)⟩, ht _ tw_367, ht _ tw_838⟩ hE hP hD 0 rfl rfl rfl [0, 1, 2] rfl rfl rfl hl.1 rfl (Nat.le_of_ble_eq_true rfl) dSt_rejectOnce_14 ⟨(Nat.le_of_ble_eq_true rfl), (Nat.le_of_ble_eq_true rfl)⟩) hP hD hS hA [0, 1, 2] [] rfl rfl rfl (by decide) (fun _ H locs _ hP hD hS => ?_)
    have hP : va_P D cls_ [(h, .inr (2, [.ref ln, .ref pe, .ref ou, .ref cs, .int (nI lk), .int (nI sn), .int (nI ac), .int (nI ex), .int (nI tr), .int (nI 1)])), (pe, .inr (0, [.ref pea, .int (nI ((rAdd 12 P (fr4 5 0 ex 0)).2))])), (pea, .inl (ca 0, 12, .inl (fun j => nI (((rAdd 12 P (fr4 5 0 ex 0)).1) j))))] H := hP
    have hD : va_D A [(h, .inr (2, [.ref ln, .ref pe, .ref ou, .ref cs, .int (nI lk), .int (nI sn), .int (nI ac), .int (nI ex), .int (nI tr), .int (nI 1)])), (pe, .inr (0, [.ref pea, .int (nI ((rAdd 12 P (fr4 5 0 ex 0)).2))])), (pea, .inl (ca 0, 12, .inl (fun j => nI (((rAdd 12 P (fr4 5 0 ex 0)).1) j))))] := hD
    rw [sRej, if_pos (by omega)] at hres
    simp only [Prod.mk.injEq] at hres
    obtain ⟨rfl, rfl⟩ := hres
    exact Co.retv hx hb hret hlk dSt_rejectOnce_17 hS hP hD () rfl trivial rfl (Nat.le_of_ble_eq_true rfl) (Nat.le_of_ble_eq_true rfl)
