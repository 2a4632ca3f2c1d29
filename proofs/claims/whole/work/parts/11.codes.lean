set_option maxHeartbeats 4000000 in
set_option maxRecDepth 100000 in
theorem c_Pk_of (l : Launch) (D : va_G) (ca : Nat → ClassId) (kd cn nb ak dt : Nat) (h1 : kd < 16) (h2 : cn < 4) (h3 : nb < 8) (h4 : ak < 8) (h5 : dt < 512) : Co (S := Unit) l yPk_of (Cond.code yPk_of cPk_of 5 (some FieldType.int) :: tb_) { frames := 0, cells := 0, slots := 0, locals := 0 } D ca [.int (nI kd), .int (nI cn), .int (nI nb), .int (nI ak), .int (nI dt)] [] (fun _ => some (.int (nI (pk5 kd cn nb ak dt)))) (fun _ => True) (fun _ => []) 0 0 := by
  refine Co.of cPk_of 5 (some FieldType.int) (by decide) (Nat.le_of_ble_eq_true rfl) ?_
  intro p e s m args below meth c A ls fx hret hlk hin hE hP hD hS hA hl
  have hx := fx.1
  have hb := fx.2.1
  have hown : s.vm.findClass RPk = some m.cls := fx.2.2.2.1
  have hts := fx.2.2.2.2
  have ht : ∀ w ∈ tb_, w.before args s = true := fun w h => hts w (List.mem_cons_of_mem _ h)
  have hl : lv_has ls 5 [(0, .int (nI kd)), (1, .int (nI cn)), (2, .int (nI nb)), (3, .int (nI ak)), (4, .int (nI dt))] := hl
  refine lv_iload_n hx hb dPk_of_0 rfl (lv_at hl 0 rfl) ?_
  refine lv_bipush (v := nI 17) hx hb dPk_of_1 (by decide) ?_
  refine lv_ishl hx hb dPk_of_3 ?_
  refine lv_iload_n hx hb dPk_of_4 rfl (lv_at hl 1 rfl) ?_
  refine lv_bipush (v := nI 15) hx hb dPk_of_5 (by decide) ?_
  refine lv_ishl hx hb dPk_of_7 ?_
  refine lv_ior hx hb dPk_of_8 ?_
  refine lv_iload_n hx hb dPk_of_9 rfl (lv_at hl 2 rfl) ?_
  refine lv_bipush (v := nI 12) hx hb dPk_of_10 (by decide) ?_
  refine lv_ishl hx hb dPk_of_12 ?_
  refine lv_ior hx hb dPk_of_13 ?_
  refine lv_iload_n hx hb dPk_of_14 rfl (lv_at hl 3 rfl) ?_
  refine lv_bipush (v := nI 9) hx hb dPk_of_15 (by decide) ?_
  refine lv_ishl hx hb dPk_of_17 ?_
  refine lv_ior hx hb dPk_of_18 ?_
  refine lv_iload hx hb dPk_of_19 (lv_at hl 4 rfl) ?_
  refine lv_ior hx hb dPk_of_21 ?_
  refine k_is (y := nI (pk5 kd cn nb ak dt)) (n_pack h1 h2 h3 h4 h5) ?_
  exact Co.reti hx hb hret hlk dPk_of_22 hS hP hD () rfl trivial rfl (Nat.le_of_ble_eq_true rfl) (Nat.le_of_ble_eq_true rfl)
set_option maxHeartbeats 4000000 in
set_option maxRecDepth 100000 in
theorem c_Pk_bare (l : Launch) (D : va_G) (ca : Nat → ClassId) (kd cn : Nat) (h1 : kd < 16) (h2 : cn < 4) : Co (S := Unit) l yPk_bare (Cond.code yPk_bare cPk_bare 2 (some FieldType.int) :: tb_) { frames := 1, cells := 0, slots := 0, locals := 32 } D ca [.int (nI kd), .int (nI cn)] [] (fun _ => some (.int (nI (pk5 kd cn 0 0 0)))) (fun _ => True) (fun _ => []) 0 0 := by
  refine Co.of cPk_bare 2 (some FieldType.int) (by decide) (Nat.le_of_ble_eq_true rfl) ?_
  intro p e s m args below meth c A ls fx hret hlk hin hE hP hD hS hA hl
  have hx := fx.1
  have hb := fx.2.1
  have hown : s.vm.findClass RPk = some m.cls := fx.2.2.2.1
  have hts := fx.2.2.2.2
  have ht : ∀ w ∈ tb_, w.before args s = true := fun w h => hts w (List.mem_cons_of_mem _ h)
  have hl : lv_has ls 2 [(0, .int (nI kd)), (1, .int (nI cn))] := hl
  refine lv_iload_n hx hb dPk_bare_0 rfl (lv_at hl 0 rfl) ?_
  refine lv_iload_n hx hb dPk_bare_1 rfl (lv_at hl 1 rfl) ?_
  refine lv_iconst (v := nI 0) hx hb dPk_bare_2 (by decide) ?_
  refine lv_iconst (v := nI 0) hx hb dPk_bare_3 (by decide) ?_
  refine lv_iconst (v := nI 0) hx hb dPk_bare_4 (by decide) ?_
  refine kI (rS fx (c_Pk_of l D ca kd cn 0 0 0 (by omega) (by omega) (by omega) (by omega) (by omega)) ⟨callB_of 5 hts (tb_gi tw_428) rfl rfl rfl (ht _ tw_14) (ht _ tw_426) (by decide +kernel) ⟨(Nat.le_of_ble_eq_true rfl), (Nat.le_of_ble_eq_true rfl)⟩, ht _ tw_427⟩ hE hP hD [] rfl rfl rfl hl.1 rfl (Nat.le_of_ble_eq_true rfl) dPk_bare_5 ⟨(Nat.le_of_ble_eq_true rfl), (Nat.le_of_ble_eq_true rfl)⟩) hP hD hS hA [] [] rfl rfl rfl (by decide) (fun _ H locs _ hP hD hS => ?_)
  have hP : va_P D cls_ [] H := hP
  have hD : va_D A [] := hD
  exact Co.reti hx hb hret hlk dPk_bare_8 hS hP hD () rfl trivial rfl (Nat.le_of_ble_eq_true rfl) (Nat.le_of_ble_eq_true rfl)
set_option maxHeartbeats 4000000 in
set_option maxRecDepth 100000 in
theorem c_Pk_kindOf (l : Launch) (D : va_G) (ca : Nat → ClassId) (pk : Nat) (h1 : pk < 2 ^ 31) : Co (S := Unit) l yPk_kindOf (Cond.code yPk_kindOf cPk_kindOf 1 (some FieldType.int) :: tb_) { frames := 0, cells := 0, slots := 0, locals := 0 } D ca [.int (nI pk)] [] (fun _ => some (.int (nI (pKind pk)))) (fun _ => True) (fun _ => []) 0 0 := by
  refine Co.of cPk_kindOf 1 (some FieldType.int) (by decide) (Nat.le_of_ble_eq_true rfl) ?_
  intro p e s m args below meth c A ls fx hret hlk hin hE hP hD hS hA hl
  have hx := fx.1
  have hb := fx.2.1
  have hown : s.vm.findClass RPk = some m.cls := fx.2.2.2.1
  have hts := fx.2.2.2.2
  have ht : ∀ w ∈ tb_, w.before args s = true := fun w h => hts w (List.mem_cons_of_mem _ h)
  have hl : lv_has ls 1 [(0, .int (nI pk))] := hl
  refine lv_iload_n hx hb dPk_kindOf_0 rfl (lv_at hl 0 rfl) ?_
  refine lv_bipush (v := nI 17) hx hb dPk_kindOf_1 (by decide) ?_
  refine lv_ishr hx hb dPk_kindOf_3 ?_
  refine lv_bipush (v := nI 15) hx hb dPk_kindOf_4 (by decide) ?_
  refine lv_iand hx hb dPk_kindOf_6 ?_
  refine k_is (y := nI (pKind pk)) (n_field (x := pk) h1 (nI 17 &&& 31) 17 (by decide) (nI 15) 4 (by decide)) ?_
  exact Co.reti hx hb hret hlk dPk_kindOf_7 hS hP hD () rfl trivial rfl (Nat.le_of_ble_eq_true rfl) (Nat.le_of_ble_eq_true rfl)
set_option maxHeartbeats 4000000 in
set_option maxRecDepth 100000 in
theorem c_Pk_channelOf (l : Launch) (D : va_G) (ca : Nat → ClassId) (pk : Nat) (h1 : pk < 2 ^ 31) : Co (S := Unit) l yPk_channelOf (Cond.code yPk_channelOf cPk_channelOf 1 (some FieldType.int) :: tb_) { frames := 0, cells := 0, slots := 0, locals := 0 } D ca [.int (nI pk)] [] (fun _ => some (.int (nI (pChan pk)))) (fun _ => True) (fun _ => []) 0 0 := by
  refine Co.of cPk_channelOf 1 (some FieldType.int) (by decide) (Nat.le_of_ble_eq_true rfl) ?_
  intro p e s m args below meth c A ls fx hret hlk hin hE hP hD hS hA hl
  have hx := fx.1
  have hb := fx.2.1
  have hown : s.vm.findClass RPk = some m.cls := fx.2.2.2.1
  have hts := fx.2.2.2.2
  have ht : ∀ w ∈ tb_, w.before args s = true := fun w h => hts w (List.mem_cons_of_mem _ h)
  have hl : lv_has ls 1 [(0, .int (nI pk))] := hl
  refine lv_iload_n hx hb dPk_channelOf_0 rfl (lv_at hl 0 rfl) ?_
  refine lv_bipush (v := nI 15) hx hb dPk_channelOf_1 (by decide) ?_
  refine lv_ishr hx hb dPk_channelOf_3 ?_
  refine lv_iconst (v := nI 3) hx hb dPk_channelOf_4 (by decide) ?_
  refine lv_iand hx hb dPk_channelOf_5 ?_
  refine k_is (y := nI (pChan pk)) (n_field (x := pk) h1 (nI 15 &&& 31) 15 (by decide) (nI 3) 2 (by decide)) ?_
  exact Co.reti hx hb hret hlk dPk_channelOf_6 hS hP hD () rfl trivial rfl (Nat.le_of_ble_eq_true rfl) (Nat.le_of_ble_eq_true rfl)
set_option maxHeartbeats 4000000 in
set_option maxRecDepth 100000 in
theorem c_Pk_numberOf (l : Launch) (D : va_G) (ca : Nat → ClassId) (pk : Nat) (h1 : pk < 2 ^ 31) : Co (S := Unit) l yPk_numberOf (Cond.code yPk_numberOf cPk_numberOf 1 (some FieldType.int) :: tb_) { frames := 0, cells := 0, slots := 0, locals := 0 } D ca [.int (nI pk)] [] (fun _ => some (.int (nI (pNumb pk)))) (fun _ => True) (fun _ => []) 0 0 := by
  refine Co.of cPk_numberOf 1 (some FieldType.int) (by decide) (Nat.le_of_ble_eq_true rfl) ?_
  intro p e s m args below meth c A ls fx hret hlk hin hE hP hD hS hA hl
  have hx := fx.1
  have hb := fx.2.1
  have hown : s.vm.findClass RPk = some m.cls := fx.2.2.2.1
  have hts := fx.2.2.2.2
  have ht : ∀ w ∈ tb_, w.before args s = true := fun w h => hts w (List.mem_cons_of_mem _ h)
  have hl : lv_has ls 1 [(0, .int (nI pk))] := hl
  refine lv_iload_n hx hb dPk_numberOf_0 rfl (lv_at hl 0 rfl) ?_
  refine lv_bipush (v := nI 12) hx hb dPk_numberOf_1 (by decide) ?_
  refine lv_ishr hx hb dPk_numberOf_3 ?_
  refine lv_bipush (v := nI 7) hx hb dPk_numberOf_4 (by decide) ?_
  refine lv_iand hx hb dPk_numberOf_6 ?_
  refine k_is (y := nI (pNumb pk)) (n_field (x := pk) h1 (nI 12 &&& 31) 12 (by decide) (nI 7) 3 (by decide)) ?_
  exact Co.reti hx hb hret hlk dPk_numberOf_7 hS hP hD () rfl trivial rfl (Nat.le_of_ble_eq_true rfl) (Nat.le_of_ble_eq_true rfl)
set_option maxHeartbeats 4000000 in
set_option maxRecDepth 100000 in
theorem c_Pk_acknowledgementOf (l : Launch) (D : va_G) (ca : Nat → ClassId) (pk : Nat) (h1 : pk < 2 ^ 31) : Co (S := Unit) l yPk_acknowledgementOf (Cond.code yPk_acknowledgementOf cPk_acknowledgementOf 1 (some FieldType.int) :: tb_) { frames := 0, cells := 0, slots := 0, locals := 0 } D ca [.int (nI pk)] [] (fun _ => some (.int (nI (pAckn pk)))) (fun _ => True) (fun _ => []) 0 0 := by
  refine Co.of cPk_acknowledgementOf 1 (some FieldType.int) (by decide) (Nat.le_of_ble_eq_true rfl) ?_
  intro p e s m args below meth c A ls fx hret hlk hin hE hP hD hS hA hl
  have hx := fx.1
  have hb := fx.2.1
  have hown : s.vm.findClass RPk = some m.cls := fx.2.2.2.1
  have hts := fx.2.2.2.2
  have ht : ∀ w ∈ tb_, w.before args s = true := fun w h => hts w (List.mem_cons_of_mem _ h)
  have hl : lv_has ls 1 [(0, .int (nI pk))] := hl
  refine lv_iload_n hx hb dPk_acknowledgementOf_0 rfl (lv_at hl 0 rfl) ?_
  refine lv_bipush (v := nI 9) hx hb dPk_acknowledgementOf_1 (by decide) ?_
  refine lv_ishr hx hb dPk_acknowledgementOf_3 ?_
  refine lv_bipush (v := nI 7) hx hb dPk_acknowledgementOf_4 (by decide) ?_
  refine lv_iand hx hb dPk_acknowledgementOf_6 ?_
  refine k_is (y := nI (pAckn pk)) (n_field (x := pk) h1 (nI 9 &&& 31) 9 (by decide) (nI 7) 3 (by decide)) ?_
  exact Co.reti hx hb hret hlk dPk_acknowledgementOf_7 hS hP hD () rfl trivial rfl (Nat.le_of_ble_eq_true rfl) (Nat.le_of_ble_eq_true rfl)
set_option maxHeartbeats 4000000 in
set_option maxRecDepth 100000 in
theorem c_Pk_dataOf (l : Launch) (D : va_G) (ca : Nat → ClassId) (pk : Nat) (h1 : pk < 2 ^ 31) : Co (S := Unit) l yPk_dataOf (Cond.code yPk_dataOf cPk_dataOf 1 (some FieldType.int) :: tb_) { frames := 0, cells := 0, slots := 0, locals := 0 } D ca [.int (nI pk)] [] (fun _ => some (.int (nI (pData pk)))) (fun _ => True) (fun _ => []) 0 0 := by
  refine Co.of cPk_dataOf 1 (some FieldType.int) (by decide) (Nat.le_of_ble_eq_true rfl) ?_
  intro p e s m args below meth c A ls fx hret hlk hin hE hP hD hS hA hl
  have hx := fx.1
  have hb := fx.2.1
  have hown : s.vm.findClass RPk = some m.cls := fx.2.2.2.1
  have hts := fx.2.2.2.2
  have ht : ∀ w ∈ tb_, w.before args s = true := fun w h => hts w (List.mem_cons_of_mem _ h)
  have hl : lv_has ls 1 [(0, .int (nI pk))] := hl
  refine lv_iload_n hx hb dPk_dataOf_0 rfl (lv_at hl 0 rfl) ?_
  refine lv_sipush (v := nI 511) hx hb dPk_dataOf_1 (by decide) ?_
  refine lv_iand hx hb dPk_dataOf_4 ?_
  refine k_is (y := nI (pData pk)) (pk_andN (n := pk) (m := nI 511) (by omega) 9 (by decide)) ?_
  exact Co.reti hx hb hret hlk dPk_dataOf_5 hS hP hD () rfl trivial rfl (Nat.le_of_ble_eq_true rfl) (Nat.le_of_ble_eq_true rfl)
set_option maxHeartbeats 4000000 in
set_option maxRecDepth 100000 in
theorem c_Fr_of (l : Launch) (D : va_G) (ca : Nat → ClassId) (kd nb ak pk : Nat) (h1 : kd < 8) (h2 : nb < 8) (h3 : ak < 8) (h4 : pk < 2097152) : Co (S := Unit) l yFr_of (Cond.code yFr_of cFr_of 4 (some FieldType.int) :: tb_) { frames := 0, cells := 0, slots := 0, locals := 0 } D ca [.int (nI kd), .int (nI nb), .int (nI ak), .int (nI pk)] [] (fun _ => some (.int (nI (fr4 kd nb ak pk)))) (fun _ => True) (fun _ => []) 0 0 := by
  refine Co.of cFr_of 4 (some FieldType.int) (by decide) (Nat.le_of_ble_eq_true rfl) ?_
  intro p e s m args below meth c A ls fx hret hlk hin hE hP hD hS hA hl
  have hx := fx.1
  have hb := fx.2.1
  have hown : s.vm.findClass RFr = some m.cls := fx.2.2.2.1
  have hts := fx.2.2.2.2
  have ht : ∀ w ∈ tb_, w.before args s = true := fun w h => hts w (List.mem_cons_of_mem _ h)
  have hl : lv_has ls 4 [(0, .int (nI kd)), (1, .int (nI nb)), (2, .int (nI ak)), (3, .int (nI pk))] := hl
  refine lv_iload_n hx hb dFr_of_0 rfl (lv_at hl 0 rfl) ?_
  refine lv_bipush (v := nI 27) hx hb dFr_of_1 (by decide) ?_
  refine lv_ishl hx hb dFr_of_3 ?_
  refine lv_iload_n hx hb dFr_of_4 rfl (lv_at hl 1 rfl) ?_
  refine lv_bipush (v := nI 24) hx hb dFr_of_5 (by decide) ?_
  refine lv_ishl hx hb dFr_of_7 ?_
  refine lv_ior hx hb dFr_of_8 ?_
  refine lv_iload_n hx hb dFr_of_9 rfl (lv_at hl 2 rfl) ?_
  refine lv_bipush (v := nI 21) hx hb dFr_of_10 (by decide) ?_
  refine lv_ishl hx hb dFr_of_12 ?_
  refine lv_ior hx hb dFr_of_13 ?_
  refine lv_iload_n hx hb dFr_of_14 rfl (lv_at hl 3 rfl) ?_
  refine lv_ior hx hb dFr_of_15 ?_
  refine k_is (y := nI (fr4 kd nb ak pk)) (n_frame h1 h2 h3 h4) ?_
  exact Co.reti hx hb hret hlk dFr_of_16 hS hP hD () rfl trivial rfl (Nat.le_of_ble_eq_true rfl) (Nat.le_of_ble_eq_true rfl)
set_option maxHeartbeats 4000000 in
set_option maxRecDepth 100000 in
theorem c_Fr_kindOf (l : Launch) (D : va_G) (ca : Nat → ClassId) (pk : Nat) (h1 : pk < 2 ^ 31) : Co (S := Unit) l yFr_kindOf (Cond.code yFr_kindOf cFr_kindOf 1 (some FieldType.int) :: tb_) { frames := 0, cells := 0, slots := 0, locals := 0 } D ca [.int (nI pk)] [] (fun _ => some (.int (nI (fKind pk)))) (fun _ => True) (fun _ => []) 0 0 := by
  refine Co.of cFr_kindOf 1 (some FieldType.int) (by decide) (Nat.le_of_ble_eq_true rfl) ?_
  intro p e s m args below meth c A ls fx hret hlk hin hE hP hD hS hA hl
  have hx := fx.1
  have hb := fx.2.1
  have hown : s.vm.findClass RFr = some m.cls := fx.2.2.2.1
  have hts := fx.2.2.2.2
  have ht : ∀ w ∈ tb_, w.before args s = true := fun w h => hts w (List.mem_cons_of_mem _ h)
  have hl : lv_has ls 1 [(0, .int (nI pk))] := hl
  refine lv_iload_n hx hb dFr_kindOf_0 rfl (lv_at hl 0 rfl) ?_
  refine lv_bipush (v := nI 27) hx hb dFr_kindOf_1 (by decide) ?_
  refine lv_ishr hx hb dFr_kindOf_3 ?_
  refine lv_bipush (v := nI 7) hx hb dFr_kindOf_4 (by decide) ?_
  refine lv_iand hx hb dFr_kindOf_6 ?_
  refine k_is (y := nI (fKind pk)) (n_field (x := pk) h1 (nI 27 &&& 31) 27 (by decide) (nI 7) 3 (by decide)) ?_
  exact Co.reti hx hb hret hlk dFr_kindOf_7 hS hP hD () rfl trivial rfl (Nat.le_of_ble_eq_true rfl) (Nat.le_of_ble_eq_true rfl)
set_option maxHeartbeats 4000000 in
set_option maxRecDepth 100000 in
theorem c_Fr_numberOf (l : Launch) (D : va_G) (ca : Nat → ClassId) (pk : Nat) (h1 : pk < 2 ^ 31) : Co (S := Unit) l yFr_numberOf (Cond.code yFr_numberOf cFr_numberOf 1 (some FieldType.int) :: tb_) { frames := 0, cells := 0, slots := 0, locals := 0 } D ca [.int (nI pk)] [] (fun _ => some (.int (nI (fNumb pk)))) (fun _ => True) (fun _ => []) 0 0 := by
  refine Co.of cFr_numberOf 1 (some FieldType.int) (by decide) (Nat.le_of_ble_eq_true rfl) ?_
  intro p e s m args below meth c A ls fx hret hlk hin hE hP hD hS hA hl
  have hx := fx.1
  have hb := fx.2.1
  have hown : s.vm.findClass RFr = some m.cls := fx.2.2.2.1
  have hts := fx.2.2.2.2
  have ht : ∀ w ∈ tb_, w.before args s = true := fun w h => hts w (List.mem_cons_of_mem _ h)
  have hl : lv_has ls 1 [(0, .int (nI pk))] := hl
  refine lv_iload_n hx hb dFr_numberOf_0 rfl (lv_at hl 0 rfl) ?_
  refine lv_bipush (v := nI 24) hx hb dFr_numberOf_1 (by decide) ?_
  refine lv_ishr hx hb dFr_numberOf_3 ?_
  refine lv_bipush (v := nI 7) hx hb dFr_numberOf_4 (by decide) ?_
  refine lv_iand hx hb dFr_numberOf_6 ?_
  refine k_is (y := nI (fNumb pk)) (n_field (x := pk) h1 (nI 24 &&& 31) 24 (by decide) (nI 7) 3 (by decide)) ?_
  exact Co.reti hx hb hret hlk dFr_numberOf_7 hS hP hD () rfl trivial rfl (Nat.le_of_ble_eq_true rfl) (Nat.le_of_ble_eq_true rfl)
set_option maxHeartbeats 4000000 in
set_option maxRecDepth 100000 in
theorem c_Fr_acknowledgementOf (l : Launch) (D : va_G) (ca : Nat → ClassId) (pk : Nat) (h1 : pk < 2 ^ 31) : Co (S := Unit) l yFr_acknowledgementOf (Cond.code yFr_acknowledgementOf cFr_acknowledgementOf 1 (some FieldType.int) :: tb_) { frames := 0, cells := 0, slots := 0, locals := 0 } D ca [.int (nI pk)] [] (fun _ => some (.int (nI (fAckn pk)))) (fun _ => True) (fun _ => []) 0 0 := by
  refine Co.of cFr_acknowledgementOf 1 (some FieldType.int) (by decide) (Nat.le_of_ble_eq_true rfl) ?_
  intro p e s m args below meth c A ls fx hret hlk hin hE hP hD hS hA hl
  have hx := fx.1
  have hb := fx.2.1
  have hown : s.vm.findClass RFr = some m.cls := fx.2.2.2.1
  have hts := fx.2.2.2.2
  have ht : ∀ w ∈ tb_, w.before args s = true := fun w h => hts w (List.mem_cons_of_mem _ h)
  have hl : lv_has ls 1 [(0, .int (nI pk))] := hl
  refine lv_iload_n hx hb dFr_acknowledgementOf_0 rfl (lv_at hl 0 rfl) ?_
  refine lv_bipush (v := nI 21) hx hb dFr_acknowledgementOf_1 (by decide) ?_
  refine lv_ishr hx hb dFr_acknowledgementOf_3 ?_
  refine lv_bipush (v := nI 7) hx hb dFr_acknowledgementOf_4 (by decide) ?_
  refine lv_iand hx hb dFr_acknowledgementOf_6 ?_
  refine k_is (y := nI (fAckn pk)) (n_field (x := pk) h1 (nI 21 &&& 31) 21 (by decide) (nI 7) 3 (by decide)) ?_
  exact Co.reti hx hb hret hlk dFr_acknowledgementOf_7 hS hP hD () rfl trivial rfl (Nat.le_of_ble_eq_true rfl) (Nat.le_of_ble_eq_true rfl)
set_option maxHeartbeats 4000000 in
set_option maxRecDepth 100000 in
theorem c_Fr_packetOf (l : Launch) (D : va_G) (ca : Nat → ClassId) (pk : Nat) (h1 : pk < 2 ^ 31) : Co (S := Unit) l yFr_packetOf (Cond.code yFr_packetOf cFr_packetOf 1 (some FieldType.int) :: tb_) { frames := 0, cells := 0, slots := 0, locals := 0 } D ca [.int (nI pk)] [] (fun _ => some (.int (nI (fPack pk)))) (fun _ => True) (fun _ => []) 0 0 := by
  refine Co.of cFr_packetOf 1 (some FieldType.int) (by decide) (Nat.le_of_ble_eq_true rfl) ?_
  intro p e s m args below meth c A ls fx hret hlk hin hE hP hD hS hA hl
  have hx := fx.1
  have hb := fx.2.1
  have hown : s.vm.findClass RFr = some m.cls := fx.2.2.2.1
  have hts := fx.2.2.2.2
  have ht : ∀ w ∈ tb_, w.before args s = true := fun w h => hts w (List.mem_cons_of_mem _ h)
  have hl : lv_has ls 1 [(0, .int (nI pk))] := hl
  refine lv_iload_n hx hb dFr_packetOf_0 rfl (lv_at hl 0 rfl) ?_
  refine lv_ldc (v := nI 2097151) hx hb hown (ht _ tw_372) dFr_packetOf_1 ?_
  refine lv_iand hx hb dFr_packetOf_3 ?_
  refine k_is (y := nI (fPack pk)) (pk_andN (n := pk) (m := nI 2097151) (by omega) 21 (by decide)) ?_
  exact Co.reti hx hb hret hlk dFr_packetOf_4 hS hP hD () rfl trivial rfl (Nat.le_of_ble_eq_true rfl) (Nat.le_of_ble_eq_true rfl)
set_option maxHeartbeats 4000000 in
set_option maxRecDepth 100000 in
theorem c_Cl_after (l : Launch) (D : va_G) (ca : Nat → ClassId) (nb : Nat) (h1 : nb < 8) : Co (S := Unit) l yCl_after (Cond.code yCl_after cCl_after 1 (some FieldType.int) :: tb_) { frames := 0, cells := 0, slots := 0, locals := 0 } D ca [.int (nI nb)] [] (fun _ => some (.int (nI (af nb)))) (fun _ => True) (fun _ => []) 0 0 := by
  refine Co.of cCl_after 1 (some FieldType.int) (by decide) (Nat.le_of_ble_eq_true rfl) ?_
  intro p e s m args below meth c A ls fx hret hlk hin hE hP hD hS hA hl
  have hx := fx.1
  have hb := fx.2.1
  have hown : s.vm.findClass RCl = some m.cls := fx.2.2.2.1
  have hts := fx.2.2.2.2
  have ht : ∀ w ∈ tb_, w.before args s = true := fun w h => hts w (List.mem_cons_of_mem _ h)
  have hl : lv_has ls 1 [(0, .int (nI nb))] := hl
  refine lv_iload_n hx hb dCl_after_0 rfl (lv_at hl 0 rfl) ?_
  refine lv_iconst (v := nI 1) hx hb dCl_after_1 (by decide) ?_
  refine k_iadd hx hb dCl_after_2 ?_
  refine lv_bipush (v := nI 7) hx hb dCl_after_3 (by decide) ?_
  refine lv_iand hx hb dCl_after_5 ?_
  refine k_is (y := nI (af nb)) (n_after h1) ?_
  exact Co.reti hx hb hret hlk dCl_after_6 hS hP hD () rfl trivial rfl (Nat.le_of_ble_eq_true rfl) (Nat.le_of_ble_eq_true rfl)
set_option maxHeartbeats 4000000 in
set_option maxRecDepth 100000 in
theorem c_Cl_distance (l : Launch) (D : va_G) (ca : Nat → ClassId) (fm to : Nat) (h1 : fm < 8) (h2 : to < 8) : Co (S := Unit) l yCl_distance (Cond.code yCl_distance cCl_distance 2 (some FieldType.int) :: tb_) { frames := 0, cells := 0, slots := 0, locals := 0 } D ca [.int (nI fm), .int (nI to)] [] (fun _ => some (.int (nI (ds fm to)))) (fun _ => True) (fun _ => []) 0 0 := by
  refine Co.of cCl_distance 2 (some FieldType.int) (by decide) (Nat.le_of_ble_eq_true rfl) ?_
  intro p e s m args below meth c A ls fx hret hlk hin hE hP hD hS hA hl
  have hx := fx.1
  have hb := fx.2.1
  have hown : s.vm.findClass RCl = some m.cls := fx.2.2.2.1
  have hts := fx.2.2.2.2
  have ht : ∀ w ∈ tb_, w.before args s = true := fun w h => hts w (List.mem_cons_of_mem _ h)
  have hl : lv_has ls 2 [(0, .int (nI fm)), (1, .int (nI to))] := hl
  refine lv_iload_n hx hb dCl_distance_0 rfl (lv_at hl 1 rfl) ?_
  refine lv_iload_n hx hb dCl_distance_1 rfl (lv_at hl 0 rfl) ?_
  refine lv_isub hx hb dCl_distance_2 ?_
  refine lv_bipush (v := nI 7) hx hb dCl_distance_3 (by decide) ?_
  refine lv_iand hx hb dCl_distance_5 ?_
  refine k_is (y := nI (ds fm to)) (n_dist fm h1 to h2) ?_
  exact Co.reti hx hb hret hlk dCl_distance_6 hS hP hD () rfl trivial rfl (Nat.le_of_ble_eq_true rfl) (Nat.le_of_ble_eq_true rfl)
set_option maxHeartbeats 4000000 in
set_option maxRecDepth 100000 in
theorem c_Cl_isChannel (l : Launch) (D : va_G) (ca : Nat → ClassId) (cn : Nat) (h1 : cn < 2 ^ 31) : Co (S := Unit) l yCl_isChannel (Cond.code yCl_isChannel cCl_isChannel 1 (some FieldType.boolean) :: tb_) { frames := 0, cells := 0, slots := 0, locals := 0 } D ca [.int (nI cn)] [] (fun _ => some (.int (nI (if cn < 3 then 1 else 0)))) (fun _ => True) (fun _ => []) 0 0 := by
  refine Co.of cCl_isChannel 1 (some FieldType.boolean) (by decide) (Nat.le_of_ble_eq_true rfl) ?_
  intro p e s m args below meth c A ls fx hret hlk hin hE hP hD hS hA hl
  have hx := fx.1
  have hb := fx.2.1
  have hown : s.vm.findClass RCl = some m.cls := fx.2.2.2.1
  have hts := fx.2.2.2.2
  have ht : ∀ w ∈ tb_, w.before args s = true := fun w h => hts w (List.mem_cons_of_mem _ h)
  have hl : lv_has ls 1 [(0, .int (nI cn))] := hl
  refine lv_iload_n hx hb dCl_isChannel_0 rfl (lv_at hl 0 rfl) ?_
  refine k_if_lt (tgt := 13) hx hb (by omega) dCl_isChannel_1 rfl ?_
  refine lv_iload_n hx hb dCl_isChannel_4 rfl (lv_at hl 0 rfl) ?_
  refine lv_iconst (v := nI 3) hx hb dCl_isChannel_5 (by decide) ?_
  refine k_icmp_ge (tgt := 13) hx hb (by omega) (by omega) dCl_isChannel_6 rfl (fun h6 => ?_) (fun h6 => ?_)
  · refine lv_iconst (v := nI 0) hx hb dCl_isChannel_13 (by decide) ?_
    exact Co.retz hx hb hret hlk (by first | rfl | decide) dCl_isChannel_14 hS hP hD () (by rw [if_neg (by omega)]) trivial rfl (Nat.le_of_ble_eq_true rfl) (Nat.le_of_ble_eq_true rfl)
  · refine lv_iconst (v := nI 1) hx hb dCl_isChannel_9 (by decide) ?_
    refine lv_goto (tgt := 14) hx hb dCl_isChannel_10 rfl ?_
    exact Co.retz hx hb hret hlk (by first | rfl | decide) dCl_isChannel_14 hS hP hD () (by rw [if_pos (by omega)]) trivial rfl (Nat.le_of_ble_eq_true rfl) (Nat.le_of_ble_eq_true rfl)
set_option maxHeartbeats 4000000 in
set_option maxRecDepth 100000 in
theorem c_Cl_isNumber (l : Launch) (D : va_G) (ca : Nat → ClassId) (cn : Nat) (h1 : cn < 2 ^ 31) : Co (S := Unit) l yCl_isNumber (Cond.code yCl_isNumber cCl_isNumber 1 (some FieldType.boolean) :: tb_) { frames := 0, cells := 0, slots := 0, locals := 0 } D ca [.int (nI cn)] [] (fun _ => some (.int (nI (if cn < 8 then 1 else 0)))) (fun _ => True) (fun _ => []) 0 0 := by
  refine Co.of cCl_isNumber 1 (some FieldType.boolean) (by decide) (Nat.le_of_ble_eq_true rfl) ?_
  intro p e s m args below meth c A ls fx hret hlk hin hE hP hD hS hA hl
  have hx := fx.1
  have hb := fx.2.1
  have hown : s.vm.findClass RCl = some m.cls := fx.2.2.2.1
  have hts := fx.2.2.2.2
  have ht : ∀ w ∈ tb_, w.before args s = true := fun w h => hts w (List.mem_cons_of_mem _ h)
  have hl : lv_has ls 1 [(0, .int (nI cn))] := hl
  refine lv_iload_n hx hb dCl_isNumber_0 rfl (lv_at hl 0 rfl) ?_
  refine k_if_lt (tgt := 14) hx hb (by omega) dCl_isNumber_1 rfl ?_
  refine lv_iload_n hx hb dCl_isNumber_4 rfl (lv_at hl 0 rfl) ?_
  refine lv_bipush (v := nI 7) hx hb dCl_isNumber_5 (by decide) ?_
  refine k_icmp_gt (tgt := 14) hx hb (by omega) (by omega) dCl_isNumber_7 rfl (fun h7 => ?_) (fun h7 => ?_)
  · refine lv_iconst (v := nI 0) hx hb dCl_isNumber_14 (by decide) ?_
    exact Co.retz hx hb hret hlk (by first | rfl | decide) dCl_isNumber_15 hS hP hD () (by rw [if_neg (by omega)]) trivial rfl (Nat.le_of_ble_eq_true rfl) (Nat.le_of_ble_eq_true rfl)
  · refine lv_iconst (v := nI 1) hx hb dCl_isNumber_10 (by decide) ?_
    refine lv_goto (tgt := 15) hx hb dCl_isNumber_11 rfl ?_
    exact Co.retz hx hb hret hlk (by first | rfl | decide) dCl_isNumber_15 hS hP hD () (by rw [if_pos (by omega)]) trivial rfl (Nat.le_of_ble_eq_true rfl) (Nat.le_of_ble_eq_true rfl)
