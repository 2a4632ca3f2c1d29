set_option maxHeartbeats 4000000 in
set_option maxRecDepth 100000 in
theorem c_Ch_renewAs (l : Launch) (D : va_G) (ca : Nat → ClassId) (q d da y st nx pa du ta : Nat) (r : Rw_) (ns : Nat) : Co (S := Unit) l yCh_renewAs (Cond.code yCh_renewAs cCh_renewAs 2 none :: tb_) { frames := 0, cells := 0, slots := 0, locals := 0 } D ca [.ref q, .int (nI ns)] [(q, .inr (1, [.int (nI y), .ref d, .int (nI st), .int (nI nx), .int (nI pa), .int (nI du), .int (nI ta)])), (d, .inr (0, [.ref da, .int (nI r.2)])), (da, .inl (ca 0, 2, .inl (fun j => nI (r.1 j))))] (fun _ => none) (fun _ => True) (fun _ => [(q, .inr (1, [.int (nI y), .ref d, .int (nI ns), .int (nI 0), .int (nI 0), .int (nI 0), .int (nI 0)])), (d, .inr (0, [.ref da, .int (nI ((rNone r).2))])), (da, .inl (ca 0, 2, .inl (fun j => nI (((rNone r).1) j))))]) 0 0 := by
  refine Co.of cCh_renewAs 2 none (by decide) (Nat.le_of_ble_eq_true rfl) ?_
  intro p e s m args below meth c A ls fx hret hlk hin hE hP hD hS hA hl
  have hx := fx.1
  have hb := fx.2.1
  have hown : s.vm.findClass RCh = some m.cls := fx.2.2.2.1
  have hts := fx.2.2.2.2
  have ht : ∀ w ∈ tb_, w.before args s = true := fun w h => hts w (List.mem_cons_of_mem _ h)
  have hl : lv_has ls 2 [(0, .ref q), (1, .int (nI ns))] := hl
  refine lv_aload_n hx hb dCh_renewAs_0 rfl (lv_at hl 0 rfl) ?_
  refine lv_iload_n hx hb dCh_renewAs_1 rfl (lv_at hl 1 rfl) ?_
  refine va_put (D := D) (ci := 1) (v := .int (nI ns)) (ty := .int) (C := RCh) (T := TCh) (N := 7) hx hb ht inCh tyCh tyCh_ok nmCh hown hE.1 hP hD hS 0 rfl rfl 2 (by decide) (ht _ tw_63) (fun _ h => h) rfl (by decide +kernel) rfl rfl (Nat.le_of_ble_eq_true rfl) dCh_renewAs_2 (fun H locs hP hD hS => ?_)
  have hP : va_P D cls_ [(q, .inr (1, [.int (nI y), .ref d, .int (nI ns), .int (nI nx), .int (nI pa), .int (nI du), .int (nI ta)])), (d, .inr (0, [.ref da, .int (nI r.2)])), (da, .inl (ca 0, 2, .inl (fun j => nI (r.1 j))))] H := hP
  have hD : va_D A [(q, .inr (1, [.int (nI y), .ref d, .int (nI ns), .int (nI nx), .int (nI pa), .int (nI du), .int (nI ta)])), (d, .inr (0, [.ref da, .int (nI r.2)])), (da, .inl (ca 0, 2, .inl (fun j => nI (r.1 j))))] := hD
  refine lv_aload_n hx hb dCh_renewAs_5 rfl (lv_at hl 0 rfl) ?_
  refine lv_iconst (v := nI 0) hx hb dCh_renewAs_6 (by decide) ?_
  refine va_put (D := D) (ci := 1) (v := .int (nI 0)) (ty := .int) (C := RCh) (T := TCh) (N := 7) hx hb ht inCh tyCh tyCh_ok nmCh hown hE.1 hP hD hS 0 rfl rfl 3 (by decide) (ht _ tw_65) (fun _ h => h) rfl (by decide +kernel) rfl rfl (Nat.le_of_ble_eq_true rfl) dCh_renewAs_7 (fun H locs hP hD hS => ?_)
  have hP : va_P D cls_ [(q, .inr (1, [.int (nI y), .ref d, .int (nI ns), .int (nI 0), .int (nI pa), .int (nI du), .int (nI ta)])), (d, .inr (0, [.ref da, .int (nI r.2)])), (da, .inl (ca 0, 2, .inl (fun j => nI (r.1 j))))] H := hP
  have hD : va_D A [(q, .inr (1, [.int (nI y), .ref d, .int (nI ns), .int (nI 0), .int (nI pa), .int (nI du), .int (nI ta)])), (d, .inr (0, [.ref da, .int (nI r.2)])), (da, .inl (ca 0, 2, .inl (fun j => nI (r.1 j))))] := hD
  refine lv_aload_n hx hb dCh_renewAs_10 rfl (lv_at hl 0 rfl) ?_
  refine lv_iconst (v := nI 0) hx hb dCh_renewAs_11 (by decide) ?_
  refine va_put (D := D) (ci := 1) (v := .int (nI 0)) (ty := .int) (C := RCh) (T := TCh) (N := 7) hx hb ht inCh tyCh tyCh_ok nmCh hown hE.1 hP hD hS 0 rfl rfl 4 (by decide) (ht _ tw_67) (fun _ h => h) rfl (by decide +kernel) rfl rfl (Nat.le_of_ble_eq_true rfl) dCh_renewAs_12 (fun H locs hP hD hS => ?_)
  have hP : va_P D cls_ [(q, .inr (1, [.int (nI y), .ref d, .int (nI ns), .int (nI 0), .int (nI 0), .int (nI du), .int (nI ta)])), (d, .inr (0, [.ref da, .int (nI r.2)])), (da, .inl (ca 0, 2, .inl (fun j => nI (r.1 j))))] H := hP
  have hD : va_D A [(q, .inr (1, [.int (nI y), .ref d, .int (nI ns), .int (nI 0), .int (nI 0), .int (nI du), .int (nI ta)])), (d, .inr (0, [.ref da, .int (nI r.2)])), (da, .inl (ca 0, 2, .inl (fun j => nI (r.1 j))))] := hD
  refine lv_aload_n hx hb dCh_renewAs_15 rfl (lv_at hl 0 rfl) ?_
  refine lv_iconst (v := nI 0) hx hb dCh_renewAs_16 (by decide) ?_
  refine va_put (D := D) (ci := 1) (v := .int (nI 0)) (ty := .int) (C := RCh) (T := TCh) (N := 7) hx hb ht inCh tyCh tyCh_ok nmCh hown hE.1 hP hD hS 0 rfl rfl 5 (by decide) (ht _ tw_69) (fun _ h => h) rfl (by decide +kernel) rfl rfl (Nat.le_of_ble_eq_true rfl) dCh_renewAs_17 (fun H locs hP hD hS => ?_)
  have hP : va_P D cls_ [(q, .inr (1, [.int (nI y), .ref d, .int (nI ns), .int (nI 0), .int (nI 0), .int (nI 0), .int (nI ta)])), (d, .inr (0, [.ref da, .int (nI r.2)])), (da, .inl (ca 0, 2, .inl (fun j => nI (r.1 j))))] H := hP
  have hD : va_D A [(q, .inr (1, [.int (nI y), .ref d, .int (nI ns), .int (nI 0), .int (nI 0), .int (nI 0), .int (nI ta)])), (d, .inr (0, [.ref da, .int (nI r.2)])), (da, .inl (ca 0, 2, .inl (fun j => nI (r.1 j))))] := hD
  refine lv_aload_n hx hb dCh_renewAs_20 rfl (lv_at hl 0 rfl) ?_
  refine lv_iconst (v := nI 0) hx hb dCh_renewAs_21 (by decide) ?_
  refine va_put (D := D) (ci := 1) (v := .int (nI 0)) (ty := .int) (C := RCh) (T := TCh) (N := 7) hx hb ht inCh tyCh tyCh_ok nmCh hown hE.1 hP hD hS 0 rfl rfl 6 (by decide) (ht _ tw_71) (fun _ h => h) rfl (by decide +kernel) rfl rfl (Nat.le_of_ble_eq_true rfl) dCh_renewAs_22 (fun H locs hP hD hS => ?_)
  have hP : va_P D cls_ [(q, .inr (1, [.int (nI y), .ref d, .int (nI ns), .int (nI 0), .int (nI 0), .int (nI 0), .int (nI 0)])), (d, .inr (0, [.ref da, .int (nI r.2)])), (da, .inl (ca 0, 2, .inl (fun j => nI (r.1 j))))] H := hP
  have hD : va_D A [(q, .inr (1, [.int (nI y), .ref d, .int (nI ns), .int (nI 0), .int (nI 0), .int (nI 0), .int (nI 0)])), (d, .inr (0, [.ref da, .int (nI r.2)])), (da, .inl (ca 0, 2, .inl (fun j => nI (r.1 j))))] := hD
  refine lv_aload_n hx hb dCh_renewAs_25 rfl (lv_at hl 0 rfl) ?_
  refine va_get (D := D) (ci := 1) (v := .ref d) (C := RCh) (T := TCh) (N := 7) hx hb ht inCh hown hE.1 hP 0 rfl rfl 1 (by decide) (ht _ tw_61) (fun _ h => h) rfl dCh_renewAs_26 ?_
  refine lv_iconst (v := nI 0) hx hb dCh_renewAs_29 (by decide) ?_
  refine va_putN (D := D) (ci := 0) (v := .int (nI 0)) (ty := .int) (host := "ChannelledLink") (C := RRw) (T := TRw) (N := 2) hx hb ht inRw tyRw tyRw_ok nmRw hown hE.1 hP hD hS 1 rfl rfl 1 (by decide) (hE.nestU tw_33 rfl) (fun _ h => h) rfl (by decide +kernel) rfl rfl (Nat.le_of_ble_eq_true rfl) dCh_renewAs_30 (fun H locs hP hD hS => ?_)
  have hP : va_P D cls_ [(q, .inr (1, [.int (nI y), .ref d, .int (nI ns), .int (nI 0), .int (nI 0), .int (nI 0), .int (nI 0)])), (d, .inr (0, [.ref da, .int (nI 0)])), (da, .inl (ca 0, 2, .inl (fun j => nI (r.1 j))))] H := hP
  have hD : va_D A [(q, .inr (1, [.int (nI y), .ref d, .int (nI ns), .int (nI 0), .int (nI 0), .int (nI 0), .int (nI 0)])), (d, .inr (0, [.ref da, .int (nI 0)])), (da, .inl (ca 0, 2, .inl (fun j => nI (r.1 j))))] := hD
  exact Co.retv hx hb hret hlk dCh_renewAs_33 hS hP hD () rfl trivial rfl (Nat.le_of_ble_eq_true rfl) (Nat.le_of_ble_eq_true rfl)
set_option maxHeartbeats 4000000 in
set_option maxRecDepth 100000 in
theorem c_Ch_takeData (l : Launch) (D : va_G) (ca : Nat → ClassId) (q d da y st nx pa du ta : Nat) (r : Rw_) (hta : ta < 8) (hr : r.2 ≤ 2) (h0 : 0 < r.2) : Co (S := Unit) l yCh_takeData (Cond.code yCh_takeData cCh_takeData 2 (some FieldType.int) :: tb_) { frames := 2, cells := 0, slots := 0, locals := 64 } D ca [.ref q] [(q, .inr (1, [.int (nI y), .ref d, .int (nI st), .int (nI nx), .int (nI pa), .int (nI du), .int (nI ta)])), (d, .inr (0, [.ref da, .int (nI r.2)])), (da, .inl (ca 0, 2, .inl (fun j => nI (r.1 j))))] (fun _ => some (.int (nI (r.1 0)))) (fun _ => True) (fun _ => [(q, .inr (1, [.int (nI y), .ref d, .int (nI st), .int (nI nx), .int (nI pa), .int (nI du), .int (nI (af ta))])), (d, .inr (0, [.ref da, .int (nI ((rDrop r 1).2))])), (da, .inl (ca 0, 2, .inl (fun j => nI (((rDrop r 1).1) j))))]) 0 0 := by
  refine Co.of cCh_takeData 2 (some FieldType.int) (by decide) (Nat.le_of_ble_eq_true rfl) ?_
  intro p e s m args below meth c A ls fx hret hlk hin hE hP hD hS hA hl
  have hx := fx.1
  have hb := fx.2.1
  have hown : s.vm.findClass RCh = some m.cls := fx.2.2.2.1
  have hts := fx.2.2.2.2
  have ht : ∀ w ∈ tb_, w.before args s = true := fun w h => hts w (List.mem_cons_of_mem _ h)
  have hl : lv_has ls 2 [(0, .ref q)] := hl
  refine lv_aload_n hx hb dCh_takeData_0 rfl (lv_at hl 0 rfl) ?_
  refine va_get (D := D) (ci := 1) (v := .ref d) (C := RCh) (T := TCh) (N := 7) hx hb ht inCh hown hE.1 hP 0 rfl rfl 1 (by decide) (ht _ tw_61) (fun _ h => h) rfl dCh_takeData_1 ?_
  refine lv_iconst (v := nI 0) hx hb dCh_takeData_4 (by decide) ?_
  refine kI (rV fx (c_Rw_at l D ca d da 2 r 0 (by decide) (by first | assumption | exact rAdd_le (by assumption) | omega) (by first | assumption | exact rAdd_le (by assumption) | omega)) ⟨callB_of 1 hts (tb_gi tw_286) rfl rfl rfl (ht _ tw_2) (ht _ tw_543) (by decide +kernel) ⟨(Nat.le_of_ble_eq_true rfl), (Nat.le_of_ble_eq_true rfl)⟩, ht _ tw_284, ht _ tw_285⟩ hE hP hD 1 rfl rfl rfl [1, 2] rfl rfl rfl hl.1 rfl (Nat.le_of_ble_eq_true rfl) dCh_takeData_5 ⟨(Nat.le_of_ble_eq_true rfl), (Nat.le_of_ble_eq_true rfl)⟩) hP hD hS hA [1, 2] [0] rfl rfl rfl (by decide) (fun _ H locs _ hP hD hS => ?_)
  have hP : va_P D cls_ [(q, .inr (1, [.int (nI y), .ref d, .int (nI st), .int (nI nx), .int (nI pa), .int (nI du), .int (nI ta)])), (d, .inr (0, [.ref da, .int (nI r.2)])), (da, .inl (ca 0, 2, .inl (fun j => nI (r.1 j))))] H := hP
  have hD : va_D A [(q, .inr (1, [.int (nI y), .ref d, .int (nI st), .int (nI nx), .int (nI pa), .int (nI du), .int (nI ta)])), (d, .inr (0, [.ref da, .int (nI r.2)])), (da, .inl (ca 0, 2, .inl (fun j => nI (r.1 j))))] := hD
  refine lv_istore_n hx hb dCh_takeData_8 rfl hl (by decide) rfl (fun ls hl => ?_)
  have hl : lv_has ls 2 [(1, .int (nI (r.1 0))), (0, .ref q)] := hl
  refine lv_aload_n hx hb dCh_takeData_9 rfl (lv_at hl 1 rfl) ?_
  refine va_get (D := D) (ci := 1) (v := .ref d) (C := RCh) (T := TCh) (N := 7) hx hb ht inCh hown hE.1 hP 0 rfl rfl 1 (by decide) (ht _ tw_61) (fun _ h => h) rfl dCh_takeData_10 ?_
  refine lv_iconst (v := nI 1) hx hb dCh_takeData_13 (by decide) ?_
  refine kV (rV fx (c_Rw_drop l D ca d da 2 r 1 (by decide) (by first | assumption | exact rAdd_le (by assumption) | omega) (by first | assumption | exact rAdd_le (by assumption) | omega)) ⟨callB_of 1 hts (tb_gi tw_324) rfl rfl rfl (ht _ tw_2) (ht _ tw_544) (by decide +kernel) ⟨(Nat.le_of_ble_eq_true rfl), (Nat.le_of_ble_eq_true rfl)⟩, ht _ tw_322, ht _ tw_323⟩ hE hP hD 1 rfl rfl rfl [1, 2] rfl rfl rfl hl.1 rfl (Nat.le_of_ble_eq_true rfl) dCh_takeData_14 ⟨(Nat.le_of_ble_eq_true rfl), (Nat.le_of_ble_eq_true rfl)⟩) hP hD hS hA [1, 2] [0] rfl rfl rfl (by decide) (fun _ H locs _ hP hD hS => ?_)
  have hP : va_P D cls_ [(q, .inr (1, [.int (nI y), .ref d, .int (nI st), .int (nI nx), .int (nI pa), .int (nI du), .int (nI ta)])), (d, .inr (0, [.ref da, .int (nI ((rDrop r 1).2))])), (da, .inl (ca 0, 2, .inl (fun j => nI (((rDrop r 1).1) j))))] H := hP
  have hD : va_D A [(q, .inr (1, [.int (nI y), .ref d, .int (nI st), .int (nI nx), .int (nI pa), .int (nI du), .int (nI ta)])), (d, .inr (0, [.ref da, .int (nI ((rDrop r 1).2))])), (da, .inl (ca 0, 2, .inl (fun j => nI (((rDrop r 1).1) j))))] := hD
  refine lv_aload_n hx hb dCh_takeData_17 rfl (lv_at hl 1 rfl) ?_
  refine lv_aload_n hx hb dCh_takeData_18 rfl (lv_at hl 1 rfl) ?_
  refine va_get (D := D) (ci := 1) (v := .int (nI ta)) (C := RCh) (T := TCh) (N := 7) hx hb ht inCh hown hE.1 hP 0 rfl rfl 6 (by decide) (ht _ tw_71) (fun _ h => h) rfl dCh_takeData_19 ?_
  refine kI (rSN fx (c_Cl_after l D ca ta (by omega)) ⟨va_cnB 1 hts (tb_gi tw_289) rfl rfl rfl (hE.nest tw_418 rfl) (ht _ tw_1) (by decide +kernel) ⟨(Nat.le_of_ble_eq_true rfl), (Nat.le_of_ble_eq_true rfl)⟩, ht _ tw_288, trivial⟩ hE hP hD [] rfl rfl rfl hl.1 rfl (Nat.le_of_ble_eq_true rfl) dCh_takeData_22 ⟨(Nat.le_of_ble_eq_true rfl), (Nat.le_of_ble_eq_true rfl)⟩) hP hD hS hA [] [0, 1, 2] rfl rfl rfl (by decide) (fun _ H locs _ hP hD hS => ?_)
  have hP : va_P D cls_ [(q, .inr (1, [.int (nI y), .ref d, .int (nI st), .int (nI nx), .int (nI pa), .int (nI du), .int (nI ta)])), (d, .inr (0, [.ref da, .int (nI ((rDrop r 1).2))])), (da, .inl (ca 0, 2, .inl (fun j => nI (((rDrop r 1).1) j))))] H := hP
  have hD : va_D A [(q, .inr (1, [.int (nI y), .ref d, .int (nI st), .int (nI nx), .int (nI pa), .int (nI du), .int (nI ta)])), (d, .inr (0, [.ref da, .int (nI ((rDrop r 1).2))])), (da, .inl (ca 0, 2, .inl (fun j => nI (((rDrop r 1).1) j))))] := hD
  refine va_put (D := D) (ci := 1) (v := .int (nI (af ta))) (ty := .int) (C := RCh) (T := TCh) (N := 7) hx hb ht inCh tyCh tyCh_ok nmCh hown hE.1 hP hD hS 0 rfl rfl 6 (by decide) (ht _ tw_71) (fun _ h => h) rfl (by decide +kernel) rfl rfl (Nat.le_of_ble_eq_true rfl) dCh_takeData_25 (fun H locs hP hD hS => ?_)
  have hP : va_P D cls_ [(q, .inr (1, [.int (nI y), .ref d, .int (nI st), .int (nI nx), .int (nI pa), .int (nI du), .int (nI (af ta))])), (d, .inr (0, [.ref da, .int (nI ((rDrop r 1).2))])), (da, .inl (ca 0, 2, .inl (fun j => nI (((rDrop r 1).1) j))))] H := hP
  have hD : va_D A [(q, .inr (1, [.int (nI y), .ref d, .int (nI st), .int (nI nx), .int (nI pa), .int (nI du), .int (nI (af ta))])), (d, .inr (0, [.ref da, .int (nI ((rDrop r 1).2))])), (da, .inl (ca 0, 2, .inl (fun j => nI (((rDrop r 1).1) j))))] := hD
  refine lv_iload_n hx hb dCh_takeData_28 rfl (lv_at hl 0 rfl) ?_
  exact Co.reti hx hb hret hlk dCh_takeData_29 hS hP hD () rfl trivial rfl (Nat.le_of_ble_eq_true rfl) (Nat.le_of_ble_eq_true rfl)
set_option maxHeartbeats 4000000 in
set_option maxRecDepth 100000 in
theorem c_Ch_renewFrom (l : Launch) (D : va_G) (ca : Nat → ClassId) (q d da y st nx pa du ta : Nat) (r : Rw_) (os ns : Nat) (h1 : os < 8) (hst : st < 6) (hnx : nx < 8) (hpa : pa < 8) (hdu : du < 8) (hta : ta < 8) (hr : r.2 ≤ 2) (rk st' nx' pa' du' ta' : Nat) (r' : Rw_) (hres : (if st = os then (0, cNew ns r) else (0, st, nx, pa, du, ta, r)) = ((rk, st', nx', pa', du', ta', r') : Nat × Cn_)) : Co (S := Unit) l yCh_renewFrom (Cond.code yCh_renewFrom cCh_renewFrom 3 (some FieldType.int) :: tb_) { frames := 1, cells := 0, slots := 0, locals := 32 } D ca [.ref q, .int (nI os), .int (nI ns)] [(q, .inr (1, [.int (nI y), .ref d, .int (nI st), .int (nI nx), .int (nI pa), .int (nI du), .int (nI ta)])), (d, .inr (0, [.ref da, .int (nI r.2)])), (da, .inl (ca 0, 2, .inl (fun j => nI (r.1 j))))] (fun _ => some (.int (nI rk))) (fun _ => True) (fun _ => [(q, .inr (1, [.int (nI y), .ref d, .int (nI st'), .int (nI nx'), .int (nI pa'), .int (nI du'), .int (nI ta')])), (d, .inr (0, [.ref da, .int (nI r'.2)])), (da, .inl (ca 0, 2, .inl (fun j => nI (r'.1 j))))]) 0 0 := by
  refine Co.of cCh_renewFrom 3 (some FieldType.int) (by decide) (Nat.le_of_ble_eq_true rfl) ?_
  intro p e s m args below meth c A ls fx hret hlk hin hE hP hD hS hA hl
  have hx := fx.1
  have hb := fx.2.1
  have hown : s.vm.findClass RCh = some m.cls := fx.2.2.2.1
  have hts := fx.2.2.2.2
  have ht : ∀ w ∈ tb_, w.before args s = true := fun w h => hts w (List.mem_cons_of_mem _ h)
  have hl : lv_has ls 3 [(0, .ref q), (1, .int (nI os)), (2, .int (nI ns))] := hl
  refine lv_aload_n hx hb dCh_renewFrom_0 rfl (lv_at hl 0 rfl) ?_
  refine va_get (D := D) (ci := 1) (v := .int (nI st)) (C := RCh) (T := TCh) (N := 7) hx hb ht inCh hown hE.1 hP 0 rfl rfl 2 (by decide) (ht _ tw_63) (fun _ h => h) rfl dCh_renewFrom_1 ?_
  refine lv_iload_n hx hb dCh_renewFrom_4 rfl (lv_at hl 1 rfl) ?_
  refine k_icmp_ne (tgt := 13) hx hb (by omega) (by omega) dCh_renewFrom_5 rfl (fun h5 => ?_) (fun h5 => ?_)
  · refine lv_iconst (v := nI 0) hx hb dCh_renewFrom_13 (by decide) ?_
    rw [if_neg (by omega)] at hres
    simp only [cNew, Prod.mk.injEq] at hres
    obtain ⟨rfl, rfl, rfl, rfl, rfl, rfl, rfl⟩ := hres
    exact Co.reti hx hb hret hlk dCh_renewFrom_14 hS hP hD () rfl trivial rfl (Nat.le_of_ble_eq_true rfl) (Nat.le_of_ble_eq_true rfl)
  · refine lv_aload_n hx hb dCh_renewFrom_8 rfl (lv_at hl 0 rfl) ?_
    refine lv_iload_n hx hb dCh_renewFrom_9 rfl (lv_at hl 2 rfl) ?_
    refine kV (rV fx (c_Ch_renewAs l D ca q d da y st nx pa du ta r ns) ⟨callB_of 1 hts (tb_gi tw_223) rfl rfl rfl (ht _ tw_4) (ht _ tw_394) (by decide +kernel) ⟨(Nat.le_of_ble_eq_true rfl), (Nat.le_of_ble_eq_true rfl)⟩, ht _ tw_221, ht _ tw_222⟩ hE hP hD 0 rfl rfl rfl [0, 1, 2] rfl rfl rfl hl.1 rfl (Nat.le_of_ble_eq_true rfl) dCh_renewFrom_10 ⟨(Nat.le_of_ble_eq_true rfl), (Nat.le_of_ble_eq_true rfl)⟩) hP hD hS hA [0, 1, 2] [] rfl rfl rfl (by decide) (fun _ H locs _ hP hD hS => ?_)
    have hP : va_P D cls_ [(q, .inr (1, [.int (nI y), .ref d, .int (nI ns), .int (nI 0), .int (nI 0), .int (nI 0), .int (nI 0)])), (d, .inr (0, [.ref da, .int (nI ((rNone r).2))])), (da, .inl (ca 0, 2, .inl (fun j => nI (((rNone r).1) j))))] H := hP
    have hD : va_D A [(q, .inr (1, [.int (nI y), .ref d, .int (nI ns), .int (nI 0), .int (nI 0), .int (nI 0), .int (nI 0)])), (d, .inr (0, [.ref da, .int (nI ((rNone r).2))])), (da, .inl (ca 0, 2, .inl (fun j => nI (((rNone r).1) j))))] := hD
    refine lv_iconst (v := nI 0) hx hb dCh_renewFrom_13 (by decide) ?_
    rw [if_pos (by omega)] at hres
    simp only [cNew, Prod.mk.injEq] at hres
    obtain ⟨rfl, rfl, rfl, rfl, rfl, rfl, rfl⟩ := hres
    exact Co.reti hx hb hret hlk dCh_renewFrom_14 hS hP hD () rfl trivial rfl (Nat.le_of_ble_eq_true rfl) (Nat.le_of_ble_eq_true rfl)
set_option maxHeartbeats 4000000 in
set_option maxRecDepth 100000 in
theorem c_Ch_answerToCall (l : Launch) (D : va_G) (ca : Nat → ClassId) (q d da y st nx pa du ta : Nat) (r : Rw_) (hst : st < 6) (hnx : nx < 8) (hpa : pa < 8) (hdu : du < 8) (hta : ta < 8) (hr : r.2 ≤ 2) (hy : y < 2) (rk st' nx' pa' du' ta' : Nat) (r' : Rw_) (hres : (if st = 0 ∨ (st = 1 ∧ y ≠ 0) then (0, cNew 2 r) else (0, st, nx, pa, du, ta, r)) = ((rk, st', nx', pa', du', ta', r') : Nat × Cn_)) : Co (S := Unit) l yCh_answerToCall (Cond.code yCh_answerToCall cCh_answerToCall 1 (some FieldType.int) :: tb_) { frames := 1, cells := 0, slots := 0, locals := 32 } D ca [.ref q] [(q, .inr (1, [.int (nI y), .ref d, .int (nI st), .int (nI nx), .int (nI pa), .int (nI du), .int (nI ta)])), (d, .inr (0, [.ref da, .int (nI r.2)])), (da, .inl (ca 0, 2, .inl (fun j => nI (r.1 j))))] (fun _ => some (.int (nI rk))) (fun _ => True) (fun _ => [(q, .inr (1, [.int (nI y), .ref d, .int (nI st'), .int (nI nx'), .int (nI pa'), .int (nI du'), .int (nI ta')])), (d, .inr (0, [.ref da, .int (nI r'.2)])), (da, .inl (ca 0, 2, .inl (fun j => nI (r'.1 j))))]) 0 0 := by
  refine Co.of cCh_answerToCall 1 (some FieldType.int) (by decide) (Nat.le_of_ble_eq_true rfl) ?_
  intro p e s m args below meth c A ls fx hret hlk hin hE hP hD hS hA hl
  have hx := fx.1
  have hb := fx.2.1
  have hown : s.vm.findClass RCh = some m.cls := fx.2.2.2.1
  have hts := fx.2.2.2.2
  have ht : ∀ w ∈ tb_, w.before args s = true := fun w h => hts w (List.mem_cons_of_mem _ h)
  have hl : lv_has ls 1 [(0, .ref q)] := hl
  refine lv_aload_n hx hb dCh_answerToCall_0 rfl (lv_at hl 0 rfl) ?_
  refine va_get (D := D) (ci := 1) (v := .int (nI st)) (C := RCh) (T := TCh) (N := 7) hx hb ht inCh hown hE.1 hP 0 rfl rfl 2 (by decide) (ht _ tw_63) (fun _ h => h) rfl dCh_answerToCall_1 ?_
  refine k_if_eq (tgt := 22) hx hb (by omega) dCh_answerToCall_4 rfl (fun h4 => ?_) (fun h4 => ?_)
  · refine lv_aload_n hx hb dCh_answerToCall_22 rfl (lv_at hl 0 rfl) ?_
    refine lv_iconst (v := nI 2) hx hb dCh_answerToCall_23 (by decide) ?_
    refine kV (rV fx (c_Ch_renewAs l D ca q d da y st nx pa du ta r 2) ⟨callB_of 1 hts (tb_gi tw_223) rfl rfl rfl (ht _ tw_4) (ht _ tw_394) (by decide +kernel) ⟨(Nat.le_of_ble_eq_true rfl), (Nat.le_of_ble_eq_true rfl)⟩, ht _ tw_221, ht _ tw_222⟩ hE hP hD 0 rfl rfl rfl [0, 1, 2] rfl rfl rfl hl.1 rfl (Nat.le_of_ble_eq_true rfl) dCh_answerToCall_24 ⟨(Nat.le_of_ble_eq_true rfl), (Nat.le_of_ble_eq_true rfl)⟩) hP hD hS hA [0, 1, 2] [] rfl rfl rfl (by decide) (fun _ H locs _ hP hD hS => ?_)
    have hP : va_P D cls_ [(q, .inr (1, [.int (nI y), .ref d, .int (nI 2), .int (nI 0), .int (nI 0), .int (nI 0), .int (nI 0)])), (d, .inr (0, [.ref da, .int (nI ((rNone r).2))])), (da, .inl (ca 0, 2, .inl (fun j => nI (((rNone r).1) j))))] H := hP
    have hD : va_D A [(q, .inr (1, [.int (nI y), .ref d, .int (nI 2), .int (nI 0), .int (nI 0), .int (nI 0), .int (nI 0)])), (d, .inr (0, [.ref da, .int (nI ((rNone r).2))])), (da, .inl (ca 0, 2, .inl (fun j => nI (((rNone r).1) j))))] := hD
    refine lv_iconst (v := nI 0) hx hb dCh_answerToCall_27 (by decide) ?_
    rw [if_pos (by omega)] at hres
    simp only [cNew, Prod.mk.injEq] at hres
    obtain ⟨rfl, rfl, rfl, rfl, rfl, rfl, rfl⟩ := hres
    exact Co.reti hx hb hret hlk dCh_answerToCall_28 hS hP hD () rfl trivial rfl (Nat.le_of_ble_eq_true rfl) (Nat.le_of_ble_eq_true rfl)
  · refine lv_aload_n hx hb dCh_answerToCall_7 rfl (lv_at hl 0 rfl) ?_
    refine va_get (D := D) (ci := 1) (v := .int (nI st)) (C := RCh) (T := TCh) (N := 7) hx hb ht inCh hown hE.1 hP 0 rfl rfl 2 (by decide) (ht _ tw_63) (fun _ h => h) rfl dCh_answerToCall_8 ?_
    refine lv_iconst (v := nI 1) hx hb dCh_answerToCall_11 (by decide) ?_
    refine k_icmp_ne (tgt := 27) hx hb (by omega) (by omega) dCh_answerToCall_12 rfl (fun h12 => ?_) (fun h12 => ?_)
    · refine lv_iconst (v := nI 0) hx hb dCh_answerToCall_27 (by decide) ?_
      rw [if_neg (by omega)] at hres
      simp only [cNew, Prod.mk.injEq] at hres
      obtain ⟨rfl, rfl, rfl, rfl, rfl, rfl, rfl⟩ := hres
      exact Co.reti hx hb hret hlk dCh_answerToCall_28 hS hP hD () rfl trivial rfl (Nat.le_of_ble_eq_true rfl) (Nat.le_of_ble_eq_true rfl)
    · refine lv_aload_n hx hb dCh_answerToCall_15 rfl (lv_at hl 0 rfl) ?_
      refine va_get (D := D) (ci := 1) (v := .int (nI y)) (C := RCh) (T := TCh) (N := 7) hx hb ht inCh hown hE.1 hP 0 rfl rfl 0 (by decide) (ht _ tw_60) (fun _ h => h) rfl dCh_answerToCall_16 ?_
      refine k_if_eq (tgt := 27) hx hb (by omega) dCh_answerToCall_19 rfl (fun h19 => ?_) (fun h19 => ?_)
      · refine lv_iconst (v := nI 0) hx hb dCh_answerToCall_27 (by decide) ?_
        rw [if_neg (by omega)] at hres
        simp only [cNew, Prod.mk.injEq] at hres
        obtain ⟨rfl, rfl, rfl, rfl, rfl, rfl, rfl⟩ := hres
        exact Co.reti hx hb hret hlk dCh_answerToCall_28 hS hP hD () rfl trivial rfl (Nat.le_of_ble_eq_true rfl) (Nat.le_of_ble_eq_true rfl)
      · refine lv_aload_n hx hb dCh_answerToCall_22 rfl (lv_at hl 0 rfl) ?_
        refine lv_iconst (v := nI 2) hx hb dCh_answerToCall_23 (by decide) ?_
        refine kV (rV fx (c_Ch_renewAs l D ca q d da y st nx pa du ta r 2) ⟨callB_of 1 hts (tb_gi tw_223) rfl rfl rfl (ht _ tw_4) (ht _ tw_394) (by decide +kernel) ⟨(Nat.le_of_ble_eq_true rfl), (Nat.le_of_ble_eq_true rfl)⟩, ht _ tw_221, ht _ tw_222⟩ hE hP hD 0 rfl rfl rfl [0, 1, 2] rfl rfl rfl hl.1 rfl (Nat.le_of_ble_eq_true rfl) dCh_answerToCall_24 ⟨(Nat.le_of_ble_eq_true rfl), (Nat.le_of_ble_eq_true rfl)⟩) hP hD hS hA [0, 1, 2] [] rfl rfl rfl (by decide) (fun _ H locs _ hP hD hS => ?_)
        have hP : va_P D cls_ [(q, .inr (1, [.int (nI y), .ref d, .int (nI 2), .int (nI 0), .int (nI 0), .int (nI 0), .int (nI 0)])), (d, .inr (0, [.ref da, .int (nI ((rNone r).2))])), (da, .inl (ca 0, 2, .inl (fun j => nI (((rNone r).1) j))))] H := hP
        have hD : va_D A [(q, .inr (1, [.int (nI y), .ref d, .int (nI 2), .int (nI 0), .int (nI 0), .int (nI 0), .int (nI 0)])), (d, .inr (0, [.ref da, .int (nI ((rNone r).2))])), (da, .inl (ca 0, 2, .inl (fun j => nI (((rNone r).1) j))))] := hD
        refine lv_iconst (v := nI 0) hx hb dCh_answerToCall_27 (by decide) ?_
        rw [if_pos (by omega)] at hres
        simp only [cNew, Prod.mk.injEq] at hres
        obtain ⟨rfl, rfl, rfl, rfl, rfl, rfl, rfl⟩ := hres
        exact Co.reti hx hb hret hlk dCh_answerToCall_28 hS hP hD () rfl trivial rfl (Nat.le_of_ble_eq_true rfl) (Nat.le_of_ble_eq_true rfl)
set_option maxHeartbeats 4000000 in
set_option maxRecDepth 100000 in
theorem c_Ch_answerToClear (l : Launch) (D : va_G) (ca : Nat → ClassId) (q d da y st nx pa du ta : Nat) (r : Rw_) (hst : st < 6) (hnx : nx < 8) (hpa : pa < 8) (hdu : du < 8) (hta : ta < 8) (hr : r.2 ≤ 2) (rk st' nx' pa' du' ta' : Nat) (r' : Rw_) (hres : (if st ≠ 0 ∧ st ≠ 4 then (4, cNew 0 r) else (0, cNew 0 r)) = ((rk, st', nx', pa', du', ta', r') : Nat × Cn_)) : Co (S := Unit) l yCh_answerToClear (Cond.code yCh_answerToClear cCh_answerToClear 2 (some FieldType.int) :: tb_) { frames := 1, cells := 0, slots := 0, locals := 32 } D ca [.ref q] [(q, .inr (1, [.int (nI y), .ref d, .int (nI st), .int (nI nx), .int (nI pa), .int (nI du), .int (nI ta)])), (d, .inr (0, [.ref da, .int (nI r.2)])), (da, .inl (ca 0, 2, .inl (fun j => nI (r.1 j))))] (fun _ => some (.int (nI rk))) (fun _ => True) (fun _ => [(q, .inr (1, [.int (nI y), .ref d, .int (nI st'), .int (nI nx'), .int (nI pa'), .int (nI du'), .int (nI ta')])), (d, .inr (0, [.ref da, .int (nI r'.2)])), (da, .inl (ca 0, 2, .inl (fun j => nI (r'.1 j))))]) 0 0 := by
  refine Co.of cCh_answerToClear 2 (some FieldType.int) (by decide) (Nat.le_of_ble_eq_true rfl) ?_
  intro p e s m args below meth c A ls fx hret hlk hin hE hP hD hS hA hl
  have hx := fx.1
  have hb := fx.2.1
  have hown : s.vm.findClass RCh = some m.cls := fx.2.2.2.1
  have hts := fx.2.2.2.2
  have ht : ∀ w ∈ tb_, w.before args s = true := fun w h => hts w (List.mem_cons_of_mem _ h)
  have hl : lv_has ls 2 [(0, .ref q)] := hl
  refine lv_aload_n hx hb dCh_answerToClear_0 rfl (lv_at hl 0 rfl) ?_
  refine va_get (D := D) (ci := 1) (v := .int (nI st)) (C := RCh) (T := TCh) (N := 7) hx hb ht inCh hown hE.1 hP 0 rfl rfl 2 (by decide) (ht _ tw_63) (fun _ h => h) rfl dCh_answerToClear_1 ?_
  refine k_if_eq (tgt := 19) hx hb (by omega) dCh_answerToClear_4 rfl (fun h4 => ?_) (fun h4 => ?_)
  · refine lv_iconst (v := nI 0) hx hb dCh_answerToClear_19 (by decide) ?_
    refine lv_istore_n hx hb dCh_answerToClear_20 rfl hl (by decide) rfl (fun ls hl => ?_)
    have hl : lv_has ls 2 [(1, .int (nI 0)), (0, .ref q)] := hl
    refine lv_aload_n hx hb dCh_answerToClear_21 rfl (lv_at hl 1 rfl) ?_
    refine lv_iconst (v := nI 0) hx hb dCh_answerToClear_22 (by decide) ?_
    refine kV (rV fx (c_Ch_renewAs l D ca q d da y st nx pa du ta r 0) ⟨callB_of 1 hts (tb_gi tw_223) rfl rfl rfl (ht _ tw_4) (ht _ tw_394) (by decide +kernel) ⟨(Nat.le_of_ble_eq_true rfl), (Nat.le_of_ble_eq_true rfl)⟩, ht _ tw_221, ht _ tw_222⟩ hE hP hD 0 rfl rfl rfl [0, 1, 2] rfl rfl rfl hl.1 rfl (Nat.le_of_ble_eq_true rfl) dCh_answerToClear_23 ⟨(Nat.le_of_ble_eq_true rfl), (Nat.le_of_ble_eq_true rfl)⟩) hP hD hS hA [0, 1, 2] [] rfl rfl rfl (by decide) (fun _ H locs _ hP hD hS => ?_)
    have hP : va_P D cls_ [(q, .inr (1, [.int (nI y), .ref d, .int (nI 0), .int (nI 0), .int (nI 0), .int (nI 0), .int (nI 0)])), (d, .inr (0, [.ref da, .int (nI ((rNone r).2))])), (da, .inl (ca 0, 2, .inl (fun j => nI (((rNone r).1) j))))] H := hP
    have hD : va_D A [(q, .inr (1, [.int (nI y), .ref d, .int (nI 0), .int (nI 0), .int (nI 0), .int (nI 0), .int (nI 0)])), (d, .inr (0, [.ref da, .int (nI ((rNone r).2))])), (da, .inl (ca 0, 2, .inl (fun j => nI (((rNone r).1) j))))] := hD
    refine lv_iload_n hx hb dCh_answerToClear_26 rfl (lv_at hl 0 rfl) ?_
    refine k_if_eq (tgt := 34) hx hb (by omega) dCh_answerToClear_27 rfl (fun h27 => ?_) (fun hz => absurd hz (by omega))
    refine lv_iconst (v := nI 0) hx hb dCh_answerToClear_34 (by decide) ?_
    rw [if_neg (by omega)] at hres
    simp only [cNew, Prod.mk.injEq] at hres
    obtain ⟨rfl, rfl, rfl, rfl, rfl, rfl, rfl⟩ := hres
    exact Co.reti hx hb hret hlk dCh_answerToClear_35 hS hP hD () rfl trivial rfl (Nat.le_of_ble_eq_true rfl) (Nat.le_of_ble_eq_true rfl)
  · refine lv_aload_n hx hb dCh_answerToClear_7 rfl (lv_at hl 0 rfl) ?_
    refine va_get (D := D) (ci := 1) (v := .int (nI st)) (C := RCh) (T := TCh) (N := 7) hx hb ht inCh hown hE.1 hP 0 rfl rfl 2 (by decide) (ht _ tw_63) (fun _ h => h) rfl dCh_answerToClear_8 ?_
    refine lv_iconst (v := nI 4) hx hb dCh_answerToClear_11 (by decide) ?_
    refine k_icmp_eq (tgt := 19) hx hb (by omega) (by omega) dCh_answerToClear_12 rfl (fun h12 => ?_) (fun h12 => ?_)
    · refine lv_iconst (v := nI 0) hx hb dCh_answerToClear_19 (by decide) ?_
      refine lv_istore_n hx hb dCh_answerToClear_20 rfl hl (by decide) rfl (fun ls hl => ?_)
      have hl : lv_has ls 2 [(1, .int (nI 0)), (0, .ref q)] := hl
      refine lv_aload_n hx hb dCh_answerToClear_21 rfl (lv_at hl 1 rfl) ?_
      refine lv_iconst (v := nI 0) hx hb dCh_answerToClear_22 (by decide) ?_
      refine kV (rV fx (c_Ch_renewAs l D ca q d da y st nx pa du ta r 0) ⟨callB_of 1 hts (tb_gi tw_223) rfl rfl rfl (ht _ tw_4) (ht _ tw_394) (by decide +kernel) ⟨(Nat.le_of_ble_eq_true rfl), (Nat.le_of_ble_eq_true rfl)⟩, ht _ tw_221, ht _ tw_222⟩ hE hP hD 0 rfl rfl rfl [0, 1, 2] rfl rfl rfl hl.1 rfl (Nat.le_of_ble_eq_true rfl) dCh_answerToClear_23 ⟨(Nat.le_of_ble_eq_true rfl), (Nat.le_of_ble_eq_true rfl)⟩) hP hD hS hA [0, 1, 2] [] rfl rfl rfl (by decide) (fun _ H locs _ hP hD hS => ?_)
      have hP : va_P D cls_ [(q, .inr (1, [.int (nI y), .ref d, .int (nI 0), .int (nI 0), .int (nI 0), .int (nI 0), .int (nI 0)])), (d, .inr (0, [.ref da, .int (nI ((rNone r).2))])), (da, .inl (ca 0, 2, .inl (fun j => nI (((rNone r).1) j))))] H := hP
      have hD : va_D A [(q, .inr (1, [.int (nI y), .ref d, .int (nI 0), .int (nI 0), .int (nI 0), .int (nI 0), .int (nI 0)])), (d, .inr (0, [.ref da, .int (nI ((rNone r).2))])), (da, .inl (ca 0, 2, .inl (fun j => nI (((rNone r).1) j))))] := hD
      refine lv_iload_n hx hb dCh_answerToClear_26 rfl (lv_at hl 0 rfl) ?_
      refine k_if_eq (tgt := 34) hx hb (by omega) dCh_answerToClear_27 rfl (fun h27 => ?_) (fun hz => absurd hz (by omega))
      refine lv_iconst (v := nI 0) hx hb dCh_answerToClear_34 (by decide) ?_
      rw [if_neg (by omega)] at hres
      simp only [cNew, Prod.mk.injEq] at hres
      obtain ⟨rfl, rfl, rfl, rfl, rfl, rfl, rfl⟩ := hres
      exact Co.reti hx hb hret hlk dCh_answerToClear_35 hS hP hD () rfl trivial rfl (Nat.le_of_ble_eq_true rfl) (Nat.le_of_ble_eq_true rfl)
    · refine lv_iconst (v := nI 1) hx hb dCh_answerToClear_15 (by decide) ?_
      refine lv_goto (tgt := 20) hx hb dCh_answerToClear_16 rfl ?_
      refine lv_istore_n hx hb dCh_answerToClear_20 rfl hl (by decide) rfl (fun ls hl => ?_)
      have hl : lv_has ls 2 [(1, .int (nI 1)), (0, .ref q)] := hl
      refine lv_aload_n hx hb dCh_answerToClear_21 rfl (lv_at hl 1 rfl) ?_
      refine lv_iconst (v := nI 0) hx hb dCh_answerToClear_22 (by decide) ?_
      refine kV (rV fx (c_Ch_renewAs l D ca q d da y st nx pa du ta r 0) ⟨callB_of 1 hts (tb_gi tw_223) rfl rfl rfl (ht _ tw_4) (ht _ tw_394) (by decide +kernel) ⟨(Nat.le_of_ble_eq_true rfl), (Nat.le_of_ble_eq_true rfl)⟩, ht _ tw_221, ht _ tw_222⟩ hE hP hD 0 rfl rfl rfl [0, 1, 2] rfl rfl rfl hl.1 rfl (Nat.le_of_ble_eq_true rfl) dCh_answerToClear_23 ⟨(Nat.le_of_ble_eq_true rfl), (Nat.le_of_ble_eq_true rfl)⟩) hP hD hS hA [0, 1, 2] [] rfl rfl rfl (by decide) (fun _ H locs _ hP hD hS => ?_)
      have hP : va_P D cls_ [(q, .inr (1, [.int (nI y), .ref d, .int (nI 0), .int (nI 0), .int (nI 0), .int (nI 0), .int (nI 0)])), (d, .inr (0, [.ref da, .int (nI ((rNone r).2))])), (da, .inl (ca 0, 2, .inl (fun j => nI (((rNone r).1) j))))] H := hP
      have hD : va_D A [(q, .inr (1, [.int (nI y), .ref d, .int (nI 0), .int (nI 0), .int (nI 0), .int (nI 0), .int (nI 0)])), (d, .inr (0, [.ref da, .int (nI ((rNone r).2))])), (da, .inl (ca 0, 2, .inl (fun j => nI (((rNone r).1) j))))] := hD
      refine lv_iload_n hx hb dCh_answerToClear_26 rfl (lv_at hl 0 rfl) ?_
      refine k_if_eq (tgt := 34) hx hb (by omega) dCh_answerToClear_27 rfl (fun hz => absurd hz (by omega)) (fun h27 => ?_)
      refine lv_iconst (v := nI 4) hx hb dCh_answerToClear_30 (by decide) ?_
      refine lv_goto (tgt := 35) hx hb dCh_answerToClear_31 rfl ?_
      rw [if_pos (by omega)] at hres
      simp only [cNew, Prod.mk.injEq] at hres
      obtain ⟨rfl, rfl, rfl, rfl, rfl, rfl, rfl⟩ := hres
      exact Co.reti hx hb hret hlk dCh_answerToClear_35 hS hP hD () rfl trivial rfl (Nat.le_of_ble_eq_true rfl) (Nat.le_of_ble_eq_true rfl)
set_option maxHeartbeats 4000000 in
set_option maxRecDepth 100000 in
theorem c_Ch_answerToReset (l : Launch) (D : va_G) (ca : Nat → ClassId) (q d da y st nx pa du ta : Nat) (r : Rw_) (hst : st < 6) (hnx : nx < 8) (hpa : pa < 8) (hdu : du < 8) (hta : ta < 8) (hr : r.2 ≤ 2) (rk st' nx' pa' du' ta' : Nat) (r' : Rw_) (hres : (if st = 3 then (8, cNew 3 r) else if st = 5 then (0, cNew 3 r) else (0, st, nx, pa, du, ta, r)) = ((rk, st', nx', pa', du', ta', r') : Nat × Cn_)) : Co (S := Unit) l yCh_answerToReset (Cond.code yCh_answerToReset cCh_answerToReset 2 (some FieldType.int) :: tb_) { frames := 1, cells := 0, slots := 0, locals := 32 } D ca [.ref q] [(q, .inr (1, [.int (nI y), .ref d, .int (nI st), .int (nI nx), .int (nI pa), .int (nI du), .int (nI ta)])), (d, .inr (0, [.ref da, .int (nI r.2)])), (da, .inl (ca 0, 2, .inl (fun j => nI (r.1 j))))] (fun _ => some (.int (nI rk))) (fun _ => True) (fun _ => [(q, .inr (1, [.int (nI y), .ref d, .int (nI st'), .int (nI nx'), .int (nI pa'), .int (nI du'), .int (nI ta')])), (d, .inr (0, [.ref da, .int (nI r'.2)])), (da, .inl (ca 0, 2, .inl (fun j => nI (r'.1 j))))]) 0 0 := by
  refine Co.of cCh_answerToReset 2 (some FieldType.int) (by decide) (Nat.le_of_ble_eq_true rfl) ?_
  intro p e s m args below meth c A ls fx hret hlk hin hE hP hD hS hA hl
  have hx := fx.1
  have hb := fx.2.1
  have hown : s.vm.findClass RCh = some m.cls := fx.2.2.2.1
  have hts := fx.2.2.2.2
  have ht : ∀ w ∈ tb_, w.before args s = true := fun w h => hts w (List.mem_cons_of_mem _ h)
  have hl : lv_has ls 2 [(0, .ref q)] := hl
  refine lv_aload_n hx hb dCh_answerToReset_0 rfl (lv_at hl 0 rfl) ?_
  refine va_get (D := D) (ci := 1) (v := .int (nI st)) (C := RCh) (T := TCh) (N := 7) hx hb ht inCh hown hE.1 hP 0 rfl rfl 2 (by decide) (ht _ tw_63) (fun _ h => h) rfl dCh_answerToReset_1 ?_
  refine lv_iconst (v := nI 3) hx hb dCh_answerToReset_4 (by decide) ?_
  refine k_icmp_ne (tgt := 12) hx hb (by omega) (by omega) dCh_answerToReset_5 rfl (fun h5 => ?_) (fun h5 => ?_)
  · refine lv_iconst (v := nI 0) hx hb dCh_answerToReset_12 (by decide) ?_
    refine lv_istore_n hx hb dCh_answerToReset_13 rfl hl (by decide) rfl (fun ls hl => ?_)
    have hl : lv_has ls 2 [(1, .int (nI 0)), (0, .ref q)] := hl
    refine lv_iload_n hx hb dCh_answerToReset_14 rfl (lv_at hl 0 rfl) ?_
    refine k_if_ne (tgt := 26) hx hb (by omega) dCh_answerToReset_15 rfl (fun hz => absurd hz (by omega)) (fun h15 => ?_)
    refine lv_aload_n hx hb dCh_answerToReset_18 rfl (lv_at hl 1 rfl) ?_
    refine va_get (D := D) (ci := 1) (v := .int (nI st)) (C := RCh) (T := TCh) (N := 7) hx hb ht inCh hown hE.1 hP 0 rfl rfl 2 (by decide) (ht _ tw_63) (fun _ h => h) rfl dCh_answerToReset_19 ?_
    refine lv_iconst (v := nI 5) hx hb dCh_answerToReset_22 (by decide) ?_
    refine k_icmp_ne (tgt := 31) hx hb (by omega) (by omega) dCh_answerToReset_23 rfl (fun h23 => ?_) (fun h23 => ?_)
    · refine lv_iload_n hx hb dCh_answerToReset_31 rfl (lv_at hl 0 rfl) ?_
      refine k_if_eq (tgt := 40) hx hb (by omega) dCh_answerToReset_32 rfl (fun h32 => ?_) (fun hz => absurd hz (by omega))
      refine lv_iconst (v := nI 0) hx hb dCh_answerToReset_40 (by decide) ?_
      rw [if_neg (by omega), if_neg (by omega)] at hres
      simp only [cNew, Prod.mk.injEq] at hres
      obtain ⟨rfl, rfl, rfl, rfl, rfl, rfl, rfl⟩ := hres
      exact Co.reti hx hb hret hlk dCh_answerToReset_41 hS hP hD () rfl trivial rfl (Nat.le_of_ble_eq_true rfl) (Nat.le_of_ble_eq_true rfl)
    · refine lv_aload_n hx hb dCh_answerToReset_26 rfl (lv_at hl 1 rfl) ?_
      refine lv_iconst (v := nI 3) hx hb dCh_answerToReset_27 (by decide) ?_
      refine kV (rV fx (c_Ch_renewAs l D ca q d da y st nx pa du ta r 3) ⟨callB_of 1 hts (tb_gi tw_223) rfl rfl rfl (ht _ tw_4) (ht _ tw_394) (by decide +kernel) ⟨(Nat.le_of_ble_eq_true rfl), (Nat.le_of_ble_eq_true rfl)⟩, ht _ tw_221, ht _ tw_222⟩ hE hP hD 0 rfl rfl rfl [0, 1, 2] rfl rfl rfl hl.1 rfl (Nat.le_of_ble_eq_true rfl) dCh_answerToReset_28 ⟨(Nat.le_of_ble_eq_true rfl), (Nat.le_of_ble_eq_true rfl)⟩) hP hD hS hA [0, 1, 2] [] rfl rfl rfl (by decide) (fun _ H locs _ hP hD hS => ?_)
      have hP : va_P D cls_ [(q, .inr (1, [.int (nI y), .ref d, .int (nI 3), .int (nI 0), .int (nI 0), .int (nI 0), .int (nI 0)])), (d, .inr (0, [.ref da, .int (nI ((rNone r).2))])), (da, .inl (ca 0, 2, .inl (fun j => nI (((rNone r).1) j))))] H := hP
      have hD : va_D A [(q, .inr (1, [.int (nI y), .ref d, .int (nI 3), .int (nI 0), .int (nI 0), .int (nI 0), .int (nI 0)])), (d, .inr (0, [.ref da, .int (nI ((rNone r).2))])), (da, .inl (ca 0, 2, .inl (fun j => nI (((rNone r).1) j))))] := hD
      refine lv_iload_n hx hb dCh_answerToReset_31 rfl (lv_at hl 0 rfl) ?_
      refine k_if_eq (tgt := 40) hx hb (by omega) dCh_answerToReset_32 rfl (fun h32 => ?_) (fun hz => absurd hz (by omega))
      refine lv_iconst (v := nI 0) hx hb dCh_answerToReset_40 (by decide) ?_
      rw [if_neg (by omega), if_pos (by omega)] at hres
      simp only [cNew, Prod.mk.injEq] at hres
      obtain ⟨rfl, rfl, rfl, rfl, rfl, rfl, rfl⟩ := hres
      exact Co.reti hx hb hret hlk dCh_answerToReset_41 hS hP hD () rfl trivial rfl (Nat.le_of_ble_eq_true rfl) (Nat.le_of_ble_eq_true rfl)
  · refine lv_iconst (v := nI 1) hx hb dCh_answerToReset_8 (by decide) ?_
    refine lv_goto (tgt := 13) hx hb dCh_answerToReset_9 rfl ?_
    refine lv_istore_n hx hb dCh_answerToReset_13 rfl hl (by decide) rfl (fun ls hl => ?_)
    have hl : lv_has ls 2 [(1, .int (nI 1)), (0, .ref q)] := hl
    refine lv_iload_n hx hb dCh_answerToReset_14 rfl (lv_at hl 0 rfl) ?_
    refine k_if_ne (tgt := 26) hx hb (by omega) dCh_answerToReset_15 rfl (fun h15 => ?_) (fun hz => absurd hz (by omega))
    refine lv_aload_n hx hb dCh_answerToReset_26 rfl (lv_at hl 1 rfl) ?_
    refine lv_iconst (v := nI 3) hx hb dCh_answerToReset_27 (by decide) ?_
    refine kV (rV fx (c_Ch_renewAs l D ca q d da y st nx pa du ta r 3) ⟨callB_of 1 hts (tb_gi tw_223) rfl rfl rfl (ht _ tw_4) (ht _ tw_394) (by decide +kernel) ⟨(Nat.le_of_ble_eq_true rfl), (Nat.le_of_ble_eq_true rfl)⟩, ht _ tw_221, ht _ tw_222⟩ hE hP hD 0 rfl rfl rfl [0, 1, 2] rfl rfl rfl hl.1 rfl (Nat.le_of_ble_eq_true rfl) dCh_answerToReset_28 ⟨(Nat.le_of_ble_eq_true rfl), (Nat.le_of_ble_eq_true rfl)⟩) hP hD hS hA [0, 1, 2] [] rfl rfl rfl (by decide) (fun _ H locs _ hP hD hS => ?_)
    have hP : va_P D cls_ [(q, .inr (1, [.int (nI y), .ref d, .int (nI 3), .int (nI 0), .int (nI 0), .int (nI 0), .int (nI 0)])), (d, .inr (0, [.ref da, .int (nI ((rNone r).2))])), (da, .inl (ca 0, 2, .inl (fun j => nI (((rNone r).1) j))))] H := hP
    have hD : va_D A [(q, .inr (1, [.int (nI y), .ref d, .int (nI 3), .int (nI 0), .int (nI 0), .int (nI 0), .int (nI 0)])), (d, .inr (0, [.ref da, .int (nI ((rNone r).2))])), (da, .inl (ca 0, 2, .inl (fun j => nI (((rNone r).1) j))))] := hD
    refine lv_iload_n hx hb dCh_answerToReset_31 rfl (lv_at hl 0 rfl) ?_
    refine k_if_eq (tgt := 40) hx hb (by omega) dCh_answerToReset_32 rfl (fun hz => absurd hz (by omega)) (fun h32 => ?_)
    refine lv_bipush (v := nI 8) hx hb dCh_answerToReset_35 (by decide) ?_
    refine lv_goto (tgt := 41) hx hb dCh_answerToReset_37 rfl ?_
    rw [if_pos (by omega)] at hres
    simp only [cNew, Prod.mk.injEq] at hres
    obtain ⟨rfl, rfl, rfl, rfl, rfl, rfl, rfl⟩ := hres
    exact Co.reti hx hb hret hlk dCh_answerToReset_41 hS hP hD () rfl trivial rfl (Nat.le_of_ble_eq_true rfl) (Nat.le_of_ble_eq_true rfl)
set_option maxHeartbeats 4000000 in
set_option maxRecDepth 100000 in
theorem c_Ch_answerToFlow (l : Launch) (D : va_G) (ca : Nat → ClassId) (q d da y st nx pa du ta : Nat) (r : Rw_) (pk : Nat) (hpk : pk < 2 ^ 31) (hst : st < 6) (hnx : nx < 8) (hpa : pa < 8) (hdu : du < 8) (hta : ta < 8) (hr : r.2 ≤ 2) (rk st' nx' pa' du' ta' : Nat) (r' : Rw_) (hres : cFlow st nx pa du ta r pk = (rk, st', nx', pa', du', ta', r')) : Co (S := Unit) l yCh_answerToFlow (Cond.code yCh_answerToFlow cCh_answerToFlow 5 (some FieldType.int) :: tb_) { frames := 1, cells := 0, slots := 0, locals := 32 } D ca [.ref q, .int (nI pk)] [(q, .inr (1, [.int (nI y), .ref d, .int (nI st), .int (nI nx), .int (nI pa), .int (nI du), .int (nI ta)])), (d, .inr (0, [.ref da, .int (nI r.2)])), (da, .inl (ca 0, 2, .inl (fun j => nI (r.1 j))))] (fun _ => some (.int (nI rk))) (fun _ => True) (fun _ => [(q, .inr (1, [.int (nI y), .ref d, .int (nI st'), .int (nI nx'), .int (nI pa'), .int (nI du'), .int (nI ta')])), (d, .inr (0, [.ref da, .int (nI r'.2)])), (da, .inl (ca 0, 2, .inl (fun j => nI (r'.1 j))))]) 0 0 := by
  refine Co.of cCh_answerToFlow 5 (some FieldType.int) (by decide) (Nat.le_of_ble_eq_true rfl) ?_
  intro p e s m args below meth c A ls fx hret hlk hin hE hP hD hS hA hl
  have hx := fx.1
  have hb := fx.2.1
  have hown : s.vm.findClass RCh = some m.cls := fx.2.2.2.1
  have hts := fx.2.2.2.2
  have ht : ∀ w ∈ tb_, w.before args s = true := fun w h => hts w (List.mem_cons_of_mem _ h)
  have b1 := ds_lt pa nx
  have b2 := ds_lt pa (pAckn pk)
  have b3 : pKind pk < 16 := Nat.mod_lt _ (by decide)
  have b4 : pAckn pk < 8 := Nat.mod_lt _ (by decide)
  have b5 : pNumb pk < 8 := Nat.mod_lt _ (by decide)
  have b6 : pData pk < 512 := Nat.mod_lt _ (by decide)
  have hl : lv_has ls 5 [(0, .ref q), (1, .int (nI pk))] := hl
  refine lv_aload_n hx hb dCh_answerToFlow_0 rfl (lv_at hl 0 rfl) ?_
  refine va_get (D := D) (ci := 1) (v := .int (nI st)) (C := RCh) (T := TCh) (N := 7) hx hb ht inCh hown hE.1 hP 0 rfl rfl 2 (by decide) (ht _ tw_63) (fun _ h => h) rfl dCh_answerToFlow_1 ?_
  refine lv_iconst (v := nI 3) hx hb dCh_answerToFlow_4 (by decide) ?_
  refine k_icmp_eq (tgt := 10) hx hb (by omega) (by omega) dCh_answerToFlow_5 rfl (fun h5 => ?_) (fun h5 => ?_)
  · refine lv_iload_n hx hb dCh_answerToFlow_10 rfl (lv_at hl 1 rfl) ?_
    refine kI (rSN fx (c_Pk_kindOf l D ca pk (by omega)) ⟨va_cnB 1 hts (tb_gi tw_389) rfl rfl rfl (hE.nest tw_387 rfl) (ht _ tw_14) (by decide +kernel) ⟨(Nat.le_of_ble_eq_true rfl), (Nat.le_of_ble_eq_true rfl)⟩, ht _ tw_388, trivial⟩ hE hP hD [] rfl rfl rfl hl.1 rfl (Nat.le_of_ble_eq_true rfl) dCh_answerToFlow_11 ⟨(Nat.le_of_ble_eq_true rfl), (Nat.le_of_ble_eq_true rfl)⟩) hP hD hS hA [] [0, 1, 2] rfl rfl rfl (by decide) (fun _ H locs _ hP hD hS => ?_)
    have hP : va_P D cls_ [(q, .inr (1, [.int (nI y), .ref d, .int (nI st), .int (nI nx), .int (nI pa), .int (nI du), .int (nI ta)])), (d, .inr (0, [.ref da, .int (nI r.2)])), (da, .inl (ca 0, 2, .inl (fun j => nI (r.1 j))))] H := hP
    have hD : va_D A [(q, .inr (1, [.int (nI y), .ref d, .int (nI st), .int (nI nx), .int (nI pa), .int (nI du), .int (nI ta)])), (d, .inr (0, [.ref da, .int (nI r.2)])), (da, .inl (ca 0, 2, .inl (fun j => nI (r.1 j))))] := hD
    refine lv_iconst (v := nI 5) hx hb dCh_answerToFlow_14 (by decide) ?_
    refine k_icmp_ne (tgt := 22) hx hb (by omega) (by omega) dCh_answerToFlow_15 rfl (fun h15 => ?_) (fun h15 => ?_)
    · refine lv_iconst (v := nI 0) hx hb dCh_answerToFlow_22 (by decide) ?_
      refine lv_istore_n hx hb dCh_answerToFlow_23 rfl hl (by decide) rfl (fun ls hl => ?_)
      have hl : lv_has ls 5 [(2, .int (nI 0)), (0, .ref q), (1, .int (nI pk))] := hl
      refine lv_iload_n hx hb dCh_answerToFlow_24 rfl (lv_at hl 2 rfl) ?_
      refine kI (rSN fx (c_Pk_acknowledgementOf l D ca pk (by omega)) ⟨va_cnB 1 hts (tb_gi tw_409) rfl rfl rfl (hE.nest tw_407 rfl) (ht _ tw_14) (by decide +kernel) ⟨(Nat.le_of_ble_eq_true rfl), (Nat.le_of_ble_eq_true rfl)⟩, ht _ tw_408, trivial⟩ hE hP hD [] rfl rfl rfl hl.1 rfl (Nat.le_of_ble_eq_true rfl) dCh_answerToFlow_25 ⟨(Nat.le_of_ble_eq_true rfl), (Nat.le_of_ble_eq_true rfl)⟩) hP hD hS hA [] [0, 1, 2] rfl rfl rfl (by decide) (fun _ H locs _ hP hD hS => ?_)
      have hP : va_P D cls_ [(q, .inr (1, [.int (nI y), .ref d, .int (nI st), .int (nI nx), .int (nI pa), .int (nI du), .int (nI ta)])), (d, .inr (0, [.ref da, .int (nI r.2)])), (da, .inl (ca 0, 2, .inl (fun j => nI (r.1 j))))] H := hP
      have hD : va_D A [(q, .inr (1, [.int (nI y), .ref d, .int (nI st), .int (nI nx), .int (nI pa), .int (nI du), .int (nI ta)])), (d, .inr (0, [.ref da, .int (nI r.2)])), (da, .inl (ca 0, 2, .inl (fun j => nI (r.1 j))))] := hD
      refine lv_istore_n hx hb dCh_answerToFlow_28 rfl hl (by decide) rfl (fun ls hl => ?_)
      have hl : lv_has ls 5 [(3, .int (nI (pAckn pk))), (2, .int (nI 0)), (0, .ref q), (1, .int (nI pk))] := hl
      refine lv_aload_n hx hb dCh_answerToFlow_29 rfl (lv_at hl 2 rfl) ?_
      refine va_get (D := D) (ci := 1) (v := .int (nI pa)) (C := RCh) (T := TCh) (N := 7) hx hb ht inCh hown hE.1 hP 0 rfl rfl 4 (by decide) (ht _ tw_67) (fun _ h => h) rfl dCh_answerToFlow_30 ?_
      refine lv_iload_n hx hb dCh_answerToFlow_33 rfl (lv_at hl 0 rfl) ?_
      refine kI (rSN fx (c_Cl_distance l D ca pa (pAckn pk) (by omega) (by omega)) ⟨va_cnB 2 hts (tb_gi tw_352) rfl rfl rfl (hE.nest tw_410 rfl) (ht _ tw_1) (by decide +kernel) ⟨(Nat.le_of_ble_eq_true rfl), (Nat.le_of_ble_eq_true rfl)⟩, ht _ tw_351, trivial⟩ hE hP hD [] rfl rfl rfl hl.1 rfl (Nat.le_of_ble_eq_true rfl) dCh_answerToFlow_34 ⟨(Nat.le_of_ble_eq_true rfl), (Nat.le_of_ble_eq_true rfl)⟩) hP hD hS hA [] [0, 1, 2] rfl rfl rfl (by decide) (fun _ H locs _ hP hD hS => ?_)
      have hP : va_P D cls_ [(q, .inr (1, [.int (nI y), .ref d, .int (nI st), .int (nI nx), .int (nI pa), .int (nI du), .int (nI ta)])), (d, .inr (0, [.ref da, .int (nI r.2)])), (da, .inl (ca 0, 2, .inl (fun j => nI (r.1 j))))] H := hP
      have hD : va_D A [(q, .inr (1, [.int (nI y), .ref d, .int (nI st), .int (nI nx), .int (nI pa), .int (nI du), .int (nI ta)])), (d, .inr (0, [.ref da, .int (nI r.2)])), (da, .inl (ca 0, 2, .inl (fun j => nI (r.1 j))))] := hD
      refine lv_aload_n hx hb dCh_answerToFlow_37 rfl (lv_at hl 2 rfl) ?_
      refine va_get (D := D) (ci := 1) (v := .int (nI pa)) (C := RCh) (T := TCh) (N := 7) hx hb ht inCh hown hE.1 hP 0 rfl rfl 4 (by decide) (ht _ tw_67) (fun _ h => h) rfl dCh_answerToFlow_38 ?_
      refine lv_aload_n hx hb dCh_answerToFlow_41 rfl (lv_at hl 2 rfl) ?_
      refine va_get (D := D) (ci := 1) (v := .int (nI nx)) (C := RCh) (T := TCh) (N := 7) hx hb ht inCh hown hE.1 hP 0 rfl rfl 3 (by decide) (ht _ tw_65) (fun _ h => h) rfl dCh_answerToFlow_42 ?_
      refine kI (rSN fx (c_Cl_distance l D ca pa nx (by omega) (by omega)) ⟨va_cnB 2 hts (tb_gi tw_352) rfl rfl rfl (hE.nest tw_410 rfl) (ht _ tw_1) (by decide +kernel) ⟨(Nat.le_of_ble_eq_true rfl), (Nat.le_of_ble_eq_true rfl)⟩, ht _ tw_351, trivial⟩ hE hP hD [] rfl rfl rfl hl.1 rfl (Nat.le_of_ble_eq_true rfl) dCh_answerToFlow_45 ⟨(Nat.le_of_ble_eq_true rfl), (Nat.le_of_ble_eq_true rfl)⟩) hP hD hS hA [] [0, 1, 2] rfl rfl rfl (by decide) (fun _ H locs _ hP hD hS => ?_)
      have hP : va_P D cls_ [(q, .inr (1, [.int (nI y), .ref d, .int (nI st), .int (nI nx), .int (nI pa), .int (nI du), .int (nI ta)])), (d, .inr (0, [.ref da, .int (nI r.2)])), (da, .inl (ca 0, 2, .inl (fun j => nI (r.1 j))))] H := hP
      have hD : va_D A [(q, .inr (1, [.int (nI y), .ref d, .int (nI st), .int (nI nx), .int (nI pa), .int (nI du), .int (nI ta)])), (d, .inr (0, [.ref da, .int (nI r.2)])), (da, .inl (ca 0, 2, .inl (fun j => nI (r.1 j))))] := hD
      refine k_icmp_le (tgt := 55) hx hb (by omega) (by omega) dCh_answerToFlow_48 rfl (fun h48 => ?_) (fun h48 => ?_)
      · refine lv_iconst (v := nI 0) hx hb dCh_answerToFlow_55 (by decide) ?_
        refine lv_istore hx hb dCh_answerToFlow_56 hl (by decide) rfl (fun ls hl => ?_)
        have hl : lv_has ls 5 [(4, .int (nI 0)), (3, .int (nI (pAckn pk))), (2, .int (nI 0)), (0, .ref q), (1, .int (nI pk))] := hl
        refine lv_iload_n hx hb dCh_answerToFlow_58 rfl (lv_at hl 2 rfl) ?_
        refine k_if_eq (tgt := 96) hx hb (by omega) dCh_answerToFlow_59 rfl (fun h59 => ?_) (fun hz => absurd hz (by omega))
        refine lv_iload hx hb dCh_answerToFlow_96 (lv_at hl 0 rfl) ?_
        refine k_if_eq (tgt := 109) hx hb (by omega) dCh_answerToFlow_98 rfl (fun h98 => ?_) (fun hz => absurd hz (by omega))
        refine lv_aload_n hx hb dCh_answerToFlow_109 rfl (lv_at hl 3 rfl) ?_
        refine lv_iload_n hx hb dCh_answerToFlow_110 rfl (lv_at hl 1 rfl) ?_
        refine va_put (D := D) (ci := 1) (v := .int (nI (pAckn pk))) (ty := .int) (C := RCh) (T := TCh) (N := 7) hx hb ht inCh tyCh tyCh_ok nmCh hown hE.1 hP hD hS 0 rfl rfl 4 (by decide) (ht _ tw_67) (fun _ h => h) rfl (by decide +kernel) rfl rfl (Nat.le_of_ble_eq_true rfl) dCh_answerToFlow_111 (fun H locs hP hD hS => ?_)
        have hP : va_P D cls_ [(q, .inr (1, [.int (nI y), .ref d, .int (nI st), .int (nI nx), .int (nI (pAckn pk)), .int (nI du), .int (nI ta)])), (d, .inr (0, [.ref da, .int (nI r.2)])), (da, .inl (ca 0, 2, .inl (fun j => nI (r.1 j))))] H := hP
        have hD : va_D A [(q, .inr (1, [.int (nI y), .ref d, .int (nI st), .int (nI nx), .int (nI (pAckn pk)), .int (nI du), .int (nI ta)])), (d, .inr (0, [.ref da, .int (nI r.2)])), (da, .inl (ca 0, 2, .inl (fun j => nI (r.1 j))))] := hD
        refine lv_iload_n hx hb dCh_answerToFlow_114 rfl (lv_at hl 2 rfl) ?_
        refine k_if_eq (tgt := 140) hx hb (by omega) dCh_answerToFlow_115 rfl (fun h115 => ?_) (fun hz => absurd hz (by omega))
        refine lv_iconst (v := nI 0) hx hb dCh_answerToFlow_140 (by decide) ?_
        rw [cFlow, if_neg (by omega), if_neg (by omega), if_neg (by omega)] at hres
        simp only [cNew, Prod.mk.injEq] at hres
        obtain ⟨rfl, rfl, rfl, rfl, rfl, rfl, rfl⟩ := hres
        exact Co.reti hx hb hret hlk dCh_answerToFlow_141 hS hP hD () rfl trivial rfl (Nat.le_of_ble_eq_true rfl) (Nat.le_of_ble_eq_true rfl)
      · refine lv_iconst (v := nI 1) hx hb dCh_answerToFlow_51 (by decide) ?_
        refine lv_goto (tgt := 56) hx hb dCh_answerToFlow_52 rfl ?_
        refine lv_istore hx hb dCh_answerToFlow_56 hl (by decide) rfl (fun ls hl => ?_)
        have hl : lv_has ls 5 [(4, .int (nI 1)), (3, .int (nI (pAckn pk))), (2, .int (nI 0)), (0, .ref q), (1, .int (nI pk))] := hl
        refine lv_iload_n hx hb dCh_answerToFlow_58 rfl (lv_at hl 2 rfl) ?_
        refine k_if_eq (tgt := 96) hx hb (by omega) dCh_answerToFlow_59 rfl (fun h59 => ?_) (fun hz => absurd hz (by omega))
        refine lv_iload hx hb dCh_answerToFlow_96 (lv_at hl 0 rfl) ?_
        refine k_if_eq (tgt := 109) hx hb (by omega) dCh_answerToFlow_98 rfl (fun hz => absurd hz (by omega)) (fun h98 => ?_)
        refine lv_aload_n hx hb dCh_answerToFlow_101 rfl (lv_at hl 3 rfl) ?_
        refine lv_iconst (v := nI 5) hx hb dCh_answerToFlow_102 (by decide) ?_
        refine kV (rV fx (c_Ch_renewAs l D ca q d da y st nx pa du ta r 5) ⟨callB_of 1 hts (tb_gi tw_223) rfl rfl rfl (ht _ tw_4) (ht _ tw_394) (by decide +kernel) ⟨(Nat.le_of_ble_eq_true rfl), (Nat.le_of_ble_eq_true rfl)⟩, ht _ tw_221, ht _ tw_222⟩ hE hP hD 0 rfl rfl rfl [0, 1, 2] rfl rfl rfl hl.1 rfl (Nat.le_of_ble_eq_true rfl) dCh_answerToFlow_103 ⟨(Nat.le_of_ble_eq_true rfl), (Nat.le_of_ble_eq_true rfl)⟩) hP hD hS hA [0, 1, 2] [] rfl rfl rfl (by decide) (fun _ H locs _ hP hD hS => ?_)
        have hP : va_P D cls_ [(q, .inr (1, [.int (nI y), .ref d, .int (nI 5), .int (nI 0), .int (nI 0), .int (nI 0), .int (nI 0)])), (d, .inr (0, [.ref da, .int (nI ((rNone r).2))])), (da, .inl (ca 0, 2, .inl (fun j => nI (((rNone r).1) j))))] H := hP
        have hD : va_D A [(q, .inr (1, [.int (nI y), .ref d, .int (nI 5), .int (nI 0), .int (nI 0), .int (nI 0), .int (nI 0)])), (d, .inr (0, [.ref da, .int (nI ((rNone r).2))])), (da, .inl (ca 0, 2, .inl (fun j => nI (((rNone r).1) j))))] := hD
        refine lv_bipush (v := nI 7) hx hb dCh_answerToFlow_106 (by decide) ?_
        rw [cFlow, if_neg (by omega), if_pos (by omega)] at hres
        simp only [cNew, Prod.mk.injEq] at hres
        obtain ⟨rfl, rfl, rfl, rfl, rfl, rfl, rfl⟩ := hres
        exact Co.reti hx hb hret hlk dCh_answerToFlow_108 hS hP hD () rfl trivial rfl (Nat.le_of_ble_eq_true rfl) (Nat.le_of_ble_eq_true rfl)
    · refine lv_iconst (v := nI 1) hx hb dCh_answerToFlow_18 (by decide) ?_
      refine lv_goto (tgt := 23) hx hb dCh_answerToFlow_19 rfl ?_
      refine lv_istore_n hx hb dCh_answerToFlow_23 rfl hl (by decide) rfl (fun ls hl => ?_)
      have hl : lv_has ls 5 [(2, .int (nI 1)), (0, .ref q), (1, .int (nI pk))] := hl
      refine lv_iload_n hx hb dCh_answerToFlow_24 rfl (lv_at hl 2 rfl) ?_
      refine kI (rSN fx (c_Pk_acknowledgementOf l D ca pk (by omega)) ⟨va_cnB 1 hts (tb_gi tw_409) rfl rfl rfl (hE.nest tw_407 rfl) (ht _ tw_14) (by decide +kernel) ⟨(Nat.le_of_ble_eq_true rfl), (Nat.le_of_ble_eq_true rfl)⟩, ht _ tw_408, trivial⟩ hE hP hD [] rfl rfl rfl hl.1 rfl (Nat.le_of_ble_eq_true rfl) dCh_answerToFlow_25 ⟨(Nat.le_of_ble_eq_true rfl), (Nat.le_of_ble_eq_true rfl)⟩) hP hD hS hA [] [0, 1, 2] rfl rfl rfl (by decide) (fun _ H locs _ hP hD hS => ?_)
      have hP : va_P D cls_ [(q, .inr (1, [.int (nI y), .ref d, .int (nI st), .int (nI nx), .int (nI pa), .int (nI du), .int (nI ta)])), (d, .inr (0, [.ref da, .int (nI r.2)])), (da, .inl (ca 0, 2, .inl (fun j => nI (r.1 j))))] H := hP
      have hD : va_D A [(q, .inr (1, [.int (nI y), .ref d, .int (nI st), .int (nI nx), .int (nI pa), .int (nI du), .int (nI ta)])), (d, .inr (0, [.ref da, .int (nI r.2)])), (da, .inl (ca 0, 2, .inl (fun j => nI (r.1 j))))] := hD
      refine lv_istore_n hx hb dCh_answerToFlow_28 rfl hl (by decide) rfl (fun ls hl => ?_)
      have hl : lv_has ls 5 [(3, .int (nI (pAckn pk))), (2, .int (nI 1)), (0, .ref q), (1, .int (nI pk))] := hl
      refine lv_aload_n hx hb dCh_answerToFlow_29 rfl (lv_at hl 2 rfl) ?_
      refine va_get (D := D) (ci := 1) (v := .int (nI pa)) (C := RCh) (T := TCh) (N := 7) hx hb ht inCh hown hE.1 hP 0 rfl rfl 4 (by decide) (ht _ tw_67) (fun _ h => h) rfl dCh_answerToFlow_30 ?_
      refine lv_iload_n hx hb dCh_answerToFlow_33 rfl (lv_at hl 0 rfl) ?_
      refine kI (rSN fx (c_Cl_distance l D ca pa (pAckn pk) (by omega) (by omega)) ⟨va_cnB 2 hts (tb_gi tw_352) rfl rfl rfl (hE.nest tw_410 rfl) (ht _ tw_1) (by decide +kernel) ⟨(Nat.le_of_ble_eq_true rfl), (Nat.le_of_ble_eq_true rfl)⟩, ht _ tw_351, trivial⟩ hE hP hD [] rfl rfl rfl hl.1 rfl (Nat.le_of_ble_eq_true rfl) dCh_answerToFlow_34 ⟨(Nat.le_of_ble_eq_true rfl), (Nat.le_of_ble_eq_true rfl)⟩) hP hD hS hA [] [0, 1, 2] rfl rfl rfl (by decide) (fun _ H locs _ hP hD hS => ?_)
      have hP : va_P D cls_ [(q, .inr (1, [.int (nI y), .ref d, .int (nI st), .int (nI nx), .int (nI pa), .int (nI du), .int (nI ta)])), (d, .inr (0, [.ref da, .int (nI r.2)])), (da, .inl (ca 0, 2, .inl (fun j => nI (r.1 j))))] H := hP
      have hD : va_D A [(q, .inr (1, [.int (nI y), .ref d, .int (nI st), .int (nI nx), .int (nI pa), .int (nI du), .int (nI ta)])), (d, .inr (0, [.ref da, .int (nI r.2)])), (da, .inl (ca 0, 2, .inl (fun j => nI (r.1 j))))] := hD
      refine lv_aload_n hx hb dCh_answerToFlow_37 rfl (lv_at hl 2 rfl) ?_
      refine va_get (D := D) (ci := 1) (v := .int (nI pa)) (C := RCh) (T := TCh) (N := 7) hx hb ht inCh hown hE.1 hP 0 rfl rfl 4 (by decide) (ht _ tw_67) (fun _ h => h) rfl dCh_answerToFlow_38 ?_
      refine lv_aload_n hx hb dCh_answerToFlow_41 rfl (lv_at hl 2 rfl) ?_
      refine va_get (D := D) (ci := 1) (v := .int (nI nx)) (C := RCh) (T := TCh) (N := 7) hx hb ht inCh hown hE.1 hP 0 rfl rfl 3 (by decide) (ht _ tw_65) (fun _ h => h) rfl dCh_answerToFlow_42 ?_
      refine kI (rSN fx (c_Cl_distance l D ca pa nx (by omega) (by omega)) ⟨va_cnB 2 hts (tb_gi tw_352) rfl rfl rfl (hE.nest tw_410 rfl) (ht _ tw_1) (by decide +kernel) ⟨(Nat.le_of_ble_eq_true rfl), (Nat.le_of_ble_eq_true rfl)⟩, ht _ tw_351, trivial⟩ hE hP hD [] rfl rfl rfl hl.1 rfl (Nat.le_of_ble_eq_true rfl) dCh_answerToFlow_45 ⟨(Nat.le_of_ble_eq_true rfl), (Nat.le_of_ble_eq_true rfl)⟩) hP hD hS hA [] [0, 1, 2] rfl rfl rfl (by decide) (fun _ H locs _ hP hD hS => ?_)
      have hP : va_P D cls_ [(q, .inr (1, [.int (nI y), .ref d, .int (nI st), .int (nI nx), .int (nI pa), .int (nI du), .int (nI ta)])), (d, .inr (0, [.ref da, .int (nI r.2)])), (da, .inl (ca 0, 2, .inl (fun j => nI (r.1 j))))] H := hP
      have hD : va_D A [(q, .inr (1, [.int (nI y), .ref d, .int (nI st), .int (nI nx), .int (nI pa), .int (nI du), .int (nI ta)])), (d, .inr (0, [.ref da, .int (nI r.2)])), (da, .inl (ca 0, 2, .inl (fun j => nI (r.1 j))))] := hD
      refine k_icmp_le (tgt := 55) hx hb (by omega) (by omega) dCh_answerToFlow_48 rfl (fun h48 => ?_) (fun h48 => ?_)
      · refine lv_iconst (v := nI 0) hx hb dCh_answerToFlow_55 (by decide) ?_
        refine lv_istore hx hb dCh_answerToFlow_56 hl (by decide) rfl (fun ls hl => ?_)
        have hl : lv_has ls 5 [(4, .int (nI 0)), (3, .int (nI (pAckn pk))), (2, .int (nI 1)), (0, .ref q), (1, .int (nI pk))] := hl
        refine lv_iload_n hx hb dCh_answerToFlow_58 rfl (lv_at hl 2 rfl) ?_
        refine k_if_eq (tgt := 96) hx hb (by omega) dCh_answerToFlow_59 rfl (fun hz => absurd hz (by omega)) (fun h59 => ?_)
        refine lv_iload hx hb dCh_answerToFlow_62 (lv_at hl 0 rfl) ?_
        refine k_if_ne (tgt := 89) hx hb (by omega) dCh_answerToFlow_64 rfl (fun hz => absurd hz (by omega)) (fun h64 => ?_)
        refine lv_iload_n hx hb dCh_answerToFlow_67 rfl (lv_at hl 4 rfl) ?_
        refine kI (rSN fx (c_Pk_numberOf l D ca pk (by omega)) ⟨va_cnB 1 hts (tb_gi tw_413) rfl rfl rfl (hE.nest tw_411 rfl) (ht _ tw_14) (by decide +kernel) ⟨(Nat.le_of_ble_eq_true rfl), (Nat.le_of_ble_eq_true rfl)⟩, ht _ tw_412, trivial⟩ hE hP hD [] rfl rfl rfl hl.1 rfl (Nat.le_of_ble_eq_true rfl) dCh_answerToFlow_68 ⟨(Nat.le_of_ble_eq_true rfl), (Nat.le_of_ble_eq_true rfl)⟩) hP hD hS hA [] [0, 1, 2] rfl rfl rfl (by decide) (fun _ H locs _ hP hD hS => ?_)
        have hP : va_P D cls_ [(q, .inr (1, [.int (nI y), .ref d, .int (nI st), .int (nI nx), .int (nI pa), .int (nI du), .int (nI ta)])), (d, .inr (0, [.ref da, .int (nI r.2)])), (da, .inl (ca 0, 2, .inl (fun j => nI (r.1 j))))] H := hP
        have hD : va_D A [(q, .inr (1, [.int (nI y), .ref d, .int (nI st), .int (nI nx), .int (nI pa), .int (nI du), .int (nI ta)])), (d, .inr (0, [.ref da, .int (nI r.2)])), (da, .inl (ca 0, 2, .inl (fun j => nI (r.1 j))))] := hD
        refine lv_aload_n hx hb dCh_answerToFlow_71 rfl (lv_at hl 3 rfl) ?_
        refine va_get (D := D) (ci := 1) (v := .int (nI du)) (C := RCh) (T := TCh) (N := 7) hx hb ht inCh hown hE.1 hP 0 rfl rfl 5 (by decide) (ht _ tw_69) (fun _ h => h) rfl dCh_answerToFlow_72 ?_
        refine k_icmp_ne (tgt := 89) hx hb (by omega) (by omega) dCh_answerToFlow_75 rfl (fun h75 => ?_) (fun h75 => ?_)
        · refine lv_iconst (v := nI 1) hx hb dCh_answerToFlow_89 (by decide) ?_
          refine lv_goto (tgt := 94) hx hb dCh_answerToFlow_90 rfl ?_
          refine lv_istore hx hb dCh_answerToFlow_94 hl (by decide) rfl (fun ls hl => ?_)
          have hl : lv_has ls 5 [(4, .int (nI 1)), (3, .int (nI (pAckn pk))), (2, .int (nI 1)), (0, .ref q), (1, .int (nI pk))] := hl
          refine lv_iload hx hb dCh_answerToFlow_96 (lv_at hl 0 rfl) ?_
          refine k_if_eq (tgt := 109) hx hb (by omega) dCh_answerToFlow_98 rfl (fun hz => absurd hz (by omega)) (fun h98 => ?_)
          refine lv_aload_n hx hb dCh_answerToFlow_101 rfl (lv_at hl 3 rfl) ?_
          refine lv_iconst (v := nI 5) hx hb dCh_answerToFlow_102 (by decide) ?_
          refine kV (rV fx (c_Ch_renewAs l D ca q d da y st nx pa du ta r 5) ⟨callB_of 1 hts (tb_gi tw_223) rfl rfl rfl (ht _ tw_4) (ht _ tw_394) (by decide +kernel) ⟨(Nat.le_of_ble_eq_true rfl), (Nat.le_of_ble_eq_true rfl)⟩, ht _ tw_221, ht _ tw_222⟩ hE hP hD 0 rfl rfl rfl [0, 1, 2] rfl rfl rfl hl.1 rfl (Nat.le_of_ble_eq_true rfl) dCh_answerToFlow_103 ⟨(Nat.le_of_ble_eq_true rfl), (Nat.le_of_ble_eq_true rfl)⟩) hP hD hS hA [0, 1, 2] [] rfl rfl rfl (by decide) (fun _ H locs _ hP hD hS => ?_)
          have hP : va_P D cls_ [(q, .inr (1, [.int (nI y), .ref d, .int (nI 5), .int (nI 0), .int (nI 0), .int (nI 0), .int (nI 0)])), (d, .inr (0, [.ref da, .int (nI ((rNone r).2))])), (da, .inl (ca 0, 2, .inl (fun j => nI (((rNone r).1) j))))] H := hP
          have hD : va_D A [(q, .inr (1, [.int (nI y), .ref d, .int (nI 5), .int (nI 0), .int (nI 0), .int (nI 0), .int (nI 0)])), (d, .inr (0, [.ref da, .int (nI ((rNone r).2))])), (da, .inl (ca 0, 2, .inl (fun j => nI (((rNone r).1) j))))] := hD
          refine lv_bipush (v := nI 7) hx hb dCh_answerToFlow_106 (by decide) ?_
          rw [cFlow, if_neg (by omega), if_pos (by omega)] at hres
          simp only [cNew, Prod.mk.injEq] at hres
          obtain ⟨rfl, rfl, rfl, rfl, rfl, rfl, rfl⟩ := hres
          exact Co.reti hx hb hret hlk dCh_answerToFlow_108 hS hP hD () rfl trivial rfl (Nat.le_of_ble_eq_true rfl) (Nat.le_of_ble_eq_true rfl)
        · refine lv_aload_n hx hb dCh_answerToFlow_78 rfl (lv_at hl 3 rfl) ?_
          refine va_get (D := D) (ci := 1) (v := .ref d) (C := RCh) (T := TCh) (N := 7) hx hb ht inCh hown hE.1 hP 0 rfl rfl 1 (by decide) (ht _ tw_61) (fun _ h => h) rfl dCh_answerToFlow_79 ?_
          refine va_getN (D := D) (ci := 0) (v := .int (nI r.2)) (host := "ChannelledLink") (C := RRw) (T := TRw) (N := 2) hx hb ht inRw hown hE.1 hP 1 rfl rfl 1 (by decide) (hE.nestU tw_33 rfl) (fun _ h => h) rfl dCh_answerToFlow_82 ?_
          refine lv_iconst (v := nI 2) hx hb dCh_answerToFlow_85 (by decide) ?_
          refine k_icmp_lt (tgt := 93) hx hb (by omega) (by omega) dCh_answerToFlow_86 rfl (fun h86 => ?_) (fun h86 => ?_)
          · refine lv_iconst (v := nI 0) hx hb dCh_answerToFlow_93 (by decide) ?_
            refine lv_istore hx hb dCh_answerToFlow_94 hl (by decide) rfl (fun ls hl => ?_)
            have hl : lv_has ls 5 [(4, .int (nI 0)), (3, .int (nI (pAckn pk))), (2, .int (nI 1)), (0, .ref q), (1, .int (nI pk))] := hl
            refine lv_iload hx hb dCh_answerToFlow_96 (lv_at hl 0 rfl) ?_
            refine k_if_eq (tgt := 109) hx hb (by omega) dCh_answerToFlow_98 rfl (fun h98 => ?_) (fun hz => absurd hz (by omega))
            refine lv_aload_n hx hb dCh_answerToFlow_109 rfl (lv_at hl 3 rfl) ?_
            refine lv_iload_n hx hb dCh_answerToFlow_110 rfl (lv_at hl 1 rfl) ?_
            refine va_put (D := D) (ci := 1) (v := .int (nI (pAckn pk))) (ty := .int) (C := RCh) (T := TCh) (N := 7) hx hb ht inCh tyCh tyCh_ok nmCh hown hE.1 hP hD hS 0 rfl rfl 4 (by decide) (ht _ tw_67) (fun _ h => h) rfl (by decide +kernel) rfl rfl (Nat.le_of_ble_eq_true rfl) dCh_answerToFlow_111 (fun H locs hP hD hS => ?_)
            have hP : va_P D cls_ [(q, .inr (1, [.int (nI y), .ref d, .int (nI st), .int (nI nx), .int (nI (pAckn pk)), .int (nI du), .int (nI ta)])), (d, .inr (0, [.ref da, .int (nI r.2)])), (da, .inl (ca 0, 2, .inl (fun j => nI (r.1 j))))] H := hP
            have hD : va_D A [(q, .inr (1, [.int (nI y), .ref d, .int (nI st), .int (nI nx), .int (nI (pAckn pk)), .int (nI du), .int (nI ta)])), (d, .inr (0, [.ref da, .int (nI r.2)])), (da, .inl (ca 0, 2, .inl (fun j => nI (r.1 j))))] := hD
            refine lv_iload_n hx hb dCh_answerToFlow_114 rfl (lv_at hl 2 rfl) ?_
            refine k_if_eq (tgt := 140) hx hb (by omega) dCh_answerToFlow_115 rfl (fun hz => absurd hz (by omega)) (fun h115 => ?_)
            refine lv_aload_n hx hb dCh_answerToFlow_118 rfl (lv_at hl 3 rfl) ?_
            refine va_get (D := D) (ci := 1) (v := .ref d) (C := RCh) (T := TCh) (N := 7) hx hb ht inCh hown hE.1 hP 0 rfl rfl 1 (by decide) (ht _ tw_61) (fun _ h => h) rfl dCh_answerToFlow_119 ?_
            refine lv_iload_n hx hb dCh_answerToFlow_122 rfl (lv_at hl 4 rfl) ?_
            refine kI (rSN fx (c_Pk_dataOf l D ca pk (by omega)) ⟨va_cnB 1 hts (tb_gi tw_416) rfl rfl rfl (hE.nest tw_414 rfl) (ht _ tw_14) (by decide +kernel) ⟨(Nat.le_of_ble_eq_true rfl), (Nat.le_of_ble_eq_true rfl)⟩, ht _ tw_415, trivial⟩ hE hP hD [] rfl rfl rfl hl.1 rfl (Nat.le_of_ble_eq_true rfl) dCh_answerToFlow_123 ⟨(Nat.le_of_ble_eq_true rfl), (Nat.le_of_ble_eq_true rfl)⟩) hP hD hS hA [] [0, 1, 2] rfl rfl rfl (by decide) (fun _ H locs _ hP hD hS => ?_)
            have hP : va_P D cls_ [(q, .inr (1, [.int (nI y), .ref d, .int (nI st), .int (nI nx), .int (nI (pAckn pk)), .int (nI du), .int (nI ta)])), (d, .inr (0, [.ref da, .int (nI r.2)])), (da, .inl (ca 0, 2, .inl (fun j => nI (r.1 j))))] H := hP
            have hD : va_D A [(q, .inr (1, [.int (nI y), .ref d, .int (nI st), .int (nI nx), .int (nI (pAckn pk)), .int (nI du), .int (nI ta)])), (d, .inr (0, [.ref da, .int (nI r.2)])), (da, .inl (ca 0, 2, .inl (fun j => nI (r.1 j))))] := hD
            refine kV (rV fx (c_Rw_add l D ca d da 2 r (pData pk) (by decide) (by first | assumption | exact rAdd_le (by assumption) | omega)) ⟨callB_of 1 hts (tb_gi tw_234) rfl rfl rfl (ht _ tw_2) (ht _ tw_417) (by decide +kernel) ⟨(Nat.le_of_ble_eq_true rfl), (Nat.le_of_ble_eq_true rfl)⟩, ht _ tw_232, ht _ tw_233⟩ hE hP hD 1 rfl rfl rfl [1, 2] rfl rfl rfl hl.1 rfl (Nat.le_of_ble_eq_true rfl) dCh_answerToFlow_126 ⟨(Nat.le_of_ble_eq_true rfl), (Nat.le_of_ble_eq_true rfl)⟩) hP hD hS hA [1, 2] [0] rfl rfl rfl (by decide) (fun _ H locs _ hP hD hS => ?_)
            have hP : va_P D cls_ [(q, .inr (1, [.int (nI y), .ref d, .int (nI st), .int (nI nx), .int (nI (pAckn pk)), .int (nI du), .int (nI ta)])), (d, .inr (0, [.ref da, .int (nI ((rAdd 2 r (pData pk)).2))])), (da, .inl (ca 0, 2, .inl (fun j => nI (((rAdd 2 r (pData pk)).1) j))))] H := hP
            have hD : va_D A [(q, .inr (1, [.int (nI y), .ref d, .int (nI st), .int (nI nx), .int (nI (pAckn pk)), .int (nI du), .int (nI ta)])), (d, .inr (0, [.ref da, .int (nI ((rAdd 2 r (pData pk)).2))])), (da, .inl (ca 0, 2, .inl (fun j => nI (((rAdd 2 r (pData pk)).1) j))))] := hD
            refine lv_aload_n hx hb dCh_answerToFlow_129 rfl (lv_at hl 3 rfl) ?_
            refine lv_aload_n hx hb dCh_answerToFlow_130 rfl (lv_at hl 3 rfl) ?_
            refine va_get (D := D) (ci := 1) (v := .int (nI du)) (C := RCh) (T := TCh) (N := 7) hx hb ht inCh hown hE.1 hP 0 rfl rfl 5 (by decide) (ht _ tw_69) (fun _ h => h) rfl dCh_answerToFlow_131 ?_
            refine kI (rSN fx (c_Cl_after l D ca du (by omega)) ⟨va_cnB 1 hts (tb_gi tw_289) rfl rfl rfl (hE.nest tw_418 rfl) (ht _ tw_1) (by decide +kernel) ⟨(Nat.le_of_ble_eq_true rfl), (Nat.le_of_ble_eq_true rfl)⟩, ht _ tw_288, trivial⟩ hE hP hD [] rfl rfl rfl hl.1 rfl (Nat.le_of_ble_eq_true rfl) dCh_answerToFlow_134 ⟨(Nat.le_of_ble_eq_true rfl), (Nat.le_of_ble_eq_true rfl)⟩) hP hD hS hA [] [0, 1, 2] rfl rfl rfl (by decide) (fun _ H locs _ hP hD hS => ?_)
            have hP : va_P D cls_ [(q, .inr (1, [.int (nI y), .ref d, .int (nI st), .int (nI nx), .int (nI (pAckn pk)), .int (nI du), .int (nI ta)])), (d, .inr (0, [.ref da, .int (nI ((rAdd 2 r (pData pk)).2))])), (da, .inl (ca 0, 2, .inl (fun j => nI (((rAdd 2 r (pData pk)).1) j))))] H := hP
            have hD : va_D A [(q, .inr (1, [.int (nI y), .ref d, .int (nI st), .int (nI nx), .int (nI (pAckn pk)), .int (nI du), .int (nI ta)])), (d, .inr (0, [.ref da, .int (nI ((rAdd 2 r (pData pk)).2))])), (da, .inl (ca 0, 2, .inl (fun j => nI (((rAdd 2 r (pData pk)).1) j))))] := hD
            refine va_put (D := D) (ci := 1) (v := .int (nI (af du))) (ty := .int) (C := RCh) (T := TCh) (N := 7) hx hb ht inCh tyCh tyCh_ok nmCh hown hE.1 hP hD hS 0 rfl rfl 5 (by decide) (ht _ tw_69) (fun _ h => h) rfl (by decide +kernel) rfl rfl (Nat.le_of_ble_eq_true rfl) dCh_answerToFlow_137 (fun H locs hP hD hS => ?_)
            have hP : va_P D cls_ [(q, .inr (1, [.int (nI y), .ref d, .int (nI st), .int (nI nx), .int (nI (pAckn pk)), .int (nI (af du)), .int (nI ta)])), (d, .inr (0, [.ref da, .int (nI ((rAdd 2 r (pData pk)).2))])), (da, .inl (ca 0, 2, .inl (fun j => nI (((rAdd 2 r (pData pk)).1) j))))] H := hP
            have hD : va_D A [(q, .inr (1, [.int (nI y), .ref d, .int (nI st), .int (nI nx), .int (nI (pAckn pk)), .int (nI (af du)), .int (nI ta)])), (d, .inr (0, [.ref da, .int (nI ((rAdd 2 r (pData pk)).2))])), (da, .inl (ca 0, 2, .inl (fun j => nI (((rAdd 2 r (pData pk)).1) j))))] := hD
            refine lv_iconst (v := nI 0) hx hb dCh_answerToFlow_140 (by decide) ?_
            rw [cFlow, if_neg (by omega), if_neg (by omega), if_pos (by omega)] at hres
            simp only [cNew, Prod.mk.injEq] at hres
            obtain ⟨rfl, rfl, rfl, rfl, rfl, rfl, rfl⟩ := hres
            exact Co.reti hx hb hret hlk dCh_answerToFlow_141 hS hP hD () rfl trivial rfl (Nat.le_of_ble_eq_true rfl) (Nat.le_of_ble_eq_true rfl)
          · refine lv_iconst (v := nI 1) hx hb dCh_answerToFlow_89 (by decide) ?_
            refine lv_goto (tgt := 94) hx hb dCh_answerToFlow_90 rfl ?_
            refine lv_istore hx hb dCh_answerToFlow_94 hl (by decide) rfl (fun ls hl => ?_)
            have hl : lv_has ls 5 [(4, .int (nI 1)), (3, .int (nI (pAckn pk))), (2, .int (nI 1)), (0, .ref q), (1, .int (nI pk))] := hl
            refine lv_iload hx hb dCh_answerToFlow_96 (lv_at hl 0 rfl) ?_
            refine k_if_eq (tgt := 109) hx hb (by omega) dCh_answerToFlow_98 rfl (fun hz => absurd hz (by omega)) (fun h98 => ?_)
            refine lv_aload_n hx hb dCh_answerToFlow_101 rfl (lv_at hl 3 rfl) ?_
            refine lv_iconst (v := nI 5) hx hb dCh_answerToFlow_102 (by decide) ?_
            refine kV (rV fx (c_Ch_renewAs l D ca q d da y st nx pa du ta r 5) ⟨callB_of 1 hts (tb_gi tw_223) rfl rfl rfl (ht _ tw_4) (ht _ tw_394) (by decide +kernel) ⟨(Nat.le_of_ble_eq_true rfl), (Nat.le_of_ble_eq_true rfl)⟩, ht _ tw_221, ht _ tw_222⟩ hE hP hD 0 rfl rfl rfl [0, 1, 2] rfl rfl rfl hl.1 rfl (Nat.le_of_ble_eq_true rfl) dCh_answerToFlow_103 ⟨(Nat.le_of_ble_eq_true rfl), (Nat.le_of_ble_eq_true rfl)⟩) hP hD hS hA [0, 1, 2] [] rfl rfl rfl (by decide) (fun _ H locs _ hP hD hS => ?_)
            have hP : va_P D cls_ [(q, .inr (1, [.int (nI y), .ref d, .int (nI 5), .int (nI 0), .int (nI 0), .int (nI 0), .int (nI 0)])), (d, .inr (0, [.ref da, .int (nI ((rNone r).2))])), (da, .inl (ca 0, 2, .inl (fun j => nI (((rNone r).1) j))))] H := hP
            have hD : va_D A [(q, .inr (1, [.int (nI y), .ref d, .int (nI 5), .int (nI 0), .int (nI 0), .int (nI 0), .int (nI 0)])), (d, .inr (0, [.ref da, .int (nI ((rNone r).2))])), (da, .inl (ca 0, 2, .inl (fun j => nI (((rNone r).1) j))))] := hD
            refine lv_bipush (v := nI 7) hx hb dCh_answerToFlow_106 (by decide) ?_
            rw [cFlow, if_neg (by omega), if_pos (by omega)] at hres
            simp only [cNew, Prod.mk.injEq] at hres
            obtain ⟨rfl, rfl, rfl, rfl, rfl, rfl, rfl⟩ := hres
            exact Co.reti hx hb hret hlk dCh_answerToFlow_108 hS hP hD () rfl trivial rfl (Nat.le_of_ble_eq_true rfl) (Nat.le_of_ble_eq_true rfl)
      · refine lv_iconst (v := nI 1) hx hb dCh_answerToFlow_51 (by decide) ?_
        refine lv_goto (tgt := 56) hx hb dCh_answerToFlow_52 rfl ?_
        refine lv_istore hx hb dCh_answerToFlow_56 hl (by decide) rfl (fun ls hl => ?_)
        have hl : lv_has ls 5 [(4, .int (nI 1)), (3, .int (nI (pAckn pk))), (2, .int (nI 1)), (0, .ref q), (1, .int (nI pk))] := hl
        refine lv_iload_n hx hb dCh_answerToFlow_58 rfl (lv_at hl 2 rfl) ?_
        refine k_if_eq (tgt := 96) hx hb (by omega) dCh_answerToFlow_59 rfl (fun hz => absurd hz (by omega)) (fun h59 => ?_)
        refine lv_iload hx hb dCh_answerToFlow_62 (lv_at hl 0 rfl) ?_
        refine k_if_ne (tgt := 89) hx hb (by omega) dCh_answerToFlow_64 rfl (fun h64 => ?_) (fun hz => absurd hz (by omega))
        refine lv_iconst (v := nI 1) hx hb dCh_answerToFlow_89 (by decide) ?_
        refine lv_goto (tgt := 94) hx hb dCh_answerToFlow_90 rfl ?_
        refine lv_istore hx hb dCh_answerToFlow_94 hl (by decide) rfl (fun ls hl => ?_)
        have hl : lv_has ls 5 [(4, .int (nI 1)), (3, .int (nI (pAckn pk))), (2, .int (nI 1)), (0, .ref q), (1, .int (nI pk))] := hl
        refine lv_iload hx hb dCh_answerToFlow_96 (lv_at hl 0 rfl) ?_
        refine k_if_eq (tgt := 109) hx hb (by omega) dCh_answerToFlow_98 rfl (fun hz => absurd hz (by omega)) (fun h98 => ?_)
        refine lv_aload_n hx hb dCh_answerToFlow_101 rfl (lv_at hl 3 rfl) ?_
        refine lv_iconst (v := nI 5) hx hb dCh_answerToFlow_102 (by decide) ?_
        refine kV (rV fx (c_Ch_renewAs l D ca q d da y st nx pa du ta r 5) ⟨callB_of 1 hts (tb_gi tw_223) rfl rfl rfl (ht _ tw_4) (ht _ tw_394) (by decide +kernel) ⟨(Nat.le_of_ble_eq_true rfl), (Nat.le_of_ble_eq_true rfl)⟩, ht _ tw_221, ht _ tw_222⟩ hE hP hD 0 rfl rfl rfl [0, 1, 2] rfl rfl rfl hl.1 rfl (Nat.le_of_ble_eq_true rfl) dCh_answerToFlow_103 ⟨(Nat.le_of_ble_eq_true rfl), (Nat.le_of_ble_eq_true rfl)⟩) hP hD hS hA [0, 1, 2] [] rfl rfl rfl (by decide) (fun _ H locs _ hP hD hS => ?_)
        have hP : va_P D cls_ [(q, .inr (1, [.int (nI y), .ref d, .int (nI 5), .int (nI 0), .int (nI 0), .int (nI 0), .int (nI 0)])), (d, .inr (0, [.ref da, .int (nI ((rNone r).2))])), (da, .inl (ca 0, 2, .inl (fun j => nI (((rNone r).1) j))))] H := hP
        have hD : va_D A [(q, .inr (1, [.int (nI y), .ref d, .int (nI 5), .int (nI 0), .int (nI 0), .int (nI 0), .int (nI 0)])), (d, .inr (0, [.ref da, .int (nI ((rNone r).2))])), (da, .inl (ca 0, 2, .inl (fun j => nI (((rNone r).1) j))))] := hD
        refine lv_bipush (v := nI 7) hx hb dCh_answerToFlow_106 (by decide) ?_
        rw [cFlow, if_neg (by omega), if_pos (by omega)] at hres
        simp only [cNew, Prod.mk.injEq] at hres
        obtain ⟨rfl, rfl, rfl, rfl, rfl, rfl, rfl⟩ := hres
        exact Co.reti hx hb hret hlk dCh_answerToFlow_108 hS hP hD () rfl trivial rfl (Nat.le_of_ble_eq_true rfl) (Nat.le_of_ble_eq_true rfl)
  · refine lv_iconst (v := nI 0) hx hb dCh_answerToFlow_8 (by decide) ?_
    rw [cFlow, if_pos (by omega)] at hres
    simp only [cNew, Prod.mk.injEq] at hres
    obtain ⟨rfl, rfl, rfl, rfl, rfl, rfl, rfl⟩ := hres
    exact Co.reti hx hb hret hlk dCh_answerToFlow_9 hS hP hD () rfl trivial rfl (Nat.le_of_ble_eq_true rfl) (Nat.le_of_ble_eq_true rfl)
set_option maxHeartbeats 4000000 in
set_option maxRecDepth 100000 in
theorem c_Ch_answerTo (l : Launch) (D : va_G) (ca : Nat → ClassId) (q d da y st nx pa du ta : Nat) (r : Rw_) (pk : Nat) (hpk : pk < 2 ^ 31) (hy : y < 2) (hst : st < 6) (hnx : nx < 8) (hpa : pa < 8) (hdu : du < 8) (hta : ta < 8) (hr : r.2 ≤ 2) (rk st' nx' pa' du' ta' : Nat) (r' : Rw_) (hres : cAns y st nx pa du ta r pk = (rk, st', nx', pa', du', ta', r')) : Co (S := Unit) l yCh_answerTo (Cond.code yCh_answerTo cCh_answerTo 2 (some FieldType.int) :: tb_) { frames := 2, cells := 0, slots := 0, locals := 64 } D ca [.ref q, .int (nI pk)] [(q, .inr (1, [.int (nI y), .ref d, .int (nI st), .int (nI nx), .int (nI pa), .int (nI du), .int (nI ta)])), (d, .inr (0, [.ref da, .int (nI r.2)])), (da, .inl (ca 0, 2, .inl (fun j => nI (r.1 j))))] (fun _ => some (.int (nI rk))) (fun _ => True) (fun _ => [(q, .inr (1, [.int (nI y), .ref d, .int (nI st'), .int (nI nx'), .int (nI pa'), .int (nI du'), .int (nI ta')])), (d, .inr (0, [.ref da, .int (nI r'.2)])), (da, .inl (ca 0, 2, .inl (fun j => nI (r'.1 j))))]) 0 0 := by
  refine Co.of cCh_answerTo 2 (some FieldType.int) (by decide) (Nat.le_of_ble_eq_true rfl) ?_
  intro p e s m args below meth c A ls fx hret hlk hin hE hP hD hS hA hl
  have hx := fx.1
  have hb := fx.2.1
  have hown : s.vm.findClass RCh = some m.cls := fx.2.2.2.1
  have hts := fx.2.2.2.2
  have ht : ∀ w ∈ tb_, w.before args s = true := fun w h => hts w (List.mem_cons_of_mem _ h)
  have b3 : pKind pk < 16 := Nat.mod_lt _ (by decide)
  have hl : lv_has ls 2 [(0, .ref q), (1, .int (nI pk))] := hl
  refine lv_iload_n hx hb dCh_answerTo_0 rfl (lv_at hl 1 rfl) ?_
  refine kI (rSN fx (c_Pk_kindOf l D ca pk (by omega)) ⟨va_cnB 1 hts (tb_gi tw_389) rfl rfl rfl (hE.nest tw_387 rfl) (ht _ tw_14) (by decide +kernel) ⟨(Nat.le_of_ble_eq_true rfl), (Nat.le_of_ble_eq_true rfl)⟩, ht _ tw_388, trivial⟩ hE hP hD [] rfl rfl rfl hl.1 rfl (Nat.le_of_ble_eq_true rfl) dCh_answerTo_1 ⟨(Nat.le_of_ble_eq_true rfl), (Nat.le_of_ble_eq_true rfl)⟩) hP hD hS hA [] [0, 1, 2] rfl rfl rfl (by decide) (fun _ H locs _ hP hD hS => ?_)
  have hP : va_P D cls_ [(q, .inr (1, [.int (nI y), .ref d, .int (nI st), .int (nI nx), .int (nI pa), .int (nI du), .int (nI ta)])), (d, .inr (0, [.ref da, .int (nI r.2)])), (da, .inl (ca 0, 2, .inl (fun j => nI (r.1 j))))] H := hP
  have hD : va_D A [(q, .inr (1, [.int (nI y), .ref d, .int (nI st), .int (nI nx), .int (nI pa), .int (nI du), .int (nI ta)])), (d, .inr (0, [.ref da, .int (nI r.2)])), (da, .inl (ca 0, 2, .inl (fun j => nI (r.1 j))))] := hD
  rcases (show (pKind pk) = 1 ∨ (pKind pk) = 2 ∨ (pKind pk) = 3 ∨ (pKind pk) = 4 ∨ (pKind pk) = 5 ∨ (pKind pk) = 6 ∨ (pKind pk) = 7 ∨ (pKind pk) = 8 ∨ ((pKind pk) < 1 ∨ 8 < (pKind pk)) by omega) with h4 | h4 | h4 | h4 | h4 | h4 | h4 | h4 | h4
  · refine k_tab (tgt := 52) hx hb 1 h4 dCh_answerTo_4 (by decide) (by decide) rfl rfl ?_
    rw [cAns, if_pos (by omega)] at hres
    refine lv_aload_n hx hb dCh_answerTo_52 rfl (lv_at hl 0 rfl) ?_
    refine kI (rV fx (c_Ch_answerToCall l D ca q d da y st nx pa du ta r (by omega) (by omega) (by omega) (by omega) (by omega) (by omega) (by omega) _ _ _ _ _ _ _ hres) ⟨callB_of 0 hts (tb_gi tw_393) rfl rfl rfl (ht _ tw_4) (ht _ tw_390) (by decide +kernel) ⟨(Nat.le_of_ble_eq_true rfl), (Nat.le_of_ble_eq_true rfl)⟩, ht _ tw_392, ht _ tw_839⟩ hE hP hD 0 rfl rfl rfl [0, 1, 2] rfl rfl rfl hl.1 rfl (Nat.le_of_ble_eq_true rfl) dCh_answerTo_53 ⟨(Nat.le_of_ble_eq_true rfl), (Nat.le_of_ble_eq_true rfl)⟩) hP hD hS hA [0, 1, 2] [] rfl rfl rfl (by decide) (fun _ H locs _ hP hD hS => ?_)
    have hP : va_P D cls_ [(q, .inr (1, [.int (nI y), .ref d, .int (nI st'), .int (nI nx'), .int (nI pa'), .int (nI du'), .int (nI ta')])), (d, .inr (0, [.ref da, .int (nI r'.2)])), (da, .inl (ca 0, 2, .inl (fun j => nI (r'.1 j))))] H := hP
    have hD : va_D A [(q, .inr (1, [.int (nI y), .ref d, .int (nI st'), .int (nI nx'), .int (nI pa'), .int (nI du'), .int (nI ta')])), (d, .inr (0, [.ref da, .int (nI r'.2)])), (da, .inl (ca 0, 2, .inl (fun j => nI (r'.1 j))))] := hD
    exact Co.reti hx hb hret hlk dCh_answerTo_56 hS hP hD () rfl trivial rfl (Nat.le_of_ble_eq_true rfl) (Nat.le_of_ble_eq_true rfl)
  · refine k_tab (tgt := 57) hx hb 2 h4 dCh_answerTo_4 (by decide) (by decide) rfl rfl ?_
    rw [cAns, if_neg (by omega), if_pos (by omega)] at hres
    refine lv_aload_n hx hb dCh_answerTo_57 rfl (lv_at hl 0 rfl) ?_
    refine lv_iconst (v := nI 1) hx hb dCh_answerTo_58 (by decide) ?_
    refine lv_iconst (v := nI 3) hx hb dCh_answerTo_59 (by decide) ?_
    refine kI (rV fx (c_Ch_renewFrom l D ca q d da y st nx pa du ta r 1 3 (by omega) (by omega) (by omega) (by omega) (by omega) (by omega) (by omega) _ _ _ _ _ _ _ hres) ⟨callB_of 2 hts (tb_gi tw_398) rfl rfl rfl (ht _ tw_4) (ht _ tw_395) (by decide +kernel) ⟨(Nat.le_of_ble_eq_true rfl), (Nat.le_of_ble_eq_true rfl)⟩, ht _ tw_397, ht _ tw_840⟩ hE hP hD 0 rfl rfl rfl [0, 1, 2] rfl rfl rfl hl.1 rfl (Nat.le_of_ble_eq_true rfl) dCh_answerTo_60 ⟨(Nat.le_of_ble_eq_true rfl), (Nat.le_of_ble_eq_true rfl)⟩) hP hD hS hA [0, 1, 2] [] rfl rfl rfl (by decide) (fun _ H locs _ hP hD hS => ?_)
    have hP : va_P D cls_ [(q, .inr (1, [.int (nI y), .ref d, .int (nI st'), .int (nI nx'), .int (nI pa'), .int (nI du'), .int (nI ta')])), (d, .inr (0, [.ref da, .int (nI r'.2)])), (da, .inl (ca 0, 2, .inl (fun j => nI (r'.1 j))))] H := hP
    have hD : va_D A [(q, .inr (1, [.int (nI y), .ref d, .int (nI st'), .int (nI nx'), .int (nI pa'), .int (nI du'), .int (nI ta')])), (d, .inr (0, [.ref da, .int (nI r'.2)])), (da, .inl (ca 0, 2, .inl (fun j => nI (r'.1 j))))] := hD
    exact Co.reti hx hb hret hlk dCh_answerTo_63 hS hP hD () rfl trivial rfl (Nat.le_of_ble_eq_true rfl) (Nat.le_of_ble_eq_true rfl)
  · refine k_tab (tgt := 64) hx hb 3 h4 dCh_answerTo_4 (by decide) (by decide) rfl rfl ?_
    rw [cAns, if_neg (by omega), if_neg (by omega), if_pos (by omega)] at hres
    refine lv_aload_n hx hb dCh_answerTo_64 rfl (lv_at hl 0 rfl) ?_
    refine kI (rV fx (c_Ch_answerToClear l D ca q d da y st nx pa du ta r  (by omega) (by omega) (by omega) (by omega) (by omega) (by omega) _ _ _ _ _ _ _ hres) ⟨callB_of 0 hts (tb_gi tw_402) rfl rfl rfl (ht _ tw_4) (ht _ tw_399) (by decide +kernel) ⟨(Nat.le_of_ble_eq_true rfl), (Nat.le_of_ble_eq_true rfl)⟩, ht _ tw_401, ht _ tw_841⟩ hE hP hD 0 rfl rfl rfl [0, 1, 2] rfl rfl rfl hl.1 rfl (Nat.le_of_ble_eq_true rfl) dCh_answerTo_65 ⟨(Nat.le_of_ble_eq_true rfl), (Nat.le_of_ble_eq_true rfl)⟩) hP hD hS hA [0, 1, 2] [] rfl rfl rfl (by decide) (fun _ H locs _ hP hD hS => ?_)
    have hP : va_P D cls_ [(q, .inr (1, [.int (nI y), .ref d, .int (nI st'), .int (nI nx'), .int (nI pa'), .int (nI du'), .int (nI ta')])), (d, .inr (0, [.ref da, .int (nI r'.2)])), (da, .inl (ca 0, 2, .inl (fun j => nI (r'.1 j))))] H := hP
    have hD : va_D A [(q, .inr (1, [.int (nI y), .ref d, .int (nI st'), .int (nI nx'), .int (nI pa'), .int (nI du'), .int (nI ta')])), (d, .inr (0, [.ref da, .int (nI r'.2)])), (da, .inl (ca 0, 2, .inl (fun j => nI (r'.1 j))))] := hD
    exact Co.reti hx hb hret hlk dCh_answerTo_68 hS hP hD () rfl trivial rfl (Nat.le_of_ble_eq_true rfl) (Nat.le_of_ble_eq_true rfl)
  · refine k_tab (tgt := 69) hx hb 4 h4 dCh_answerTo_4 (by decide) (by decide) rfl rfl ?_
    rw [cAns, if_neg (by omega), if_neg (by omega), if_neg (by omega), if_pos (by omega)] at hres
    refine lv_aload_n hx hb dCh_answerTo_69 rfl (lv_at hl 0 rfl) ?_
    refine lv_iconst (v := nI 4) hx hb dCh_answerTo_70 (by decide) ?_
    refine lv_iconst (v := nI 0) hx hb dCh_answerTo_71 (by decide) ?_
    refine kI (rV fx (c_Ch_renewFrom l D ca q d da y st nx pa du ta r 4 0 (by omega) (by omega) (by omega) (by omega) (by omega) (by omega) (by omega) _ _ _ _ _ _ _ hres) ⟨callB_of 2 hts (tb_gi tw_398) rfl rfl rfl (ht _ tw_4) (ht _ tw_395) (by decide +kernel) ⟨(Nat.le_of_ble_eq_true rfl), (Nat.le_of_ble_eq_true rfl)⟩, ht _ tw_397, ht _ tw_840⟩ hE hP hD 0 rfl rfl rfl [0, 1, 2] rfl rfl rfl hl.1 rfl (Nat.le_of_ble_eq_true rfl) dCh_answerTo_72 ⟨(Nat.le_of_ble_eq_true rfl), (Nat.le_of_ble_eq_true rfl)⟩) hP hD hS hA [0, 1, 2] [] rfl rfl rfl (by decide) (fun _ H locs _ hP hD hS => ?_)
    have hP : va_P D cls_ [(q, .inr (1, [.int (nI y), .ref d, .int (nI st'), .int (nI nx'), .int (nI pa'), .int (nI du'), .int (nI ta')])), (d, .inr (0, [.ref da, .int (nI r'.2)])), (da, .inl (ca 0, 2, .inl (fun j => nI (r'.1 j))))] H := hP
    have hD : va_D A [(q, .inr (1, [.int (nI y), .ref d, .int (nI st'), .int (nI nx'), .int (nI pa'), .int (nI du'), .int (nI ta')])), (d, .inr (0, [.ref da, .int (nI r'.2)])), (da, .inl (ca 0, 2, .inl (fun j => nI (r'.1 j))))] := hD
    exact Co.reti hx hb hret hlk dCh_answerTo_75 hS hP hD () rfl trivial rfl (Nat.le_of_ble_eq_true rfl) (Nat.le_of_ble_eq_true rfl)
  · refine k_tab (tgt := 76) hx hb 5 h4 dCh_answerTo_4 (by decide) (by decide) rfl rfl ?_
    rw [cAns, if_neg (by omega), if_neg (by omega), if_neg (by omega), if_neg (by omega), if_pos (by omega)] at hres
    refine lv_aload_n hx hb dCh_answerTo_76 rfl (lv_at hl 0 rfl) ?_
    refine lv_iload_n hx hb dCh_answerTo_77 rfl (lv_at hl 1 rfl) ?_
    refine kI (rV fx (c_Ch_answerToFlow l D ca q d da y st nx pa du ta r pk (by omega) (by omega) (by omega) (by omega) (by omega) (by omega) (by omega) _ _ _ _ _ _ _ hres) ⟨callB_of 1 hts (tb_gi tw_406) rfl rfl rfl (ht _ tw_4) (ht _ tw_403) (by decide +kernel) ⟨(Nat.le_of_ble_eq_true rfl), (Nat.le_of_ble_eq_true rfl)⟩, ht _ tw_405, ht _ tw_842⟩ hE hP hD 0 rfl rfl rfl [0, 1, 2] rfl rfl rfl hl.1 rfl (Nat.le_of_ble_eq_true rfl) dCh_answerTo_78 ⟨(Nat.le_of_ble_eq_true rfl), (Nat.le_of_ble_eq_true rfl)⟩) hP hD hS hA [0, 1, 2] [] rfl rfl rfl (by decide) (fun _ H locs _ hP hD hS => ?_)
    have hP : va_P D cls_ [(q, .inr (1, [.int (nI y), .ref d, .int (nI st'), .int (nI nx'), .int (nI pa'), .int (nI du'), .int (nI ta')])), (d, .inr (0, [.ref da, .int (nI r'.2)])), (da, .inl (ca 0, 2, .inl (fun j => nI (r'.1 j))))] H := hP
    have hD : va_D A [(q, .inr (1, [.int (nI y), .ref d, .int (nI st'), .int (nI nx'), .int (nI pa'), .int (nI du'), .int (nI ta')])), (d, .inr (0, [.ref da, .int (nI r'.2)])), (da, .inl (ca 0, 2, .inl (fun j => nI (r'.1 j))))] := hD
    exact Co.reti hx hb hret hlk dCh_answerTo_81 hS hP hD () rfl trivial rfl (Nat.le_of_ble_eq_true rfl) (Nat.le_of_ble_eq_true rfl)
  · refine k_tab (tgt := 76) hx hb 6 h4 dCh_answerTo_4 (by decide) (by decide) rfl rfl ?_
    rw [cAns, if_neg (by omega), if_neg (by omega), if_neg (by omega), if_neg (by omega), if_pos (by omega)] at hres
    refine lv_aload_n hx hb dCh_answerTo_76 rfl (lv_at hl 0 rfl) ?_
    refine lv_iload_n hx hb dCh_answerTo_77 rfl (lv_at hl 1 rfl) ?_
    refine kI (rV fx (c_Ch_answerToFlow l D ca q d da y st nx pa du ta r pk (by omega) (by omega) (by omega) (by omega) (by omega) (by omega) (by omega) _ _ _ _ _ _ _ hres) ⟨callB_of 1 hts (tb_gi tw_406) rfl rfl rfl (ht _ tw_4) (ht _ tw_403) (by decide +kernel) ⟨(Nat.le_of_ble_eq_true rfl), (Nat.le_of_ble_eq_true rfl)⟩, ht _ tw_405, ht _ tw_842⟩ hE hP hD 0 rfl rfl rfl [0, 1, 2] rfl rfl rfl hl.1 rfl (Nat.le_of_ble_eq_true rfl) dCh_answerTo_78 ⟨(Nat.le_of_ble_eq_true rfl), (Nat.le_of_ble_eq_true rfl)⟩) hP hD hS hA [0, 1, 2] [] rfl rfl rfl (by decide) (fun _ H locs _ hP hD hS => ?_)
    have hP : va_P D cls_ [(q, .inr (1, [.int (nI y), .ref d, .int (nI st'), .int (nI nx'), .int (nI pa'), .int (nI du'), .int (nI ta')])), (d, .inr (0, [.ref da, .int (nI r'.2)])), (da, .inl (ca 0, 2, .inl (fun j => nI (r'.1 j))))] H := hP
    have hD : va_D A [(q, .inr (1, [.int (nI y), .ref d, .int (nI st'), .int (nI nx'), .int (nI pa'), .int (nI du'), .int (nI ta')])), (d, .inr (0, [.ref da, .int (nI r'.2)])), (da, .inl (ca 0, 2, .inl (fun j => nI (r'.1 j))))] := hD
    exact Co.reti hx hb hret hlk dCh_answerTo_81 hS hP hD () rfl trivial rfl (Nat.le_of_ble_eq_true rfl) (Nat.le_of_ble_eq_true rfl)
  · refine k_tab (tgt := 82) hx hb 7 h4 dCh_answerTo_4 (by decide) (by decide) rfl rfl ?_
    rw [cAns, if_neg (by omega), if_neg (by omega), if_neg (by omega), if_neg (by omega), if_neg (by omega), if_pos (by omega)] at hres
    refine lv_aload_n hx hb dCh_answerTo_82 rfl (lv_at hl 0 rfl) ?_
    refine kI (rV fx (c_Ch_answerToReset l D ca q d da y st nx pa du ta r  (by omega) (by omega) (by omega) (by omega) (by omega) (by omega) _ _ _ _ _ _ _ hres) ⟨callB_of 0 hts (tb_gi tw_422) rfl rfl rfl (ht _ tw_4) (ht _ tw_419) (by decide +kernel) ⟨(Nat.le_of_ble_eq_true rfl), (Nat.le_of_ble_eq_true rfl)⟩, ht _ tw_421, ht _ tw_843⟩ hE hP hD 0 rfl rfl rfl [0, 1, 2] rfl rfl rfl hl.1 rfl (Nat.le_of_ble_eq_true rfl) dCh_answerTo_83 ⟨(Nat.le_of_ble_eq_true rfl), (Nat.le_of_ble_eq_true rfl)⟩) hP hD hS hA [0, 1, 2] [] rfl rfl rfl (by decide) (fun _ H locs _ hP hD hS => ?_)
    have hP : va_P D cls_ [(q, .inr (1, [.int (nI y), .ref d, .int (nI st'), .int (nI nx'), .int (nI pa'), .int (nI du'), .int (nI ta')])), (d, .inr (0, [.ref da, .int (nI r'.2)])), (da, .inl (ca 0, 2, .inl (fun j => nI (r'.1 j))))] H := hP
    have hD : va_D A [(q, .inr (1, [.int (nI y), .ref d, .int (nI st'), .int (nI nx'), .int (nI pa'), .int (nI du'), .int (nI ta')])), (d, .inr (0, [.ref da, .int (nI r'.2)])), (da, .inl (ca 0, 2, .inl (fun j => nI (r'.1 j))))] := hD
    exact Co.reti hx hb hret hlk dCh_answerTo_86 hS hP hD () rfl trivial rfl (Nat.le_of_ble_eq_true rfl) (Nat.le_of_ble_eq_true rfl)
  · refine k_tab (tgt := 87) hx hb 8 h4 dCh_answerTo_4 (by decide) (by decide) rfl rfl ?_
    rw [cAns, if_neg (by omega), if_neg (by omega), if_neg (by omega), if_neg (by omega), if_neg (by omega), if_neg (by omega), if_pos (by omega)] at hres
    refine lv_aload_n hx hb dCh_answerTo_87 rfl (lv_at hl 0 rfl) ?_
    refine lv_iconst (v := nI 5) hx hb dCh_answerTo_88 (by decide) ?_
    refine lv_iconst (v := nI 3) hx hb dCh_answerTo_89 (by decide) ?_
    refine kI (rV fx (c_Ch_renewFrom l D ca q d da y st nx pa du ta r 5 3 (by omega) (by omega) (by omega) (by omega) (by omega) (by omega) (by omega) _ _ _ _ _ _ _ hres) ⟨callB_of 2 hts (tb_gi tw_398) rfl rfl rfl (ht _ tw_4) (ht _ tw_395) (by decide +kernel) ⟨(Nat.le_of_ble_eq_true rfl), (Nat.le_of_ble_eq_true rfl)⟩, ht _ tw_397, ht _ tw_840⟩ hE hP hD 0 rfl rfl rfl [0, 1, 2] rfl rfl rfl hl.1 rfl (Nat.le_of_ble_eq_true rfl) dCh_answerTo_90 ⟨(Nat.le_of_ble_eq_true rfl), (Nat.le_of_ble_eq_true rfl)⟩) hP hD hS hA [0, 1, 2] [] rfl rfl rfl (by decide) (fun _ H locs _ hP hD hS => ?_)
    have hP : va_P D cls_ [(q, .inr (1, [.int (nI y), .ref d, .int (nI st'), .int (nI nx'), .int (nI pa'), .int (nI du'), .int (nI ta')])), (d, .inr (0, [.ref da, .int (nI r'.2)])), (da, .inl (ca 0, 2, .inl (fun j => nI (r'.1 j))))] H := hP
    have hD : va_D A [(q, .inr (1, [.int (nI y), .ref d, .int (nI st'), .int (nI nx'), .int (nI pa'), .int (nI du'), .int (nI ta')])), (d, .inr (0, [.ref da, .int (nI r'.2)])), (da, .inl (ca 0, 2, .inl (fun j => nI (r'.1 j))))] := hD
    exact Co.reti hx hb hret hlk dCh_answerTo_93 hS hP hD () rfl trivial rfl (Nat.le_of_ble_eq_true rfl) (Nat.le_of_ble_eq_true rfl)
  · refine k_tabD (tgt := 94) hx hb (by omega) dCh_answerTo_4 (by omega) rfl ?_
    rw [cAns, if_neg (by omega), if_neg (by omega), if_neg (by omega), if_neg (by omega), if_neg (by omega), if_neg (by omega), if_neg (by omega)] at hres
    refine lv_iconst (v := nI 0) hx hb dCh_answerTo_94 (by decide) ?_
    simp only [Prod.mk.injEq] at hres
    obtain ⟨rfl, rfl, rfl, rfl, rfl, rfl, rfl⟩ := hres
    exact Co.reti hx hb hret hlk dCh_answerTo_95 hS hP hD () rfl trivial rfl (Nat.le_of_ble_eq_true rfl) (Nat.le_of_ble_eq_true rfl)
