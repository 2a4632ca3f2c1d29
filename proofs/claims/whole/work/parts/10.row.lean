set_option maxHeartbeats 4000000 in
set_option maxRecDepth 100000 in
/-- Row(2) -/
theorem c_Rw_init_2 (l : Launch) (D : va_G) (ca : Nat → ClassId) (h : Nat) : Co (S := Nat) l yRw_init (Cond.code yRw_init cRw_init 2 none :: tb_) { frames := 1, cells := 1, slots := 2, locals := 32 } D ca [.ref h, .int (nI 2)] [(h, .inr (0, [.null, .int (nI 0)]))] (fun q => none) (fun q => True) (fun q => [(h, .inr (0, [.ref q, .int (nI 0)])), (q, .inl (ca 0, 2, .inl (fun j => nI ((fun _ => 0) j))))]) 1 2 := by
  refine Co.of cRw_init 2 none (by decide) (Nat.le_of_ble_eq_true rfl) ?_
  intro p e s m args below meth c A ls fx hret hlk hin hE hP hD hS hA hl
  have hx := fx.1
  have hb := fx.2.1
  have hown : s.vm.findClass RRw = some m.cls := fx.2.2.2.1
  have hts := fx.2.2.2.2
  have ht : ∀ w ∈ tb_, w.before args s = true := fun w h => hts w (List.mem_cons_of_mem _ h)
  have hl : lv_has ls 2 [(0, .ref h), (1, .int (nI 2))] := hl
  refine lv_aload_n hx hb dRw_init_0 rfl (lv_at hl 0 rfl) ?_
  refine W.objInit hx hb hown (ht _ tw_30) (ht _ tw_23) (ht _ tw_24) rfl (by rw [fx.2.2.1]; exact hl.1) rfl dRw_init_1 (Nat.le_of_ble_eq_true rfl) (Nat.le_of_ble_eq_true rfl) ?_
  refine W.eq (g2 := F0 m 4 ls []) rfl ?_
  refine lv_aload_n hx hb dRw_init_4 rfl (lv_at hl 0 rfl) ?_
  refine lv_iload_n hx hb dRw_init_5 rfl (lv_at hl 1 rfl) ?_
  refine va_newa (atype := .int) (ty := .int) (N' := 2) (a0 := (2, .inl (fun _ => nI 0))) hx hb (ht _ tw_41) rfl hE.1 hP hD hS hA (fun _ => rfl) (nI_pos (by omega)) (nI_clamp (by omega)) (by decide) (Nat.le_of_ble_eq_true rfl) (Nat.le_of_ble_eq_true rfl) dRw_init_6 (fun q6 cA H hK9 hP hD hS => ?_)
  obtain rfl : cA = ca 0 := Option.some.inj ((hK9.2 5 _ rfl).2.symm.trans (hE.1.2 0 _ rfl).2)
  have hP : va_P D cls_ [(h, .inr (0, [.null, .int (nI 0)])), (q6, .inl (ca 0, 2, .inl (fun j => nI ((fun _ => 0) j))))] H := hP
  have hD : va_D A [(h, .inr (0, [.null, .int (nI 0)])), (q6, .inl (ca 0, 2, .inl (fun j => nI ((fun _ => 0) j))))] := hD
  refine va_putF (D := D) (ci := 0) (v := .ref q6) (ty := (.array .int)) (C := RRw) (T := TRw) (N := 2) hx hb ht inRw tyRw tyRw_ok nmRw hown hE.1 hP hD hS 0 rfl rfl 0 (by decide) (ht _ tw_31) (fun _ h => h) rfl hin rfl (by decide +kernel) rfl rfl (Nat.le_of_ble_eq_true rfl) dRw_init_8 (fun H locs hP hD hS => ?_)
  have hP : va_P D cls_ [(h, .inr (0, [.ref q6, .int (nI 0)])), (q6, .inl (ca 0, 2, .inl (fun j => nI ((fun _ => 0) j))))] H := hP
  have hD : va_D A [(h, .inr (0, [.ref q6, .int (nI 0)])), (q6, .inl (ca 0, 2, .inl (fun j => nI ((fun _ => 0) j))))] := hD
  refine lv_aload_n hx hb dRw_init_11 rfl (lv_at hl 0 rfl) ?_
  refine lv_iconst (v := nI 0) hx hb dRw_init_12 (by decide) ?_
  refine va_put (D := D) (ci := 0) (v := .int (nI 0)) (ty := .int) (C := RRw) (T := TRw) (N := 2) hx hb ht inRw tyRw tyRw_ok nmRw hown hE.1 hP hD hS 0 rfl rfl 1 (by decide) (ht _ tw_32) (fun _ h => h) rfl (by decide +kernel) rfl rfl (Nat.le_of_ble_eq_true rfl) dRw_init_13 (fun H locs hP hD hS => ?_)
  have hP : va_P D cls_ [(h, .inr (0, [.ref q6, .int (nI 0)])), (q6, .inl (ca 0, 2, .inl (fun j => nI ((fun _ => 0) j))))] H := hP
  have hD : va_D A [(h, .inr (0, [.ref q6, .int (nI 0)])), (q6, .inl (ca 0, 2, .inl (fun j => nI ((fun _ => 0) j))))] := hD
  exact Co.retv hx hb hret hlk dRw_init_16 hS hP hD q6 rfl trivial rfl (Nat.le_of_ble_eq_true rfl) (Nat.le_of_ble_eq_true rfl)
set_option maxHeartbeats 4000000 in
set_option maxRecDepth 100000 in
/-- Row(12) -/
theorem c_Rw_init_12 (l : Launch) (D : va_G) (ca : Nat → ClassId) (h : Nat) : Co (S := Nat) l yRw_init (Cond.code yRw_init cRw_init 2 none :: tb_) { frames := 1, cells := 1, slots := 12, locals := 32 } D ca [.ref h, .int (nI 12)] [(h, .inr (0, [.null, .int (nI 0)]))] (fun q => none) (fun q => True) (fun q => [(h, .inr (0, [.ref q, .int (nI 0)])), (q, .inl (ca 0, 12, .inl (fun j => nI ((fun _ => 0) j))))]) 1 12 := by
  refine Co.of cRw_init 2 none (by decide) (Nat.le_of_ble_eq_true rfl) ?_
  intro p e s m args below meth c A ls fx hret hlk hin hE hP hD hS hA hl
  have hx := fx.1
  have hb := fx.2.1
  have hown : s.vm.findClass RRw = some m.cls := fx.2.2.2.1
  have hts := fx.2.2.2.2
  have ht : ∀ w ∈ tb_, w.before args s = true := fun w h => hts w (List.mem_cons_of_mem _ h)
  have hl : lv_has ls 2 [(0, .ref h), (1, .int (nI 12))] := hl
  refine lv_aload_n hx hb dRw_init_0 rfl (lv_at hl 0 rfl) ?_
  refine W.objInit hx hb hown (ht _ tw_30) (ht _ tw_23) (ht _ tw_24) rfl (by rw [fx.2.2.1]; exact hl.1) rfl dRw_init_1 (Nat.le_of_ble_eq_true rfl) (Nat.le_of_ble_eq_true rfl) ?_
  refine W.eq (g2 := F0 m 4 ls []) rfl ?_
  refine lv_aload_n hx hb dRw_init_4 rfl (lv_at hl 0 rfl) ?_
  refine lv_iload_n hx hb dRw_init_5 rfl (lv_at hl 1 rfl) ?_
  refine va_newa (atype := .int) (ty := .int) (N' := 12) (a0 := (12, .inl (fun _ => nI 0))) hx hb (ht _ tw_41) rfl hE.1 hP hD hS hA (fun _ => rfl) (nI_pos (by omega)) (nI_clamp (by omega)) (by decide) (Nat.le_of_ble_eq_true rfl) (Nat.le_of_ble_eq_true rfl) dRw_init_6 (fun q6 cA H hK9 hP hD hS => ?_)
  obtain rfl : cA = ca 0 := Option.some.inj ((hK9.2 5 _ rfl).2.symm.trans (hE.1.2 0 _ rfl).2)
  have hP : va_P D cls_ [(h, .inr (0, [.null, .int (nI 0)])), (q6, .inl (ca 0, 12, .inl (fun j => nI ((fun _ => 0) j))))] H := hP
  have hD : va_D A [(h, .inr (0, [.null, .int (nI 0)])), (q6, .inl (ca 0, 12, .inl (fun j => nI ((fun _ => 0) j))))] := hD
  refine va_putF (D := D) (ci := 0) (v := .ref q6) (ty := (.array .int)) (C := RRw) (T := TRw) (N := 2) hx hb ht inRw tyRw tyRw_ok nmRw hown hE.1 hP hD hS 0 rfl rfl 0 (by decide) (ht _ tw_31) (fun _ h => h) rfl hin rfl (by decide +kernel) rfl rfl (Nat.le_of_ble_eq_true rfl) dRw_init_8 (fun H locs hP hD hS => ?_)
  have hP : va_P D cls_ [(h, .inr (0, [.ref q6, .int (nI 0)])), (q6, .inl (ca 0, 12, .inl (fun j => nI ((fun _ => 0) j))))] H := hP
  have hD : va_D A [(h, .inr (0, [.ref q6, .int (nI 0)])), (q6, .inl (ca 0, 12, .inl (fun j => nI ((fun _ => 0) j))))] := hD
  refine lv_aload_n hx hb dRw_init_11 rfl (lv_at hl 0 rfl) ?_
  refine lv_iconst (v := nI 0) hx hb dRw_init_12 (by decide) ?_
  refine va_put (D := D) (ci := 0) (v := .int (nI 0)) (ty := .int) (C := RRw) (T := TRw) (N := 2) hx hb ht inRw tyRw tyRw_ok nmRw hown hE.1 hP hD hS 0 rfl rfl 1 (by decide) (ht _ tw_32) (fun _ h => h) rfl (by decide +kernel) rfl rfl (Nat.le_of_ble_eq_true rfl) dRw_init_13 (fun H locs hP hD hS => ?_)
  have hP : va_P D cls_ [(h, .inr (0, [.ref q6, .int (nI 0)])), (q6, .inl (ca 0, 12, .inl (fun j => nI ((fun _ => 0) j))))] H := hP
  have hD : va_D A [(h, .inr (0, [.ref q6, .int (nI 0)])), (q6, .inl (ca 0, 12, .inl (fun j => nI ((fun _ => 0) j))))] := hD
  exact Co.retv hx hb hret hlk dRw_init_16 hS hP hD q6 rfl trivial rfl (Nat.le_of_ble_eq_true rfl) (Nat.le_of_ble_eq_true rfl)
set_option maxHeartbeats 4000000 in
set_option maxRecDepth 100000 in
/-- Row(16) -/
theorem c_Rw_init_16 (l : Launch) (D : va_G) (ca : Nat → ClassId) (h : Nat) : Co (S := Nat) l yRw_init (Cond.code yRw_init cRw_init 2 none :: tb_) { frames := 1, cells := 1, slots := 16, locals := 32 } D ca [.ref h, .int (nI 16)] [(h, .inr (0, [.null, .int (nI 0)]))] (fun q => none) (fun q => True) (fun q => [(h, .inr (0, [.ref q, .int (nI 0)])), (q, .inl (ca 0, 16, .inl (fun j => nI ((fun _ => 0) j))))]) 1 16 := by
  refine Co.of cRw_init 2 none (by decide) (Nat.le_of_ble_eq_true rfl) ?_
  intro p e s m args below meth c A ls fx hret hlk hin hE hP hD hS hA hl
  have hx := fx.1
  have hb := fx.2.1
  have hown : s.vm.findClass RRw = some m.cls := fx.2.2.2.1
  have hts := fx.2.2.2.2
  have ht : ∀ w ∈ tb_, w.before args s = true := fun w h => hts w (List.mem_cons_of_mem _ h)
  have hl : lv_has ls 2 [(0, .ref h), (1, .int (nI 16))] := hl
  refine lv_aload_n hx hb dRw_init_0 rfl (lv_at hl 0 rfl) ?_
  refine W.objInit hx hb hown (ht _ tw_30) (ht _ tw_23) (ht _ tw_24) rfl (by rw [fx.2.2.1]; exact hl.1) rfl dRw_init_1 (Nat.le_of_ble_eq_true rfl) (Nat.le_of_ble_eq_true rfl) ?_
  refine W.eq (g2 := F0 m 4 ls []) rfl ?_
  refine lv_aload_n hx hb dRw_init_4 rfl (lv_at hl 0 rfl) ?_
  refine lv_iload_n hx hb dRw_init_5 rfl (lv_at hl 1 rfl) ?_
  refine va_newa (atype := .int) (ty := .int) (N' := 16) (a0 := (16, .inl (fun _ => nI 0))) hx hb (ht _ tw_41) rfl hE.1 hP hD hS hA (fun _ => rfl) (nI_pos (by omega)) (nI_clamp (by omega)) (by decide) (Nat.le_of_ble_eq_true rfl) (Nat.le_of_ble_eq_true rfl) dRw_init_6 (fun q6 cA H hK9 hP hD hS => ?_)
  obtain rfl : cA = ca 0 := Option.some.inj ((hK9.2 5 _ rfl).2.symm.trans (hE.1.2 0 _ rfl).2)
  have hP : va_P D cls_ [(h, .inr (0, [.null, .int (nI 0)])), (q6, .inl (ca 0, 16, .inl (fun j => nI ((fun _ => 0) j))))] H := hP
  have hD : va_D A [(h, .inr (0, [.null, .int (nI 0)])), (q6, .inl (ca 0, 16, .inl (fun j => nI ((fun _ => 0) j))))] := hD
  refine va_putF (D := D) (ci := 0) (v := .ref q6) (ty := (.array .int)) (C := RRw) (T := TRw) (N := 2) hx hb ht inRw tyRw tyRw_ok nmRw hown hE.1 hP hD hS 0 rfl rfl 0 (by decide) (ht _ tw_31) (fun _ h => h) rfl hin rfl (by decide +kernel) rfl rfl (Nat.le_of_ble_eq_true rfl) dRw_init_8 (fun H locs hP hD hS => ?_)
  have hP : va_P D cls_ [(h, .inr (0, [.ref q6, .int (nI 0)])), (q6, .inl (ca 0, 16, .inl (fun j => nI ((fun _ => 0) j))))] H := hP
  have hD : va_D A [(h, .inr (0, [.ref q6, .int (nI 0)])), (q6, .inl (ca 0, 16, .inl (fun j => nI ((fun _ => 0) j))))] := hD
  refine lv_aload_n hx hb dRw_init_11 rfl (lv_at hl 0 rfl) ?_
  refine lv_iconst (v := nI 0) hx hb dRw_init_12 (by decide) ?_
  refine va_put (D := D) (ci := 0) (v := .int (nI 0)) (ty := .int) (C := RRw) (T := TRw) (N := 2) hx hb ht inRw tyRw tyRw_ok nmRw hown hE.1 hP hD hS 0 rfl rfl 1 (by decide) (ht _ tw_32) (fun _ h => h) rfl (by decide +kernel) rfl rfl (Nat.le_of_ble_eq_true rfl) dRw_init_13 (fun H locs hP hD hS => ?_)
  have hP : va_P D cls_ [(h, .inr (0, [.ref q6, .int (nI 0)])), (q6, .inl (ca 0, 16, .inl (fun j => nI ((fun _ => 0) j))))] H := hP
  have hD : va_D A [(h, .inr (0, [.ref q6, .int (nI 0)])), (q6, .inl (ca 0, 16, .inl (fun j => nI ((fun _ => 0) j))))] := hD
  exact Co.retv hx hb hret hlk dRw_init_16 hS hP hD q6 rfl trivial rfl (Nat.le_of_ble_eq_true rfl) (Nat.le_of_ble_eq_true rfl)
set_option maxHeartbeats 4000000 in
set_option maxRecDepth 100000 in
theorem c_Rw_add (l : Launch) (D : va_G) (ca : Nat → ClassId) (h a N : Nat) (r : Rw_) (v : Nat) (hN : N < 2 ^ 31) (hr : r.2 ≤ N) : Co (S := Unit) l yRw_add (Cond.code yRw_add cRw_add 2 none :: tb_) { frames := 0, cells := 0, slots := 0, locals := 0 } D ca [.ref h, .int (nI v)] [(h, .inr (0, [.ref a, .int (nI r.2)])), (a, .inl (ca 0, N, .inl (fun j => nI (r.1 j))))] (fun _ => none) (fun _ => True) (fun _ => [(h, .inr (0, [.ref a, .int (nI ((rAdd N r v).2))])), (a, .inl (ca 0, N, .inl (fun j => nI (((rAdd N r v).1) j))))]) 0 0 := by
  refine Co.of cRw_add 2 none (by decide) (Nat.le_of_ble_eq_true rfl) ?_
  intro p e s m args below meth c A ls fx hret hlk hin hE hP hD hS hA hl
  have hx := fx.1
  have hb := fx.2.1
  have hown : s.vm.findClass RRw = some m.cls := fx.2.2.2.1
  have hts := fx.2.2.2.2
  have ht : ∀ w ∈ tb_, w.before args s = true := fun w h => hts w (List.mem_cons_of_mem _ h)
  have hl : lv_has ls 2 [(0, .ref h), (1, .int (nI v))] := hl
  refine lv_aload_n hx hb dRw_add_0 rfl (lv_at hl 0 rfl) ?_
  refine va_get (D := D) (ci := 0) (v := .int (nI r.2)) (C := RRw) (T := TRw) (N := 2) hx hb ht inRw hown hE.1 hP 0 rfl rfl 1 (by decide) (ht _ tw_32) (fun _ h => h) rfl dRw_add_1 ?_
  refine lv_aload_n hx hb dRw_add_4 rfl (lv_at hl 0 rfl) ?_
  refine va_get (D := D) (ci := 0) (v := .ref a) (C := RRw) (T := TRw) (N := 2) hx hb ht inRw hown hE.1 hP 0 rfl rfl 0 (by decide) (ht _ tw_31) (fun _ h => h) rfl dRw_add_5 ?_
  refine va_alen hx hb hE.1 hP 1 0 rfl rfl (v := nI N) rfl dRw_add_8 ?_
  refine k_icmp_ge (tgt := 32) hx hb (by omega) (by omega) dRw_add_9 rfl (fun h9 => ?_) (fun h9 => ?_)
  · have e9 : rAdd N r v = r := if_neg (by omega)
    exact Co.retv hx hb hret hlk dRw_add_32 hS hP hD () rfl trivial (by first | (rw [e9]; done) | (rw [e9]; rfl) | simp only [e9]) (Nat.le_of_ble_eq_true rfl) (Nat.le_of_ble_eq_true rfl)
  · refine lv_aload_n hx hb dRw_add_12 rfl (lv_at hl 0 rfl) ?_
    refine va_get (D := D) (ci := 0) (v := .ref a) (C := RRw) (T := TRw) (N := 2) hx hb ht inRw hown hE.1 hP 0 rfl rfl 0 (by decide) (ht _ tw_31) (fun _ h => h) rfl dRw_add_13 ?_
    refine lv_aload_n hx hb dRw_add_16 rfl (lv_at hl 0 rfl) ?_
    refine va_get (D := D) (ci := 0) (v := .int (nI r.2)) (C := RRw) (T := TRw) (N := 2) hx hb ht inRw hown hE.1 hP 0 rfl rfl 1 (by decide) (ht _ tw_32) (fun _ h => h) rfl dRw_add_17 ?_
    refine lv_iload_n hx hb dRw_add_20 rfl (lv_at hl 1 rfl) ?_
    refine k_iast hx hb hE.1 hP hD hS 1 0 (n := N) (g := r.1) rfl rfl (i := r.2) (x := v) (by omega) (by omega) dRw_add_21 (fun H locs hP hD hS => ?_)
    have hP : va_P D cls_ [(h, .inr (0, [.ref a, .int (nI r.2)])), (a, .inl (ca 0, N, .inl (fun j => nI ((va_up r.1 r.2 v) j))))] H := hP
    have hD : va_D A [(h, .inr (0, [.ref a, .int (nI r.2)])), (a, .inl (ca 0, N, .inl (fun j => nI ((va_up r.1 r.2 v) j))))] := hD
    refine lv_aload_n hx hb dRw_add_22 rfl (lv_at hl 0 rfl) ?_
    refine lv_dup hx hb dRw_add_23 rfl ?_
    refine va_get (D := D) (ci := 0) (v := .int (nI r.2)) (C := RRw) (T := TRw) (N := 2) hx hb ht inRw hown hE.1 hP 0 rfl rfl 1 (by decide) (ht _ tw_32) (fun _ h => h) rfl dRw_add_24 ?_
    refine lv_iconst (v := nI 1) hx hb dRw_add_27 (by decide) ?_
    refine k_iadd hx hb dRw_add_28 ?_
    refine va_put (D := D) (ci := 0) (v := .int (nI (r.2 + 1))) (ty := .int) (C := RRw) (T := TRw) (N := 2) hx hb ht inRw tyRw tyRw_ok nmRw hown hE.1 hP hD hS 0 rfl rfl 1 (by decide) (ht _ tw_32) (fun _ h => h) rfl (by decide +kernel) rfl rfl (Nat.le_of_ble_eq_true rfl) dRw_add_29 (fun H locs hP hD hS => ?_)
    have hP : va_P D cls_ [(h, .inr (0, [.ref a, .int (nI (r.2 + 1))])), (a, .inl (ca 0, N, .inl (fun j => nI ((va_up r.1 r.2 v) j))))] H := hP
    have hD : va_D A [(h, .inr (0, [.ref a, .int (nI (r.2 + 1))])), (a, .inl (ca 0, N, .inl (fun j => nI ((va_up r.1 r.2 v) j))))] := hD
    have e9 : rAdd N r v = (va_up r.1 r.2 v, r.2 + 1) := if_pos h9
    exact Co.retv hx hb hret hlk dRw_add_32 hS hP hD () rfl trivial (by first | (rw [e9]; done) | (rw [e9]; rfl) | simp only [e9]) (Nat.le_of_ble_eq_true rfl) (Nat.le_of_ble_eq_true rfl)
set_option maxHeartbeats 4000000 in
set_option maxRecDepth 100000 in
theorem c_Rw_at (l : Launch) (D : va_G) (ca : Nat → ClassId) (h a N : Nat) (r : Rw_) (k : Nat) (hN : N < 2 ^ 31) (hr : r.2 ≤ N) (hk : k < r.2) : Co (S := Unit) l yRw_at (Cond.code yRw_at cRw_at 2 (some FieldType.int) :: tb_) { frames := 0, cells := 0, slots := 0, locals := 0 } D ca [.ref h, .int (nI k)] [(h, .inr (0, [.ref a, .int (nI r.2)])), (a, .inl (ca 0, N, .inl (fun j => nI (r.1 j))))] (fun _ => some (.int (nI (r.1 k)))) (fun _ => True) (fun _ => [(h, .inr (0, [.ref a, .int (nI r.2)])), (a, .inl (ca 0, N, .inl (fun j => nI (r.1 j))))]) 0 0 := by
  refine Co.of cRw_at 2 (some FieldType.int) (by decide) (Nat.le_of_ble_eq_true rfl) ?_
  intro p e s m args below meth c A ls fx hret hlk hin hE hP hD hS hA hl
  have hx := fx.1
  have hb := fx.2.1
  have hown : s.vm.findClass RRw = some m.cls := fx.2.2.2.1
  have hts := fx.2.2.2.2
  have ht : ∀ w ∈ tb_, w.before args s = true := fun w h => hts w (List.mem_cons_of_mem _ h)
  have hl : lv_has ls 2 [(0, .ref h), (1, .int (nI k))] := hl
  refine lv_iload_n hx hb dRw_at_0 rfl (lv_at hl 1 rfl) ?_
  refine k_if_lt (tgt := 21) hx hb (by omega) dRw_at_1 rfl ?_
  refine lv_iload_n hx hb dRw_at_4 rfl (lv_at hl 1 rfl) ?_
  refine lv_aload_n hx hb dRw_at_5 rfl (lv_at hl 0 rfl) ?_
  refine va_get (D := D) (ci := 0) (v := .int (nI r.2)) (C := RRw) (T := TRw) (N := 2) hx hb ht inRw hown hE.1 hP 0 rfl rfl 1 (by decide) (ht _ tw_32) (fun _ h => h) rfl dRw_at_6 ?_
  refine k_icmp_ge (tgt := 21) hx hb (by omega) (by omega) dRw_at_9 rfl (fun hz => absurd hz (by omega)) (fun h9 => ?_)
  refine lv_aload_n hx hb dRw_at_12 rfl (lv_at hl 0 rfl) ?_
  refine va_get (D := D) (ci := 0) (v := .ref a) (C := RRw) (T := TRw) (N := 2) hx hb ht inRw hown hE.1 hP 0 rfl rfl 0 (by decide) (ht _ tw_31) (fun _ h => h) rfl dRw_at_13 ?_
  refine lv_iload_n hx hb dRw_at_16 rfl (lv_at hl 1 rfl) ?_
  refine k_iald hx hb hE.1 hP 1 0 (n := N) (g := r.1) rfl rfl (i := k) (by omega) (by omega) dRw_at_17 ?_
  refine lv_goto (tgt := 22) hx hb dRw_at_18 rfl ?_
  exact Co.reti hx hb hret hlk dRw_at_22 hS hP hD () rfl trivial rfl (Nat.le_of_ble_eq_true rfl) (Nat.le_of_ble_eq_true rfl)
set_option maxHeartbeats 4000000 in
set_option maxRecDepth 100000 in
theorem c_Rw_drop (l : Launch) (D : va_G) (ca : Nat → ClassId) (h a N : Nat) (r : Rw_) (k : Nat) (hN : N < 2 ^ 31) (hr : r.2 ≤ N) (hk : k ≤ r.2) : Co (S := Unit) l yRw_drop (Cond.code yRw_drop cRw_drop 2 none :: tb_) { frames := 1, cells := 0, slots := 0, locals := 32 } D ca [.ref h, .int (nI k)] [(h, .inr (0, [.ref a, .int (nI r.2)])), (a, .inl (ca 0, N, .inl (fun j => nI (r.1 j))))] (fun _ => none) (fun _ => True) (fun _ => [(h, .inr (0, [.ref a, .int (nI ((rDrop r k).2))])), (a, .inl (ca 0, N, .inl (fun j => nI (((rDrop r k).1) j))))]) 0 0 := by
  refine Co.of cRw_drop 2 none (by decide) (Nat.le_of_ble_eq_true rfl) ?_
  intro p e s m args below meth c A ls fx hret hlk hin hE hP hD hS hA hl
  have hx := fx.1
  have hb := fx.2.1
  have hown : s.vm.findClass RRw = some m.cls := fx.2.2.2.1
  have hts := fx.2.2.2.2
  have ht : ∀ w ∈ tb_, w.before args s = true := fun w h => hts w (List.mem_cons_of_mem _ h)
  have hl : lv_has ls 2 [(0, .ref h), (1, .int (nI k))] := hl
  refine lv_iload_n hx hb dRw_drop_0 rfl (lv_at hl 1 rfl) ?_
  refine k_if_lt (tgt := 12) hx hb (by omega) dRw_drop_1 rfl ?_
  refine lv_iload_n hx hb dRw_drop_4 rfl (lv_at hl 1 rfl) ?_
  refine lv_aload_n hx hb dRw_drop_5 rfl (lv_at hl 0 rfl) ?_
  refine va_get (D := D) (ci := 0) (v := .int (nI r.2)) (C := RRw) (T := TRw) (N := 2) hx hb ht inRw hown hE.1 hP 0 rfl rfl 1 (by decide) (ht _ tw_32) (fun _ h => h) rfl dRw_drop_6 ?_
  refine k_icmp_le (tgt := 13) hx hb (by omega) (by omega) dRw_drop_9 rfl (fun h9 => ?_) (fun hz => absurd hz (by omega))
  refine lv_aload_n hx hb dRw_drop_13 rfl (lv_at hl 0 rfl) ?_
  refine va_get (D := D) (ci := 0) (v := .ref a) (C := RRw) (T := TRw) (N := 2) hx hb ht inRw hown hE.1 hP 0 rfl rfl 0 (by decide) (ht _ tw_31) (fun _ h => h) rfl dRw_drop_14 ?_
  refine lv_iload_n hx hb dRw_drop_17 rfl (lv_at hl 1 rfl) ?_
  refine lv_aload_n hx hb dRw_drop_18 rfl (lv_at hl 0 rfl) ?_
  refine va_get (D := D) (ci := 0) (v := .ref a) (C := RRw) (T := TRw) (N := 2) hx hb ht inRw hown hE.1 hP 0 rfl rfl 0 (by decide) (ht _ tw_31) (fun _ h => h) rfl dRw_drop_19 ?_
  refine lv_iconst (v := nI 0) hx hb dRw_drop_22 (by decide) ?_
  refine lv_aload_n hx hb dRw_drop_23 rfl (lv_at hl 0 rfl) ?_
  refine va_get (D := D) (ci := 0) (v := .int (nI r.2)) (C := RRw) (T := TRw) (N := 2) hx hb ht inRw hown hE.1 hP 0 rfl rfl 1 (by decide) (ht _ tw_32) (fun _ h => h) rfl dRw_drop_24 ?_
  refine lv_iload_n hx hb dRw_drop_27 rfl (lv_at hl 1 rfl) ?_
  refine k_isub hx hb (by omega) dRw_drop_28 ?_
  refine k_copy hx hb (fx.2.2.1.trans hl.1.symm) hown (ht _ tw_325) (ht _ tw_327) (ht _ tw_326) (ht _ tw_13) hE.1 hP hD hS 1 0 (n0 := N) (g := r.1) rfl rfl (k := k) (nn := (r.2 - k)) (by omega) (by omega) (Nat.le_of_ble_eq_true rfl) (Nat.le_of_ble_eq_true rfl) dRw_drop_29 (fun H locs hP hD hS => ?_)
  have hP : va_P D cls_ [(h, .inr (0, [.ref a, .int (nI r.2)])), (a, .inl (ca 0, N, .inl (fun j => nI ((va_cpy r.1 r.1 k 0 (r.2 - k)) j))))] H := hP
  have hD : va_D A [(h, .inr (0, [.ref a, .int (nI r.2)])), (a, .inl (ca 0, N, .inl (fun j => nI ((va_cpy r.1 r.1 k 0 (r.2 - k)) j))))] := hD
  refine lv_aload_n hx hb dRw_drop_32 rfl (lv_at hl 0 rfl) ?_
  refine lv_dup hx hb dRw_drop_33 rfl ?_
  refine va_get (D := D) (ci := 0) (v := .int (nI r.2)) (C := RRw) (T := TRw) (N := 2) hx hb ht inRw hown hE.1 hP 0 rfl rfl 1 (by decide) (ht _ tw_32) (fun _ h => h) rfl dRw_drop_34 ?_
  refine lv_iload_n hx hb dRw_drop_37 rfl (lv_at hl 1 rfl) ?_
  refine k_isub hx hb (by omega) dRw_drop_38 ?_
  refine va_put (D := D) (ci := 0) (v := .int (nI (r.2 - k))) (ty := .int) (C := RRw) (T := TRw) (N := 2) hx hb ht inRw tyRw tyRw_ok nmRw hown hE.1 hP hD hS 0 rfl rfl 1 (by decide) (ht _ tw_32) (fun _ h => h) rfl (by decide +kernel) rfl rfl (Nat.le_of_ble_eq_true rfl) dRw_drop_39 (fun H locs hP hD hS => ?_)
  have hP : va_P D cls_ [(h, .inr (0, [.ref a, .int (nI (r.2 - k))])), (a, .inl (ca 0, N, .inl (fun j => nI ((va_cpy r.1 r.1 k 0 (r.2 - k)) j))))] H := hP
  have hD : va_D A [(h, .inr (0, [.ref a, .int (nI (r.2 - k))])), (a, .inl (ca 0, N, .inl (fun j => nI ((va_cpy r.1 r.1 k 0 (r.2 - k)) j))))] := hD
  exact Co.retv hx hb hret hlk dRw_drop_42 hS hP hD () rfl trivial rfl (Nat.le_of_ble_eq_true rfl) (Nat.le_of_ble_eq_true rfl)
