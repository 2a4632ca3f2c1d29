set_option maxHeartbeats 4000000 in
set_option maxRecDepth 100000 in
theorem c_Mo_less (l : Launch) (D : va_G) (ca : Nat → ClassId) (a b : Nat) (h1 : a < 8) (h2 : b < 8) : Co (S := Unit) l yMo_less (Cond.code yMo_less cMo_less 2 (some FieldType.int) :: tb_) { frames := 0, cells := 0, slots := 0, locals := 0 } D ca [.int (nI a), .int (nI b)] [] (fun _ => some (.int (nI (ds b a)))) (fun _ => True) (fun _ => []) 0 0 := by
  refine Co.of cMo_less 2 (some FieldType.int) (by decide) (Nat.le_of_ble_eq_true rfl) ?_
  intro p e s m args below meth c A ls fx hret hlk hin hE hP hD hS hA hl
  have hx := fx.1
  have hb := fx.2.1
  have hown : s.vm.findClass RMo = some m.cls := fx.2.2.2.1
  have hts := fx.2.2.2.2
  have ht : ∀ w ∈ tb_, w.before args s = true := fun w h => hts w (List.mem_cons_of_mem _ h)
  have hl : lv_has ls 2 [(0, .int (nI a)), (1, .int (nI b))] := hl
  refine lv_iload_n hx hb dMo_less_0 rfl (lv_at hl 0 rfl) ?_
  refine lv_iload_n hx hb dMo_less_1 rfl (lv_at hl 1 rfl) ?_
  refine lv_isub hx hb dMo_less_2 ?_
  refine lv_bipush (v := nI 7) hx hb dMo_less_3 (by decide) ?_
  refine lv_iand hx hb dMo_less_5 ?_
  refine k_is (y := nI (ds b a)) (n_dist b h2 a h1) ?_
  exact Co.reti hx hb hret hlk dMo_less_6 hS hP hD () rfl trivial rfl (Nat.le_of_ble_eq_true rfl) (Nat.le_of_ble_eq_true rfl)
set_option maxHeartbeats 4000000 in
set_option maxRecDepth 100000 in
theorem c_Mo_grown (l : Launch) (D : va_G) (ca : Nat → ClassId) (a : Nat) (h1 : a < 8) : Co (S := Unit) l yMo_grown (Cond.code yMo_grown cMo_grown 1 (some FieldType.int) :: tb_) { frames := 0, cells := 0, slots := 0, locals := 0 } D ca [.int (nI a)] [] (fun _ => some (.int (nI (af a)))) (fun _ => True) (fun _ => []) 0 0 := by
  refine Co.of cMo_grown 1 (some FieldType.int) (by decide) (Nat.le_of_ble_eq_true rfl) ?_
  intro p e s m args below meth c A ls fx hret hlk hin hE hP hD hS hA hl
  have hx := fx.1
  have hb := fx.2.1
  have hown : s.vm.findClass RMo = some m.cls := fx.2.2.2.1
  have hts := fx.2.2.2.2
  have ht : ∀ w ∈ tb_, w.before args s = true := fun w h => hts w (List.mem_cons_of_mem _ h)
  have hl : lv_has ls 1 [(0, .int (nI a))] := hl
  refine lv_iload_n hx hb dMo_grown_0 rfl (lv_at hl 0 rfl) ?_
  refine lv_iconst (v := nI 1) hx hb dMo_grown_1 (by decide) ?_
  refine k_iadd hx hb dMo_grown_2 ?_
  refine lv_bipush (v := nI 7) hx hb dMo_grown_3 (by decide) ?_
  refine lv_iand hx hb dMo_grown_5 ?_
  refine k_is (y := nI (af a)) (n_after h1) ?_
  exact Co.reti hx hb hret hlk dMo_grown_6 hS hP hD () rfl trivial rfl (Nat.le_of_ble_eq_true rfl) (Nat.le_of_ble_eq_true rfl)
set_option maxHeartbeats 4000000 in
set_option maxRecDepth 100000 in
theorem c_Mo_transmitP (l : Launch) (D : va_G) (ca : Nat → ClassId) (h : Nat) (ad : Nat → Nat) (co : Nat) (M : Nat → Nat → Nat) (s₀ kd nb ak pp : Nat) (hM : mOk M) (hs : s₀ < 2) (h1 : kd < 1048576) (h2 : nb < 1048576) (h3 : ak < 1048576) (h4 : pp < 32) : Co (S := Unit) l yMo_transmit (Cond.code yMo_transmit cMo_transmit 8 none :: tb_) { frames := 0, cells := 0, slots := 0, locals := 0 } D ca [.ref h, .int (nI s₀), .int (nI kd), .int (nI nb), .int (nI ak), .int (nI pp)] (mW h ad ca co M) (fun _ => none) (fun _ => True) (fun _ => (mW h ad ca co (mTrP M s₀ kd nb ak pp))) 0 0 := by
  refine Co.of cMo_transmit 8 none (by decide) (Nat.le_of_ble_eq_true rfl) ?_
  intro p e s m args below meth c A ls fx hret hlk hin hE hP hD hS hA hl
  have hx := fx.1
  have hb := fx.2.1
  have hown : s.vm.findClass RMo = some m.cls := fx.2.2.2.1
  have hts := fx.2.2.2.2
  have ht : ∀ w ∈ tb_, w.before args s = true := fun w h => hts w (List.mem_cons_of_mem _ h)
  have b1 : M 1 (1 - s₀) < 13 := hM 1 _
  have hl : lv_has ls 8 [(0, .ref h), (1, .int (nI s₀)), (2, .int (nI kd)), (3, .int (nI nb)), (4, .int (nI ak)), (5, .int (nI pp))] := hl
  refine lv_iconst (v := nI 1) hx hb dMo_transmit_0 (by decide) ?_
  refine lv_iload_n hx hb dMo_transmit_1 rfl (lv_at hl 1 rfl) ?_
  refine k_isub hx hb (by omega) dMo_transmit_2 ?_
  refine lv_istore hx hb dMo_transmit_3 hl (by decide) rfl (fun ls hl => ?_)
  have hl : lv_has ls 8 [(6, .int (nI (1 - s₀))), (0, .ref h), (1, .int (nI s₀)), (2, .int (nI kd)), (3, .int (nI nb)), (4, .int (nI ak)), (5, .int (nI pp))] := hl
  refine lv_aload_n hx hb dMo_transmit_5 rfl (lv_at hl 1 rfl) ?_
  refine va_get (D := D) (ci := 4) (v := .ref (ad 1)) (C := RMo) (T := TMo) (N := 29) hx hb ht inMo hown hE.1 hP 0 rfl rfl 1 (by decide) (ht _ tw_588) (fun _ h => h) rfl dMo_transmit_6 ?_
  refine lv_iload hx hb dMo_transmit_9 (lv_at hl 0 rfl) ?_
  refine k_iald hx hb hE.1 hP 1 0 (n := 2) (g := (M 1)) rfl rfl (i := (1 - s₀)) (by omega) (by decide) dMo_transmit_11 ?_
  refine lv_bipush (v := nI 12) hx hb dMo_transmit_12 (by decide) ?_
  refine k_icmp_ne (tgt := 18) hx hb (by omega) (by omega) dMo_transmit_14 rfl (fun h14 => ?_) (fun h14 => ?_)
  · refine lv_bipush (v := nI 12) hx hb dMo_transmit_18 (by decide) ?_
    refine lv_iload hx hb dMo_transmit_20 (lv_at hl 0 rfl) ?_
    refine k_imul hx hb dMo_transmit_22 ?_
    refine lv_aload_n hx hb dMo_transmit_23 rfl (lv_at hl 1 rfl) ?_
    refine va_get (D := D) (ci := 4) (v := .ref (ad 1)) (C := RMo) (T := TMo) (N := 29) hx hb ht inMo hown hE.1 hP 0 rfl rfl 1 (by decide) (ht _ tw_588) (fun _ h => h) rfl dMo_transmit_24 ?_
    refine lv_iload hx hb dMo_transmit_27 (lv_at hl 0 rfl) ?_
    refine k_iald hx hb hE.1 hP 1 0 (n := 2) (g := (M 1)) rfl rfl (i := (1 - s₀)) (by omega) (by decide) dMo_transmit_29 ?_
    refine k_iadd hx hb dMo_transmit_30 ?_
    refine lv_istore hx hb dMo_transmit_31 hl (by decide) rfl (fun ls hl => ?_)
    have hl : lv_has ls 8 [(7, .int (nI ((12 * (1 - s₀)) + (M 1 (1 - s₀))))), (6, .int (nI (1 - s₀))), (0, .ref h), (1, .int (nI s₀)), (2, .int (nI kd)), (3, .int (nI nb)), (4, .int (nI ak)), (5, .int (nI pp))] := hl
    refine lv_aload_n hx hb dMo_transmit_33 rfl (lv_at hl 2 rfl) ?_
    refine va_get (D := D) (ci := 4) (v := .ref (ad 1)) (C := RMo) (T := TMo) (N := 29) hx hb ht inMo hown hE.1 hP 0 rfl rfl 1 (by decide) (ht _ tw_588) (fun _ h => h) rfl dMo_transmit_34 ?_
    refine lv_iload hx hb dMo_transmit_37 (lv_at hl 1 rfl) ?_
    refine lv_aload_n hx hb dMo_transmit_39 rfl (lv_at hl 2 rfl) ?_
    refine va_get (D := D) (ci := 4) (v := .ref (ad 1)) (C := RMo) (T := TMo) (N := 29) hx hb ht inMo hown hE.1 hP 0 rfl rfl 1 (by decide) (ht _ tw_588) (fun _ h => h) rfl dMo_transmit_40 ?_
    refine lv_iload hx hb dMo_transmit_43 (lv_at hl 1 rfl) ?_
    refine k_iald hx hb hE.1 hP 1 0 (n := 2) (g := (M 1)) rfl rfl (i := (1 - s₀)) (by omega) (by decide) dMo_transmit_45 ?_
    refine lv_iconst (v := nI 1) hx hb dMo_transmit_46 (by decide) ?_
    refine k_iadd hx hb dMo_transmit_47 ?_
    refine k_iast hx hb hE.1 hP hD hS 1 0 (n := 2) (g := (M 1)) rfl rfl (i := (1 - s₀)) (x := ((M 1 (1 - s₀)) + 1)) (by omega) (by decide) dMo_transmit_48 (fun H locs hP hD hS => ?_)
    rw [mo_set_1] at hP hD
    refine lv_aload_n hx hb dMo_transmit_49 rfl (lv_at hl 2 rfl) ?_
    refine va_get (D := D) (ci := 4) (v := .ref (ad 2)) (C := RMo) (T := TMo) (N := 29) hx hb ht inMo hown hE.1 hP 0 rfl rfl 2 (by decide) (ht _ tw_589) (fun _ h => h) rfl dMo_transmit_50 ?_
    refine lv_iload hx hb dMo_transmit_53 (lv_at hl 0 rfl) ?_
    refine lv_iload_n hx hb dMo_transmit_55 rfl (lv_at hl 4 rfl) ?_
    refine k_iast hx hb hE.1 hP hD hS 2 0 (n := 24) (g := ((mS M 1 (1 - s₀) ((M 1 (1 - s₀)) + 1)) 2)) rfl rfl (i := ((12 * (1 - s₀)) + (M 1 (1 - s₀)))) (x := kd) (by omega) (by decide) dMo_transmit_56 (fun H locs hP hD hS => ?_)
    rw [mo_set_2] at hP hD
    refine lv_aload_n hx hb dMo_transmit_57 rfl (lv_at hl 2 rfl) ?_
    refine va_get (D := D) (ci := 4) (v := .ref (ad 3)) (C := RMo) (T := TMo) (N := 29) hx hb ht inMo hown hE.1 hP 0 rfl rfl 3 (by decide) (ht _ tw_590) (fun _ h => h) rfl dMo_transmit_58 ?_
    refine lv_iload hx hb dMo_transmit_61 (lv_at hl 0 rfl) ?_
    refine lv_iload_n hx hb dMo_transmit_63 rfl (lv_at hl 5 rfl) ?_
    refine k_iast hx hb hE.1 hP hD hS 3 0 (n := 24) (g := ((mS (mS M 1 (1 - s₀) ((M 1 (1 - s₀)) + 1)) 2 ((12 * (1 - s₀)) + (M 1 (1 - s₀))) kd) 3)) rfl rfl (i := ((12 * (1 - s₀)) + (M 1 (1 - s₀)))) (x := nb) (by omega) (by decide) dMo_transmit_64 (fun H locs hP hD hS => ?_)
    rw [mo_set_3] at hP hD
    refine lv_aload_n hx hb dMo_transmit_65 rfl (lv_at hl 2 rfl) ?_
    refine va_get (D := D) (ci := 4) (v := .ref (ad 4)) (C := RMo) (T := TMo) (N := 29) hx hb ht inMo hown hE.1 hP 0 rfl rfl 4 (by decide) (ht _ tw_591) (fun _ h => h) rfl dMo_transmit_66 ?_
    refine lv_iload hx hb dMo_transmit_69 (lv_at hl 0 rfl) ?_
    refine lv_iload hx hb dMo_transmit_71 (lv_at hl 6 rfl) ?_
    refine k_iast hx hb hE.1 hP hD hS 4 0 (n := 24) (g := ((mS (mS (mS M 1 (1 - s₀) ((M 1 (1 - s₀)) + 1)) 2 ((12 * (1 - s₀)) + (M 1 (1 - s₀))) kd) 3 ((12 * (1 - s₀)) + (M 1 (1 - s₀))) nb) 4)) rfl rfl (i := ((12 * (1 - s₀)) + (M 1 (1 - s₀)))) (x := ak) (by omega) (by decide) dMo_transmit_73 (fun H locs hP hD hS => ?_)
    rw [mo_set_4] at hP hD
    refine lv_aload_n hx hb dMo_transmit_74 rfl (lv_at hl 2 rfl) ?_
    refine va_get (D := D) (ci := 4) (v := .ref (ad 5)) (C := RMo) (T := TMo) (N := 29) hx hb ht inMo hown hE.1 hP 0 rfl rfl 5 (by decide) (ht _ tw_592) (fun _ h => h) rfl dMo_transmit_75 ?_
    refine lv_iload hx hb dMo_transmit_78 (lv_at hl 0 rfl) ?_
    refine lv_iload hx hb dMo_transmit_80 (lv_at hl 7 rfl) ?_
    refine k_if_ge (tgt := 89) hx hb (by omega) dMo_transmit_82 rfl ?_
    refine lv_aload_n hx hb dMo_transmit_89 rfl (lv_at hl 2 rfl) ?_
    refine va_get (D := D) (ci := 4) (v := .ref (ad 18)) (C := RMo) (T := TMo) (N := 29) hx hb ht inMo hown hE.1 hP 0 rfl rfl 18 (by decide) (ht _ tw_605) (fun _ h => h) rfl dMo_transmit_90 ?_
    refine lv_iload hx hb dMo_transmit_93 (lv_at hl 7 rfl) ?_
    refine k_iald hx hb hE.1 hP 18 0 (n := 32) (g := (M 18)) rfl rfl (i := pp) (by omega) (by decide) dMo_transmit_95 ?_
    refine k_iast hx hb hE.1 hP hD hS 5 0 (n := 24) (g := ((mS (mS (mS (mS M 1 (1 - s₀) ((M 1 (1 - s₀)) + 1)) 2 ((12 * (1 - s₀)) + (M 1 (1 - s₀))) kd) 3 ((12 * (1 - s₀)) + (M 1 (1 - s₀))) nb) 4 ((12 * (1 - s₀)) + (M 1 (1 - s₀))) ak) 5)) rfl rfl (i := ((12 * (1 - s₀)) + (M 1 (1 - s₀)))) (x := (M 18 pp)) (by omega) (by decide) dMo_transmit_96 (fun H locs hP hD hS => ?_)
    rw [mo_set_5] at hP hD
    refine lv_aload_n hx hb dMo_transmit_97 rfl (lv_at hl 2 rfl) ?_
    refine va_get (D := D) (ci := 4) (v := .ref (ad 6)) (C := RMo) (T := TMo) (N := 29) hx hb ht inMo hown hE.1 hP 0 rfl rfl 6 (by decide) (ht _ tw_593) (fun _ h => h) rfl dMo_transmit_98 ?_
    refine lv_iload hx hb dMo_transmit_101 (lv_at hl 0 rfl) ?_
    refine lv_iload hx hb dMo_transmit_103 (lv_at hl 7 rfl) ?_
    refine k_if_ge (tgt := 112) hx hb (by omega) dMo_transmit_105 rfl ?_
    refine lv_aload_n hx hb dMo_transmit_112 rfl (lv_at hl 2 rfl) ?_
    refine va_get (D := D) (ci := 4) (v := .ref (ad 19)) (C := RMo) (T := TMo) (N := 29) hx hb ht inMo hown hE.1 hP 0 rfl rfl 19 (by decide) (ht _ tw_606) (fun _ h => h) rfl dMo_transmit_113 ?_
    refine lv_iload hx hb dMo_transmit_116 (lv_at hl 7 rfl) ?_
    refine k_iald hx hb hE.1 hP 19 0 (n := 32) (g := (M 19)) rfl rfl (i := pp) (by omega) (by decide) dMo_transmit_118 ?_
    refine k_iast hx hb hE.1 hP hD hS 6 0 (n := 24) (g := ((mS (mS (mS (mS (mS M 1 (1 - s₀) ((M 1 (1 - s₀)) + 1)) 2 ((12 * (1 - s₀)) + (M 1 (1 - s₀))) kd) 3 ((12 * (1 - s₀)) + (M 1 (1 - s₀))) nb) 4 ((12 * (1 - s₀)) + (M 1 (1 - s₀))) ak) 5 ((12 * (1 - s₀)) + (M 1 (1 - s₀))) (M 18 pp)) 6)) rfl rfl (i := ((12 * (1 - s₀)) + (M 1 (1 - s₀)))) (x := (M 19 pp)) (by omega) (by decide) dMo_transmit_119 (fun H locs hP hD hS => ?_)
    rw [mo_set_6] at hP hD
    refine lv_aload_n hx hb dMo_transmit_120 rfl (lv_at hl 2 rfl) ?_
    refine va_get (D := D) (ci := 4) (v := .ref (ad 7)) (C := RMo) (T := TMo) (N := 29) hx hb ht inMo hown hE.1 hP 0 rfl rfl 7 (by decide) (ht _ tw_594) (fun _ h => h) rfl dMo_transmit_121 ?_
    refine lv_iload hx hb dMo_transmit_124 (lv_at hl 0 rfl) ?_
    refine lv_iload hx hb dMo_transmit_126 (lv_at hl 7 rfl) ?_
    refine k_if_ge (tgt := 135) hx hb (by omega) dMo_transmit_128 rfl ?_
    refine lv_aload_n hx hb dMo_transmit_135 rfl (lv_at hl 2 rfl) ?_
    refine va_get (D := D) (ci := 4) (v := .ref (ad 20)) (C := RMo) (T := TMo) (N := 29) hx hb ht inMo hown hE.1 hP 0 rfl rfl 20 (by decide) (ht _ tw_607) (fun _ h => h) rfl dMo_transmit_136 ?_
    refine lv_iload hx hb dMo_transmit_139 (lv_at hl 7 rfl) ?_
    refine k_iald hx hb hE.1 hP 20 0 (n := 32) (g := (M 20)) rfl rfl (i := pp) (by omega) (by decide) dMo_transmit_141 ?_
    refine k_iast hx hb hE.1 hP hD hS 7 0 (n := 24) (g := ((mS (mS (mS (mS (mS (mS M 1 (1 - s₀) ((M 1 (1 - s₀)) + 1)) 2 ((12 * (1 - s₀)) + (M 1 (1 - s₀))) kd) 3 ((12 * (1 - s₀)) + (M 1 (1 - s₀))) nb) 4 ((12 * (1 - s₀)) + (M 1 (1 - s₀))) ak) 5 ((12 * (1 - s₀)) + (M 1 (1 - s₀))) (M 18 pp)) 6 ((12 * (1 - s₀)) + (M 1 (1 - s₀))) (M 19 pp)) 7)) rfl rfl (i := ((12 * (1 - s₀)) + (M 1 (1 - s₀)))) (x := (M 20 pp)) (by omega) (by decide) dMo_transmit_142 (fun H locs hP hD hS => ?_)
    rw [mo_set_7] at hP hD
    refine lv_aload_n hx hb dMo_transmit_143 rfl (lv_at hl 2 rfl) ?_
    refine va_get (D := D) (ci := 4) (v := .ref (ad 8)) (C := RMo) (T := TMo) (N := 29) hx hb ht inMo hown hE.1 hP 0 rfl rfl 8 (by decide) (ht _ tw_595) (fun _ h => h) rfl dMo_transmit_144 ?_
    refine lv_iload hx hb dMo_transmit_147 (lv_at hl 0 rfl) ?_
    refine lv_iload hx hb dMo_transmit_149 (lv_at hl 7 rfl) ?_
    refine k_if_ge (tgt := 158) hx hb (by omega) dMo_transmit_151 rfl ?_
    refine lv_aload_n hx hb dMo_transmit_158 rfl (lv_at hl 2 rfl) ?_
    refine va_get (D := D) (ci := 4) (v := .ref (ad 21)) (C := RMo) (T := TMo) (N := 29) hx hb ht inMo hown hE.1 hP 0 rfl rfl 21 (by decide) (ht _ tw_608) (fun _ h => h) rfl dMo_transmit_159 ?_
    refine lv_iload hx hb dMo_transmit_162 (lv_at hl 7 rfl) ?_
    refine k_iald hx hb hE.1 hP 21 0 (n := 32) (g := (M 21)) rfl rfl (i := pp) (by omega) (by decide) dMo_transmit_164 ?_
    refine k_iast hx hb hE.1 hP hD hS 8 0 (n := 24) (g := ((mS (mS (mS (mS (mS (mS (mS M 1 (1 - s₀) ((M 1 (1 - s₀)) + 1)) 2 ((12 * (1 - s₀)) + (M 1 (1 - s₀))) kd) 3 ((12 * (1 - s₀)) + (M 1 (1 - s₀))) nb) 4 ((12 * (1 - s₀)) + (M 1 (1 - s₀))) ak) 5 ((12 * (1 - s₀)) + (M 1 (1 - s₀))) (M 18 pp)) 6 ((12 * (1 - s₀)) + (M 1 (1 - s₀))) (M 19 pp)) 7 ((12 * (1 - s₀)) + (M 1 (1 - s₀))) (M 20 pp)) 8)) rfl rfl (i := ((12 * (1 - s₀)) + (M 1 (1 - s₀)))) (x := (M 21 pp)) (by omega) (by decide) dMo_transmit_165 (fun H locs hP hD hS => ?_)
    rw [mo_set_8] at hP hD
    refine lv_aload_n hx hb dMo_transmit_166 rfl (lv_at hl 2 rfl) ?_
    refine va_get (D := D) (ci := 4) (v := .ref (ad 9)) (C := RMo) (T := TMo) (N := 29) hx hb ht inMo hown hE.1 hP 0 rfl rfl 9 (by decide) (ht _ tw_596) (fun _ h => h) rfl dMo_transmit_167 ?_
    refine lv_iload hx hb dMo_transmit_170 (lv_at hl 0 rfl) ?_
    refine lv_iload hx hb dMo_transmit_172 (lv_at hl 7 rfl) ?_
    refine k_if_ge (tgt := 181) hx hb (by omega) dMo_transmit_174 rfl ?_
    refine lv_aload_n hx hb dMo_transmit_181 rfl (lv_at hl 2 rfl) ?_
    refine va_get (D := D) (ci := 4) (v := .ref (ad 22)) (C := RMo) (T := TMo) (N := 29) hx hb ht inMo hown hE.1 hP 0 rfl rfl 22 (by decide) (ht _ tw_609) (fun _ h => h) rfl dMo_transmit_182 ?_
    refine lv_iload hx hb dMo_transmit_185 (lv_at hl 7 rfl) ?_
    refine k_iald hx hb hE.1 hP 22 0 (n := 32) (g := (M 22)) rfl rfl (i := pp) (by omega) (by decide) dMo_transmit_187 ?_
    refine k_iast hx hb hE.1 hP hD hS 9 0 (n := 24) (g := ((mS (mS (mS (mS (mS (mS (mS (mS M 1 (1 - s₀) ((M 1 (1 - s₀)) + 1)) 2 ((12 * (1 - s₀)) + (M 1 (1 - s₀))) kd) 3 ((12 * (1 - s₀)) + (M 1 (1 - s₀))) nb) 4 ((12 * (1 - s₀)) + (M 1 (1 - s₀))) ak) 5 ((12 * (1 - s₀)) + (M 1 (1 - s₀))) (M 18 pp)) 6 ((12 * (1 - s₀)) + (M 1 (1 - s₀))) (M 19 pp)) 7 ((12 * (1 - s₀)) + (M 1 (1 - s₀))) (M 20 pp)) 8 ((12 * (1 - s₀)) + (M 1 (1 - s₀))) (M 21 pp)) 9)) rfl rfl (i := ((12 * (1 - s₀)) + (M 1 (1 - s₀)))) (x := (M 22 pp)) (by omega) (by decide) dMo_transmit_188 (fun H locs hP hD hS => ?_)
    rw [mo_set_9] at hP hD
    exact Co.retv hx hb hret hlk dMo_transmit_189 hS hP hD () rfl trivial (by first | (rw [show mTrP M s₀ kd nb ak pp = mS (mS (mS (mS (mS (mS (mS (mS (mS M 1 (1 - s₀) ((M 1 (1 - s₀)) + 1)) 2 ((12 * (1 - s₀)) + (M 1 (1 - s₀))) kd) 3 ((12 * (1 - s₀)) + (M 1 (1 - s₀))) nb) 4 ((12 * (1 - s₀)) + (M 1 (1 - s₀))) ak) 5 ((12 * (1 - s₀)) + (M 1 (1 - s₀))) (M 18 pp)) 6 ((12 * (1 - s₀)) + (M 1 (1 - s₀))) (M 19 pp)) 7 ((12 * (1 - s₀)) + (M 1 (1 - s₀))) (M 20 pp)) 8 ((12 * (1 - s₀)) + (M 1 (1 - s₀))) (M 21 pp)) 9 ((12 * (1 - s₀)) + (M 1 (1 - s₀))) (M 22 pp) from if_neg (by omega)]) | rfl) (Nat.le_of_ble_eq_true rfl) (Nat.le_of_ble_eq_true rfl)
  · exact Co.retv hx hb hret hlk dMo_transmit_17 hS hP hD () rfl trivial (by rw [show mTrP M s₀ kd nb ak pp = M from if_pos (by omega)]) (Nat.le_of_ble_eq_true rfl) (Nat.le_of_ble_eq_true rfl)
set_option maxHeartbeats 4000000 in
set_option maxRecDepth 100000 in
theorem c_Mo_transmitN (l : Launch) (D : va_G) (ca : Nat → ClassId) (h : Nat) (ad : Nat → Nat) (co : Nat) (M : Nat → Nat → Nat) (s₀ kd nb ak : Nat) (hM : mOk M) (hs : s₀ < 2) (h1 : kd < 1048576) (h2 : nb < 1048576) (h3 : ak < 1048576) : Co (S := Unit) l yMo_transmit (Cond.code yMo_transmit cMo_transmit 8 none :: tb_) { frames := 0, cells := 0, slots := 0, locals := 0 } D ca [.ref h, .int (nI s₀), .int (nI kd), .int (nI nb), .int (nI ak), .int (-1)] (mW h ad ca co M) (fun _ => none) (fun _ => True) (fun _ => (mW h ad ca co (mTrN M s₀ kd nb ak))) 0 0 := by
  refine Co.of cMo_transmit 8 none (by decide) (Nat.le_of_ble_eq_true rfl) ?_
  intro p e s m args below meth c A ls fx hret hlk hin hE hP hD hS hA hl
  have hx := fx.1
  have hb := fx.2.1
  have hown : s.vm.findClass RMo = some m.cls := fx.2.2.2.1
  have hts := fx.2.2.2.2
  have ht : ∀ w ∈ tb_, w.before args s = true := fun w h => hts w (List.mem_cons_of_mem _ h)
  have b1 : M 1 (1 - s₀) < 13 := hM 1 _
  have hl : lv_has ls 8 [(0, .ref h), (1, .int (nI s₀)), (2, .int (nI kd)), (3, .int (nI nb)), (4, .int (nI ak)), (5, .int (-1))] := hl
  refine lv_iconst (v := nI 1) hx hb dMo_transmit_0 (by decide) ?_
  refine lv_iload_n hx hb dMo_transmit_1 rfl (lv_at hl 1 rfl) ?_
  refine k_isub hx hb (by omega) dMo_transmit_2 ?_
  refine lv_istore hx hb dMo_transmit_3 hl (by decide) rfl (fun ls hl => ?_)
  have hl : lv_has ls 8 [(6, .int (nI (1 - s₀))), (0, .ref h), (1, .int (nI s₀)), (2, .int (nI kd)), (3, .int (nI nb)), (4, .int (nI ak)), (5, .int (-1))] := hl
  refine lv_aload_n hx hb dMo_transmit_5 rfl (lv_at hl 1 rfl) ?_
  refine va_get (D := D) (ci := 4) (v := .ref (ad 1)) (C := RMo) (T := TMo) (N := 29) hx hb ht inMo hown hE.1 hP 0 rfl rfl 1 (by decide) (ht _ tw_588) (fun _ h => h) rfl dMo_transmit_6 ?_
  refine lv_iload hx hb dMo_transmit_9 (lv_at hl 0 rfl) ?_
  refine k_iald hx hb hE.1 hP 1 0 (n := 2) (g := (M 1)) rfl rfl (i := (1 - s₀)) (by omega) (by decide) dMo_transmit_11 ?_
  refine lv_bipush (v := nI 12) hx hb dMo_transmit_12 (by decide) ?_
  refine k_icmp_ne (tgt := 18) hx hb (by omega) (by omega) dMo_transmit_14 rfl (fun h14 => ?_) (fun h14 => ?_)
  · refine lv_bipush (v := nI 12) hx hb dMo_transmit_18 (by decide) ?_
    refine lv_iload hx hb dMo_transmit_20 (lv_at hl 0 rfl) ?_
    refine k_imul hx hb dMo_transmit_22 ?_
    refine lv_aload_n hx hb dMo_transmit_23 rfl (lv_at hl 1 rfl) ?_
    refine va_get (D := D) (ci := 4) (v := .ref (ad 1)) (C := RMo) (T := TMo) (N := 29) hx hb ht inMo hown hE.1 hP 0 rfl rfl 1 (by decide) (ht _ tw_588) (fun _ h => h) rfl dMo_transmit_24 ?_
    refine lv_iload hx hb dMo_transmit_27 (lv_at hl 0 rfl) ?_
    refine k_iald hx hb hE.1 hP 1 0 (n := 2) (g := (M 1)) rfl rfl (i := (1 - s₀)) (by omega) (by decide) dMo_transmit_29 ?_
    refine k_iadd hx hb dMo_transmit_30 ?_
    refine lv_istore hx hb dMo_transmit_31 hl (by decide) rfl (fun ls hl => ?_)
    have hl : lv_has ls 8 [(7, .int (nI ((12 * (1 - s₀)) + (M 1 (1 - s₀))))), (6, .int (nI (1 - s₀))), (0, .ref h), (1, .int (nI s₀)), (2, .int (nI kd)), (3, .int (nI nb)), (4, .int (nI ak)), (5, .int (-1))] := hl
    refine lv_aload_n hx hb dMo_transmit_33 rfl (lv_at hl 2 rfl) ?_
    refine va_get (D := D) (ci := 4) (v := .ref (ad 1)) (C := RMo) (T := TMo) (N := 29) hx hb ht inMo hown hE.1 hP 0 rfl rfl 1 (by decide) (ht _ tw_588) (fun _ h => h) rfl dMo_transmit_34 ?_
    refine lv_iload hx hb dMo_transmit_37 (lv_at hl 1 rfl) ?_
    refine lv_aload_n hx hb dMo_transmit_39 rfl (lv_at hl 2 rfl) ?_
    refine va_get (D := D) (ci := 4) (v := .ref (ad 1)) (C := RMo) (T := TMo) (N := 29) hx hb ht inMo hown hE.1 hP 0 rfl rfl 1 (by decide) (ht _ tw_588) (fun _ h => h) rfl dMo_transmit_40 ?_
    refine lv_iload hx hb dMo_transmit_43 (lv_at hl 1 rfl) ?_
    refine k_iald hx hb hE.1 hP 1 0 (n := 2) (g := (M 1)) rfl rfl (i := (1 - s₀)) (by omega) (by decide) dMo_transmit_45 ?_
    refine lv_iconst (v := nI 1) hx hb dMo_transmit_46 (by decide) ?_
    refine k_iadd hx hb dMo_transmit_47 ?_
    refine k_iast hx hb hE.1 hP hD hS 1 0 (n := 2) (g := (M 1)) rfl rfl (i := (1 - s₀)) (x := ((M 1 (1 - s₀)) + 1)) (by omega) (by decide) dMo_transmit_48 (fun H locs hP hD hS => ?_)
    rw [mo_set_1] at hP hD
    refine lv_aload_n hx hb dMo_transmit_49 rfl (lv_at hl 2 rfl) ?_
    refine va_get (D := D) (ci := 4) (v := .ref (ad 2)) (C := RMo) (T := TMo) (N := 29) hx hb ht inMo hown hE.1 hP 0 rfl rfl 2 (by decide) (ht _ tw_589) (fun _ h => h) rfl dMo_transmit_50 ?_
    refine lv_iload hx hb dMo_transmit_53 (lv_at hl 0 rfl) ?_
    refine lv_iload_n hx hb dMo_transmit_55 rfl (lv_at hl 4 rfl) ?_
    refine k_iast hx hb hE.1 hP hD hS 2 0 (n := 24) (g := ((mS M 1 (1 - s₀) ((M 1 (1 - s₀)) + 1)) 2)) rfl rfl (i := ((12 * (1 - s₀)) + (M 1 (1 - s₀)))) (x := kd) (by omega) (by decide) dMo_transmit_56 (fun H locs hP hD hS => ?_)
    rw [mo_set_2] at hP hD
    refine lv_aload_n hx hb dMo_transmit_57 rfl (lv_at hl 2 rfl) ?_
    refine va_get (D := D) (ci := 4) (v := .ref (ad 3)) (C := RMo) (T := TMo) (N := 29) hx hb ht inMo hown hE.1 hP 0 rfl rfl 3 (by decide) (ht _ tw_590) (fun _ h => h) rfl dMo_transmit_58 ?_
    refine lv_iload hx hb dMo_transmit_61 (lv_at hl 0 rfl) ?_
    refine lv_iload_n hx hb dMo_transmit_63 rfl (lv_at hl 5 rfl) ?_
    refine k_iast hx hb hE.1 hP hD hS 3 0 (n := 24) (g := ((mS (mS M 1 (1 - s₀) ((M 1 (1 - s₀)) + 1)) 2 ((12 * (1 - s₀)) + (M 1 (1 - s₀))) kd) 3)) rfl rfl (i := ((12 * (1 - s₀)) + (M 1 (1 - s₀)))) (x := nb) (by omega) (by decide) dMo_transmit_64 (fun H locs hP hD hS => ?_)
    rw [mo_set_3] at hP hD
    refine lv_aload_n hx hb dMo_transmit_65 rfl (lv_at hl 2 rfl) ?_
    refine va_get (D := D) (ci := 4) (v := .ref (ad 4)) (C := RMo) (T := TMo) (N := 29) hx hb ht inMo hown hE.1 hP 0 rfl rfl 4 (by decide) (ht _ tw_591) (fun _ h => h) rfl dMo_transmit_66 ?_
    refine lv_iload hx hb dMo_transmit_69 (lv_at hl 0 rfl) ?_
    refine lv_iload hx hb dMo_transmit_71 (lv_at hl 6 rfl) ?_
    refine k_iast hx hb hE.1 hP hD hS 4 0 (n := 24) (g := ((mS (mS (mS M 1 (1 - s₀) ((M 1 (1 - s₀)) + 1)) 2 ((12 * (1 - s₀)) + (M 1 (1 - s₀))) kd) 3 ((12 * (1 - s₀)) + (M 1 (1 - s₀))) nb) 4)) rfl rfl (i := ((12 * (1 - s₀)) + (M 1 (1 - s₀)))) (x := ak) (by omega) (by decide) dMo_transmit_73 (fun H locs hP hD hS => ?_)
    rw [mo_set_4] at hP hD
    refine lv_aload_n hx hb dMo_transmit_74 rfl (lv_at hl 2 rfl) ?_
    refine va_get (D := D) (ci := 4) (v := .ref (ad 5)) (C := RMo) (T := TMo) (N := 29) hx hb ht inMo hown hE.1 hP 0 rfl rfl 5 (by decide) (ht _ tw_592) (fun _ h => h) rfl dMo_transmit_75 ?_
    refine lv_iload hx hb dMo_transmit_78 (lv_at hl 0 rfl) ?_
    refine lv_iload hx hb dMo_transmit_80 (lv_at hl 7 rfl) ?_
    refine lv_if_ge (tgt := 89) hx hb dMo_transmit_82 rfl (fun hz => absurd hz (by decide)) (fun h82 => ?_)
    refine lv_iconst (v := nI 0) hx hb dMo_transmit_85 (by decide) ?_
    refine lv_goto (tgt := 96) hx hb dMo_transmit_86 rfl ?_
    refine k_iast hx hb hE.1 hP hD hS 5 0 (n := 24) (g := ((mS (mS (mS (mS M 1 (1 - s₀) ((M 1 (1 - s₀)) + 1)) 2 ((12 * (1 - s₀)) + (M 1 (1 - s₀))) kd) 3 ((12 * (1 - s₀)) + (M 1 (1 - s₀))) nb) 4 ((12 * (1 - s₀)) + (M 1 (1 - s₀))) ak) 5)) rfl rfl (i := ((12 * (1 - s₀)) + (M 1 (1 - s₀)))) (x := 0) (by omega) (by decide) dMo_transmit_96 (fun H locs hP hD hS => ?_)
    rw [mo_set_5] at hP hD
    refine lv_aload_n hx hb dMo_transmit_97 rfl (lv_at hl 2 rfl) ?_
    refine va_get (D := D) (ci := 4) (v := .ref (ad 6)) (C := RMo) (T := TMo) (N := 29) hx hb ht inMo hown hE.1 hP 0 rfl rfl 6 (by decide) (ht _ tw_593) (fun _ h => h) rfl dMo_transmit_98 ?_
    refine lv_iload hx hb dMo_transmit_101 (lv_at hl 0 rfl) ?_
    refine lv_iload hx hb dMo_transmit_103 (lv_at hl 7 rfl) ?_
    refine lv_if_ge (tgt := 112) hx hb dMo_transmit_105 rfl (fun hz => absurd hz (by decide)) (fun h105 => ?_)
    refine lv_iconst (v := nI 0) hx hb dMo_transmit_108 (by decide) ?_
    refine lv_goto (tgt := 119) hx hb dMo_transmit_109 rfl ?_
    refine k_iast hx hb hE.1 hP hD hS 6 0 (n := 24) (g := ((mS (mS (mS (mS (mS M 1 (1 - s₀) ((M 1 (1 - s₀)) + 1)) 2 ((12 * (1 - s₀)) + (M 1 (1 - s₀))) kd) 3 ((12 * (1 - s₀)) + (M 1 (1 - s₀))) nb) 4 ((12 * (1 - s₀)) + (M 1 (1 - s₀))) ak) 5 ((12 * (1 - s₀)) + (M 1 (1 - s₀))) 0) 6)) rfl rfl (i := ((12 * (1 - s₀)) + (M 1 (1 - s₀)))) (x := 0) (by omega) (by decide) dMo_transmit_119 (fun H locs hP hD hS => ?_)
    rw [mo_set_6] at hP hD
    refine lv_aload_n hx hb dMo_transmit_120 rfl (lv_at hl 2 rfl) ?_
    refine va_get (D := D) (ci := 4) (v := .ref (ad 7)) (C := RMo) (T := TMo) (N := 29) hx hb ht inMo hown hE.1 hP 0 rfl rfl 7 (by decide) (ht _ tw_594) (fun _ h => h) rfl dMo_transmit_121 ?_
    refine lv_iload hx hb dMo_transmit_124 (lv_at hl 0 rfl) ?_
    refine lv_iload hx hb dMo_transmit_126 (lv_at hl 7 rfl) ?_
    refine lv_if_ge (tgt := 135) hx hb dMo_transmit_128 rfl (fun hz => absurd hz (by decide)) (fun h128 => ?_)
    refine lv_iconst (v := nI 0) hx hb dMo_transmit_131 (by decide) ?_
    refine lv_goto (tgt := 142) hx hb dMo_transmit_132 rfl ?_
    refine k_iast hx hb hE.1 hP hD hS 7 0 (n := 24) (g := ((mS (mS (mS (mS (mS (mS M 1 (1 - s₀) ((M 1 (1 - s₀)) + 1)) 2 ((12 * (1 - s₀)) + (M 1 (1 - s₀))) kd) 3 ((12 * (1 - s₀)) + (M 1 (1 - s₀))) nb) 4 ((12 * (1 - s₀)) + (M 1 (1 - s₀))) ak) 5 ((12 * (1 - s₀)) + (M 1 (1 - s₀))) 0) 6 ((12 * (1 - s₀)) + (M 1 (1 - s₀))) 0) 7)) rfl rfl (i := ((12 * (1 - s₀)) + (M 1 (1 - s₀)))) (x := 0) (by omega) (by decide) dMo_transmit_142 (fun H locs hP hD hS => ?_)
    rw [mo_set_7] at hP hD
    refine lv_aload_n hx hb dMo_transmit_143 rfl (lv_at hl 2 rfl) ?_
    refine va_get (D := D) (ci := 4) (v := .ref (ad 8)) (C := RMo) (T := TMo) (N := 29) hx hb ht inMo hown hE.1 hP 0 rfl rfl 8 (by decide) (ht _ tw_595) (fun _ h => h) rfl dMo_transmit_144 ?_
    refine lv_iload hx hb dMo_transmit_147 (lv_at hl 0 rfl) ?_
    refine lv_iload hx hb dMo_transmit_149 (lv_at hl 7 rfl) ?_
    refine lv_if_ge (tgt := 158) hx hb dMo_transmit_151 rfl (fun hz => absurd hz (by decide)) (fun h151 => ?_)
    refine lv_iconst (v := nI 0) hx hb dMo_transmit_154 (by decide) ?_
    refine lv_goto (tgt := 165) hx hb dMo_transmit_155 rfl ?_
    refine k_iast hx hb hE.1 hP hD hS 8 0 (n := 24) (g := ((mS (mS (mS (mS (mS (mS (mS M 1 (1 - s₀) ((M 1 (1 - s₀)) + 1)) 2 ((12 * (1 - s₀)) + (M 1 (1 - s₀))) kd) 3 ((12 * (1 - s₀)) + (M 1 (1 - s₀))) nb) 4 ((12 * (1 - s₀)) + (M 1 (1 - s₀))) ak) 5 ((12 * (1 - s₀)) + (M 1 (1 - s₀))) 0) 6 ((12 * (1 - s₀)) + (M 1 (1 - s₀))) 0) 7 ((12 * (1 - s₀)) + (M 1 (1 - s₀))) 0) 8)) rfl rfl (i := ((12 * (1 - s₀)) + (M 1 (1 - s₀)))) (x := 0) (by omega) (by decide) dMo_transmit_165 (fun H locs hP hD hS => ?_)
    rw [mo_set_8] at hP hD
    refine lv_aload_n hx hb dMo_transmit_166 rfl (lv_at hl 2 rfl) ?_
    refine va_get (D := D) (ci := 4) (v := .ref (ad 9)) (C := RMo) (T := TMo) (N := 29) hx hb ht inMo hown hE.1 hP 0 rfl rfl 9 (by decide) (ht _ tw_596) (fun _ h => h) rfl dMo_transmit_167 ?_
    refine lv_iload hx hb dMo_transmit_170 (lv_at hl 0 rfl) ?_
    refine lv_iload hx hb dMo_transmit_172 (lv_at hl 7 rfl) ?_
    refine lv_if_ge (tgt := 181) hx hb dMo_transmit_174 rfl (fun hz => absurd hz (by decide)) (fun h174 => ?_)
    refine lv_iconst (v := nI 0) hx hb dMo_transmit_177 (by decide) ?_
    refine lv_goto (tgt := 188) hx hb dMo_transmit_178 rfl ?_
    refine k_iast hx hb hE.1 hP hD hS 9 0 (n := 24) (g := ((mS (mS (mS (mS (mS (mS (mS (mS M 1 (1 - s₀) ((M 1 (1 - s₀)) + 1)) 2 ((12 * (1 - s₀)) + (M 1 (1 - s₀))) kd) 3 ((12 * (1 - s₀)) + (M 1 (1 - s₀))) nb) 4 ((12 * (1 - s₀)) + (M 1 (1 - s₀))) ak) 5 ((12 * (1 - s₀)) + (M 1 (1 - s₀))) 0) 6 ((12 * (1 - s₀)) + (M 1 (1 - s₀))) 0) 7 ((12 * (1 - s₀)) + (M 1 (1 - s₀))) 0) 8 ((12 * (1 - s₀)) + (M 1 (1 - s₀))) 0) 9)) rfl rfl (i := ((12 * (1 - s₀)) + (M 1 (1 - s₀)))) (x := 0) (by omega) (by decide) dMo_transmit_188 (fun H locs hP hD hS => ?_)
    rw [mo_set_9] at hP hD
    exact Co.retv hx hb hret hlk dMo_transmit_189 hS hP hD () rfl trivial (by first | (rw [show mTrN M s₀ kd nb ak = mS (mS (mS (mS (mS (mS (mS (mS (mS M 1 (1 - s₀) ((M 1 (1 - s₀)) + 1)) 2 ((12 * (1 - s₀)) + (M 1 (1 - s₀))) kd) 3 ((12 * (1 - s₀)) + (M 1 (1 - s₀))) nb) 4 ((12 * (1 - s₀)) + (M 1 (1 - s₀))) ak) 5 ((12 * (1 - s₀)) + (M 1 (1 - s₀))) 0) 6 ((12 * (1 - s₀)) + (M 1 (1 - s₀))) 0) 7 ((12 * (1 - s₀)) + (M 1 (1 - s₀))) 0) 8 ((12 * (1 - s₀)) + (M 1 (1 - s₀))) 0) 9 ((12 * (1 - s₀)) + (M 1 (1 - s₀))) 0 from if_neg (by omega)]) | rfl) (Nat.le_of_ble_eq_true rfl) (Nat.le_of_ble_eq_true rfl)
  · exact Co.retv hx hb hret hlk dMo_transmit_17 hS hP hD () rfl trivial (by rw [show mTrN M s₀ kd nb ak = M from if_pos (by omega)]) (Nat.le_of_ble_eq_true rfl) (Nat.le_of_ble_eq_true rfl)
set_option maxHeartbeats 4000000 in
set_option maxRecDepth 100000 in
theorem c_Mo_unconfirmed (l : Launch) (D : va_G) (ca : Nat → ClassId) (h : Nat) (ad : Nat → Nat) (co : Nat) (M : Nat → Nat → Nat) (s₀ : Nat) (hM : mOk M) (hs : s₀ < 2) : Co (S := Unit) l yMo_unconfirmed (Cond.code yMo_unconfirmed cMo_unconfirmed 2 (some FieldType.int) :: tb_) { frames := 1, cells := 0, slots := 0, locals := 32 } D ca [.ref h, .int (nI s₀)] (mW h ad ca co M) (fun _ => some (.int (nI (mUn M s₀)))) (fun _ => True) (fun _ => (mW h ad ca co M)) 0 0 := by
  refine Co.of cMo_unconfirmed 2 (some FieldType.int) (by decide) (Nat.le_of_ble_eq_true rfl) ?_
  intro p e s m args below meth c A ls fx hret hlk hin hE hP hD hS hA hl
  have hx := fx.1
  have hb := fx.2.1
  have hown : s.vm.findClass RMo = some m.cls := fx.2.2.2.1
  have hts := fx.2.2.2.2
  have ht : ∀ w ∈ tb_, w.before args s = true := fun w h => hts w (List.mem_cons_of_mem _ h)
  have b1 : M 11 s₀ < 8 := hM 11 _
  have b2 : M 12 s₀ < 8 := hM 12 _
  have hl : lv_has ls 2 [(0, .ref h), (1, .int (nI s₀))] := hl
  refine lv_aload_n hx hb dMo_unconfirmed_0 rfl (lv_at hl 0 rfl) ?_
  refine va_get (D := D) (ci := 4) (v := .ref (ad 11)) (C := RMo) (T := TMo) (N := 29) hx hb ht inMo hown hE.1 hP 0 rfl rfl 11 (by decide) (ht _ tw_598) (fun _ h => h) rfl dMo_unconfirmed_1 ?_
  refine lv_iload_n hx hb dMo_unconfirmed_4 rfl (lv_at hl 1 rfl) ?_
  refine k_iald hx hb hE.1 hP 11 0 (n := 2) (g := (M 11)) rfl rfl (i := s₀) (by omega) (by decide) dMo_unconfirmed_5 ?_
  refine lv_aload_n hx hb dMo_unconfirmed_6 rfl (lv_at hl 0 rfl) ?_
  refine va_get (D := D) (ci := 4) (v := .ref (ad 12)) (C := RMo) (T := TMo) (N := 29) hx hb ht inMo hown hE.1 hP 0 rfl rfl 12 (by decide) (ht _ tw_599) (fun _ h => h) rfl dMo_unconfirmed_7 ?_
  refine lv_iload_n hx hb dMo_unconfirmed_10 rfl (lv_at hl 1 rfl) ?_
  refine k_iald hx hb hE.1 hP 12 0 (n := 2) (g := (M 12)) rfl rfl (i := s₀) (by omega) (by decide) dMo_unconfirmed_11 ?_
  refine kI (rS fx (c_Mo_less l D ca (M 11 s₀) (M 12 s₀) (by omega) (by omega)) ⟨callB_of 2 hts (tb_gi tw_717) rfl rfl rfl (ht _ tw_5) (ht _ tw_715) (by decide +kernel) ⟨(Nat.le_of_ble_eq_true rfl), (Nat.le_of_ble_eq_true rfl)⟩, ht _ tw_716⟩ hE hP hD [] rfl rfl rfl hl.1 rfl (Nat.le_of_ble_eq_true rfl) dMo_unconfirmed_12 ⟨(Nat.le_of_ble_eq_true rfl), (Nat.le_of_ble_eq_true rfl)⟩) hP hD hS hA [] [0, 1, 2, 3, 4, 5, 6, 7, 8, 9, 10, 11, 12, 13, 14, 15, 16, 17, 18, 19, 20, 21, 22, 23, 24, 25, 26, 27, 28] rfl rfl rfl (by decide) (fun _ H locs _ hP hD hS => ?_)
  have hP : va_P D cls_ (mW h ad ca co M) H := hP
  have hD : va_D A (mW h ad ca co M) := hD
  exact Co.reti hx hb hret hlk dMo_unconfirmed_15 hS hP hD () rfl trivial rfl (Nat.le_of_ble_eq_true rfl) (Nat.le_of_ble_eq_true rfl)
set_option maxHeartbeats 4000000 in
set_option maxRecDepth 100000 in
theorem c_Mo_carry (l : Launch) (D : va_G) (ca : Nat → ClassId) (h : Nat) (ad : Nat → Nat) (co : Nat) (M : Nat → Nat → Nat) (s₀ k₀ : Nat) (hM : mOk M) (hs : s₀ < 2) (hk : k₀ < 8) : Co (S := Unit) l yMo_carry (Cond.code yMo_carry cMo_carry 3 none :: tb_) { frames := 1, cells := 0, slots := 0, locals := 32 } D ca [.ref h, .int (nI s₀), .int (nI k₀)] (mW h ad ca co M) (fun _ => none) (fun _ => True) (fun _ => (mW h ad ca co (mCarry M s₀ k₀))) 0 0 := by
  refine Co.of cMo_carry 3 none (by decide) (Nat.le_of_ble_eq_true rfl) ?_
  intro p e s m args below meth c A ls fx hret hlk hin hE hP hD hS hA hl
  have hx := fx.1
  have hb := fx.2.1
  have hown : s.vm.findClass RMo = some m.cls := fx.2.2.2.1
  have hts := fx.2.2.2.2
  have ht : ∀ w ∈ tb_, w.before args s = true := fun w h => hts w (List.mem_cons_of_mem _ h)
  have b1 : M 12 s₀ < 8 := hM 12 _
  have b2 : M 13 s₀ < 8 := hM 13 _
  have hl : lv_has ls 3 [(0, .ref h), (1, .int (nI s₀)), (2, .int (nI k₀))] := hl
  refine lv_aload_n hx hb dMo_carry_0 rfl (lv_at hl 0 rfl) ?_
  refine lv_iload_n hx hb dMo_carry_1 rfl (lv_at hl 1 rfl) ?_
  refine lv_iconst (v := nI 3) hx hb dMo_carry_2 (by decide) ?_
  refine lv_aload_n hx hb dMo_carry_3 rfl (lv_at hl 0 rfl) ?_
  refine va_get (D := D) (ci := 4) (v := .ref (ad 12)) (C := RMo) (T := TMo) (N := 29) hx hb ht inMo hown hE.1 hP 0 rfl rfl 12 (by decide) (ht _ tw_599) (fun _ h => h) rfl dMo_carry_4 ?_
  refine lv_iload_n hx hb dMo_carry_7 rfl (lv_at hl 1 rfl) ?_
  refine k_iald hx hb hE.1 hP 12 0 (n := 2) (g := (M 12)) rfl rfl (i := s₀) (by omega) (by decide) dMo_carry_8 ?_
  refine lv_iload_n hx hb dMo_carry_9 rfl (lv_at hl 2 rfl) ?_
  refine k_iadd hx hb dMo_carry_10 ?_
  refine lv_bipush (v := nI 7) hx hb dMo_carry_11 (by decide) ?_
  refine lv_iand hx hb dMo_carry_13 ?_
  refine k_is (y := nI ((M 12 s₀ + k₀) % 8)) (pk_andN (n := M 12 s₀ + k₀) (m := nI 7) (by omega) 3 (by decide)) ?_
  refine lv_aload_n hx hb dMo_carry_14 rfl (lv_at hl 0 rfl) ?_
  refine va_get (D := D) (ci := 4) (v := .ref (ad 13)) (C := RMo) (T := TMo) (N := 29) hx hb ht inMo hown hE.1 hP 0 rfl rfl 13 (by decide) (ht _ tw_600) (fun _ h => h) rfl dMo_carry_15 ?_
  refine lv_iload_n hx hb dMo_carry_18 rfl (lv_at hl 1 rfl) ?_
  refine k_iald hx hb hE.1 hP 13 0 (n := 2) (g := (M 13)) rfl rfl (i := s₀) (by omega) (by decide) dMo_carry_19 ?_
  refine lv_bipush (v := nI 16) hx hb dMo_carry_20 (by decide) ?_
  refine lv_iload_n hx hb dMo_carry_22 rfl (lv_at hl 1 rfl) ?_
  refine k_imul hx hb dMo_carry_23 ?_
  refine lv_iload_n hx hb dMo_carry_24 rfl (lv_at hl 2 rfl) ?_
  refine k_iadd hx hb dMo_carry_25 ?_
  refine kV (rV fx (c_Mo_transmitP l D ca h ad co M s₀ 3 ((M 12 s₀ + k₀) % 8) (M 13 s₀) ((16 * s₀) + k₀) (by first | assumption | exact mOk.idle (by assumption) _ | exact mOk.clean (by assumption) _ | exact mOk.renew (by assumption) _ | exact (mOk.renew (by assumption) _).set 23 (show 3 < 6 by decide) | exact (mOk.renew (by assumption) _).set 23 (show 5 < 6 by decide)) (by omega) (by omega) (by omega) (by omega) (by omega)) ⟨callB_of 5 hts (tb_gi tw_706) rfl rfl rfl (ht _ tw_5) (ht _ tw_703) (by decide +kernel) ⟨(Nat.le_of_ble_eq_true rfl), (Nat.le_of_ble_eq_true rfl)⟩, ht _ tw_705, ht _ tw_849⟩ hE hP hD 0 rfl rfl rfl [0, 1, 2, 3, 4, 5, 6, 7, 8, 9, 10, 11, 12, 13, 14, 15, 16, 17, 18, 19, 20, 21, 22, 23, 24, 25, 26, 27, 28] rfl rfl rfl hl.1 rfl (Nat.le_of_ble_eq_true rfl) dMo_carry_26 ⟨(Nat.le_of_ble_eq_true rfl), (Nat.le_of_ble_eq_true rfl)⟩) hP hD hS hA [0, 1, 2, 3, 4, 5, 6, 7, 8, 9, 10, 11, 12, 13, 14, 15, 16, 17, 18, 19, 20, 21, 22, 23, 24, 25, 26, 27, 28] [] rfl rfl rfl (by decide) (fun _ H locs _ hP hD hS => ?_)
  have hP : va_P D cls_ (mW h ad ca co (mTrP M s₀ 3 ((M 12 s₀ + k₀) % 8) (M 13 s₀) ((16 * s₀) + k₀))) H := hP
  have hD : va_D A (mW h ad ca co (mTrP M s₀ 3 ((M 12 s₀ + k₀) % 8) (M 13 s₀) ((16 * s₀) + k₀))) := hD
  refine lv_aload_n hx hb dMo_carry_29 rfl (lv_at hl 0 rfl) ?_
  refine va_get (D := D) (ci := 4) (v := .ref (ad 16)) (C := RMo) (T := TMo) (N := 29) hx hb ht inMo hown hE.1 hP 0 rfl rfl 16 (by decide) (ht _ tw_603) (fun _ h => h) rfl dMo_carry_30 ?_
  refine lv_iload_n hx hb dMo_carry_33 rfl (lv_at hl 1 rfl) ?_
  refine lv_iconst (v := nI 1) hx hb dMo_carry_34 (by decide) ?_
  refine k_zast hx hb hE.1 hP hD hS 16 1 (n := 2) (g := ((mTrP M s₀ 3 ((M 12 s₀ + k₀) % 8) (M 13 s₀) ((16 * s₀) + k₀)) 16)) rfl rfl (i := s₀) (x := 1) (by omega) (by omega) (by decide) dMo_carry_35 (fun H locs hP hD hS => ?_)
  rw [mo_set_16] at hP hD
  exact Co.retv hx hb hret hlk dMo_carry_36 hS hP hD () rfl trivial rfl (Nat.le_of_ble_eq_true rfl) (Nat.le_of_ble_eq_true rfl)
set_option maxHeartbeats 4000000 in
set_option maxRecDepth 100000 in
theorem c_Mo_pump (l : Launch) (D : va_G) (ca : Nat → ClassId) (h : Nat) (ad : Nat → Nat) (co : Nat) (M : Nat → Nat → Nat) (s₀ : Nat) (M1 : Nat → Nat → Nat) (hM : mOk M) (hs : s₀ < 2) (hres : mPump 4 M s₀ = M1) : Co (S := Unit) l yMo_pump (Cond.code yMo_pump cMo_pump 2 none :: tb_) { frames := 2, cells := 0, slots := 0, locals := 64 } D ca [.ref h, .int (nI s₀)] (mW h ad ca co M) (fun _ => none) (fun _ => True) (fun _ => (mW h ad ca co M1)) 0 0 := by
  refine Co.of cMo_pump 2 none (by decide) (Nat.le_of_ble_eq_true rfl) ?_
  intro p e s m args below meth c A ls fx hret hlk hin hE hP hD hS hA hl
  have hx := fx.1
  have hb := fx.2.1
  have hown : s.vm.findClass RMo = some m.cls := fx.2.2.2.1
  have hts := fx.2.2.2.2
  have ht : ∀ w ∈ tb_, w.before args s = true := fun w h => hts w (List.mem_cons_of_mem _ h)
  have hl : lv_has ls 2 [(0, .ref h), (1, .int (nI s₀))] := hl
  have loop : ∀ (n : Nat) (L : Nat → Nat → Nat) (H : Heap) (locs : List Loc) (ls : Array Slot), mOk L → 3 - mUn L s₀ < n → mPump n L s₀ = M1 → va_P D cls_ (mW h ad ca co L) H → va_D A (mW h ad ca co L) → va_S A s.heap H locs → lv_has ls 2 [(0, .ref h), (1, .int (nI s₀))] → W p l e ({ frames := 2, cells := 0, slots := 0, locals := 64 } : Room) s m args below meth c H locs 0 0 (MQ below (CoQ D (fun _ : Unit => none) (fun _ => True) (fun _ => (mW h ad ca co M1)) A) args s 0 0 A) (F0 m 0 ls []) := by
    intro n
    induction n with
    | zero =>
      intro L H locs ls hL hn hgo hP hD hS hl
      have b1 : L 10 s₀ < 3 := hL 10 _
      have b2 : L 17 s₀ < 17 := hL 17 _
      have b3 : mUn L s₀ < 8 := ds_lt _ _
      have b4 : mCarry L s₀ (mUn L s₀) 11 s₀ < 8 := (hL.carry _ _) 11 _
      omega
    | succ n ih =>
      intro L H locs ls hL hn hgo hP hD hS hl
      have b1 : L 10 s₀ < 3 := hL 10 _
      have b2 : L 17 s₀ < 17 := hL 17 _
      have b3 : mUn L s₀ < 8 := ds_lt _ _
      have b4 : mCarry L s₀ (mUn L s₀) 11 s₀ < 8 := (hL.carry _ _) 11 _
      refine lv_aload_n hx hb dMo_pump_0 rfl (lv_at hl 0 rfl) ?_
      refine va_get (D := D) (ci := 4) (v := .ref (ad 10)) (C := RMo) (T := TMo) (N := 29) hx hb ht inMo hown hE.1 hP 0 rfl rfl 10 (by decide) (ht _ tw_597) (fun _ h => h) rfl dMo_pump_1 ?_
      refine lv_iload_n hx hb dMo_pump_4 rfl (lv_at hl 1 rfl) ?_
      refine k_iald hx hb hE.1 hP 10 0 (n := 2) (g := (L 10)) rfl rfl (i := s₀) (by omega) (by decide) dMo_pump_5 ?_
      refine lv_iconst (v := nI 2) hx hb dMo_pump_6 (by decide) ?_
      refine k_icmp_ne (tgt := 61) hx hb (by omega) (by omega) dMo_pump_7 rfl (fun h7 => ?_) (fun h7 => ?_)
      · rw [mPump, if_neg (by omega)] at hgo
        subst hgo
        exact Co.retv hx hb hret hlk dMo_pump_61 hS hP hD () rfl trivial rfl (Nat.le_of_ble_eq_true rfl) (Nat.le_of_ble_eq_true rfl)
      · refine lv_aload_n hx hb dMo_pump_10 rfl (lv_at hl 0 rfl) ?_
        refine va_get (D := D) (ci := 4) (v := .ref (ad 17)) (C := RMo) (T := TMo) (N := 29) hx hb ht inMo hown hE.1 hP 0 rfl rfl 17 (by decide) (ht _ tw_604) (fun _ h => h) rfl dMo_pump_11 ?_
        refine lv_iload_n hx hb dMo_pump_14 rfl (lv_at hl 1 rfl) ?_
        refine k_iald hx hb hE.1 hP 17 0 (n := 2) (g := (L 17)) rfl rfl (i := s₀) (by omega) (by decide) dMo_pump_15 ?_
        refine lv_aload_n hx hb dMo_pump_16 rfl (lv_at hl 0 rfl) ?_
        refine lv_iload_n hx hb dMo_pump_17 rfl (lv_at hl 1 rfl) ?_
        refine kI (rV fx (c_Mo_unconfirmed l D ca h ad co L s₀ (by first | assumption | exact mOk.idle (by assumption) _ | exact mOk.clean (by assumption) _ | exact mOk.renew (by assumption) _ | exact (mOk.renew (by assumption) _).set 23 (show 3 < 6 by decide) | exact (mOk.renew (by assumption) _).set 23 (show 5 < 6 by decide)) (by omega)) ⟨callB_of 1 hts (tb_gi tw_721) rfl rfl rfl (ht _ tw_5) (ht _ tw_718) (by decide +kernel) ⟨(Nat.le_of_ble_eq_true rfl), (Nat.le_of_ble_eq_true rfl)⟩, ht _ tw_720, ht _ tw_852⟩ hE hP hD 0 rfl rfl rfl [0, 1, 2, 3, 4, 5, 6, 7, 8, 9, 10, 11, 12, 13, 14, 15, 16, 17, 18, 19, 20, 21, 22, 23, 24, 25, 26, 27, 28] rfl rfl rfl hl.1 rfl (Nat.le_of_ble_eq_true rfl) dMo_pump_18 ⟨(Nat.le_of_ble_eq_true rfl), (Nat.le_of_ble_eq_true rfl)⟩) hP hD hS hA [0, 1, 2, 3, 4, 5, 6, 7, 8, 9, 10, 11, 12, 13, 14, 15, 16, 17, 18, 19, 20, 21, 22, 23, 24, 25, 26, 27, 28] [] rfl rfl rfl (by decide) (fun _ H locs _ hP hD hS => ?_)
        have hP : va_P D cls_ (mW h ad ca co L) H := hP
        have hD : va_D A (mW h ad ca co L) := hD
        refine k_icmp_le (tgt := 61) hx hb (by omega) (by omega) dMo_pump_21 rfl (fun h21 => ?_) (fun h21 => ?_)
        · rw [mPump, if_neg (by omega)] at hgo
          subst hgo
          exact Co.retv hx hb hret hlk dMo_pump_61 hS hP hD () rfl trivial rfl (Nat.le_of_ble_eq_true rfl) (Nat.le_of_ble_eq_true rfl)
        · refine lv_aload_n hx hb dMo_pump_24 rfl (lv_at hl 0 rfl) ?_
          refine lv_iload_n hx hb dMo_pump_25 rfl (lv_at hl 1 rfl) ?_
          refine kI (rV fx (c_Mo_unconfirmed l D ca h ad co L s₀ (by first | assumption | exact mOk.idle (by assumption) _ | exact mOk.clean (by assumption) _ | exact mOk.renew (by assumption) _ | exact (mOk.renew (by assumption) _).set 23 (show 3 < 6 by decide) | exact (mOk.renew (by assumption) _).set 23 (show 5 < 6 by decide)) (by omega)) ⟨callB_of 1 hts (tb_gi tw_721) rfl rfl rfl (ht _ tw_5) (ht _ tw_718) (by decide +kernel) ⟨(Nat.le_of_ble_eq_true rfl), (Nat.le_of_ble_eq_true rfl)⟩, ht _ tw_720, ht _ tw_852⟩ hE hP hD 0 rfl rfl rfl [0, 1, 2, 3, 4, 5, 6, 7, 8, 9, 10, 11, 12, 13, 14, 15, 16, 17, 18, 19, 20, 21, 22, 23, 24, 25, 26, 27, 28] rfl rfl rfl hl.1 rfl (Nat.le_of_ble_eq_true rfl) dMo_pump_26 ⟨(Nat.le_of_ble_eq_true rfl), (Nat.le_of_ble_eq_true rfl)⟩) hP hD hS hA [0, 1, 2, 3, 4, 5, 6, 7, 8, 9, 10, 11, 12, 13, 14, 15, 16, 17, 18, 19, 20, 21, 22, 23, 24, 25, 26, 27, 28] [] rfl rfl rfl (by decide) (fun _ H locs _ hP hD hS => ?_)
          have hP : va_P D cls_ (mW h ad ca co L) H := hP
          have hD : va_D A (mW h ad ca co L) := hD
          refine lv_iconst (v := nI 3) hx hb dMo_pump_29 (by decide) ?_
          refine k_icmp_ge (tgt := 61) hx hb (by omega) (by omega) dMo_pump_30 rfl (fun h30 => ?_) (fun h30 => ?_)
          · rw [mPump, if_neg (by omega)] at hgo
            subst hgo
            exact Co.retv hx hb hret hlk dMo_pump_61 hS hP hD () rfl trivial rfl (Nat.le_of_ble_eq_true rfl) (Nat.le_of_ble_eq_true rfl)
          · refine lv_aload_n hx hb dMo_pump_33 rfl (lv_at hl 0 rfl) ?_
            refine lv_iload_n hx hb dMo_pump_34 rfl (lv_at hl 1 rfl) ?_
            refine lv_aload_n hx hb dMo_pump_35 rfl (lv_at hl 0 rfl) ?_
            refine lv_iload_n hx hb dMo_pump_36 rfl (lv_at hl 1 rfl) ?_
            refine kI (rV fx (c_Mo_unconfirmed l D ca h ad co L s₀ (by first | assumption | exact mOk.idle (by assumption) _ | exact mOk.clean (by assumption) _ | exact mOk.renew (by assumption) _ | exact (mOk.renew (by assumption) _).set 23 (show 3 < 6 by decide) | exact (mOk.renew (by assumption) _).set 23 (show 5 < 6 by decide)) (by omega)) ⟨callB_of 1 hts (tb_gi tw_721) rfl rfl rfl (ht _ tw_5) (ht _ tw_718) (by decide +kernel) ⟨(Nat.le_of_ble_eq_true rfl), (Nat.le_of_ble_eq_true rfl)⟩, ht _ tw_720, ht _ tw_852⟩ hE hP hD 0 rfl rfl rfl [0, 1, 2, 3, 4, 5, 6, 7, 8, 9, 10, 11, 12, 13, 14, 15, 16, 17, 18, 19, 20, 21, 22, 23, 24, 25, 26, 27, 28] rfl rfl rfl hl.1 rfl (Nat.le_of_ble_eq_true rfl) dMo_pump_37 ⟨(Nat.le_of_ble_eq_true rfl), (Nat.le_of_ble_eq_true rfl)⟩) hP hD hS hA [0, 1, 2, 3, 4, 5, 6, 7, 8, 9, 10, 11, 12, 13, 14, 15, 16, 17, 18, 19, 20, 21, 22, 23, 24, 25, 26, 27, 28] [] rfl rfl rfl (by decide) (fun _ H locs _ hP hD hS => ?_)
            have hP : va_P D cls_ (mW h ad ca co L) H := hP
            have hD : va_D A (mW h ad ca co L) := hD
            refine kV (rV fx (c_Mo_carry l D ca h ad co L s₀ (mUn L s₀) (by first | assumption | exact mOk.idle (by assumption) _ | exact mOk.clean (by assumption) _ | exact mOk.renew (by assumption) _ | exact (mOk.renew (by assumption) _).set 23 (show 3 < 6 by decide) | exact (mOk.renew (by assumption) _).set 23 (show 5 < 6 by decide)) (by omega) (by omega)) ⟨callB_of 2 hts (tb_gi tw_729) rfl rfl rfl (ht _ tw_5) (ht _ tw_726) (by decide +kernel) ⟨(Nat.le_of_ble_eq_true rfl), (Nat.le_of_ble_eq_true rfl)⟩, ht _ tw_728, ht _ tw_854⟩ hE hP hD 0 rfl rfl rfl [0, 1, 2, 3, 4, 5, 6, 7, 8, 9, 10, 11, 12, 13, 14, 15, 16, 17, 18, 19, 20, 21, 22, 23, 24, 25, 26, 27, 28] rfl rfl rfl hl.1 rfl (Nat.le_of_ble_eq_true rfl) dMo_pump_40 ⟨(Nat.le_of_ble_eq_true rfl), (Nat.le_of_ble_eq_true rfl)⟩) hP hD hS hA [0, 1, 2, 3, 4, 5, 6, 7, 8, 9, 10, 11, 12, 13, 14, 15, 16, 17, 18, 19, 20, 21, 22, 23, 24, 25, 26, 27, 28] [] rfl rfl rfl (by decide) (fun _ H locs _ hP hD hS => ?_)
            have hP : va_P D cls_ (mW h ad ca co (mCarry L s₀ (mUn L s₀))) H := hP
            have hD : va_D A (mW h ad ca co (mCarry L s₀ (mUn L s₀))) := hD
            refine lv_aload_n hx hb dMo_pump_43 rfl (lv_at hl 0 rfl) ?_
            refine va_get (D := D) (ci := 4) (v := .ref (ad 11)) (C := RMo) (T := TMo) (N := 29) hx hb ht inMo hown hE.1 hP 0 rfl rfl 11 (by decide) (ht _ tw_598) (fun _ h => h) rfl dMo_pump_44 ?_
            refine lv_iload_n hx hb dMo_pump_47 rfl (lv_at hl 1 rfl) ?_
            refine lv_aload_n hx hb dMo_pump_48 rfl (lv_at hl 0 rfl) ?_
            refine va_get (D := D) (ci := 4) (v := .ref (ad 11)) (C := RMo) (T := TMo) (N := 29) hx hb ht inMo hown hE.1 hP 0 rfl rfl 11 (by decide) (ht _ tw_598) (fun _ h => h) rfl dMo_pump_49 ?_
            refine lv_iload_n hx hb dMo_pump_52 rfl (lv_at hl 1 rfl) ?_
            refine k_iald hx hb hE.1 hP 11 0 (n := 2) (g := ((mCarry L s₀ (mUn L s₀)) 11)) rfl rfl (i := s₀) (by omega) (by decide) dMo_pump_53 ?_
            refine kI (rS fx (c_Mo_grown l D ca ((mCarry L s₀ (mUn L s₀)) 11 s₀) (by omega)) ⟨callB_of 1 hts (tb_gi tw_736) rfl rfl rfl (ht _ tw_5) (ht _ tw_734) (by decide +kernel) ⟨(Nat.le_of_ble_eq_true rfl), (Nat.le_of_ble_eq_true rfl)⟩, ht _ tw_735⟩ hE hP hD [] rfl rfl rfl hl.1 rfl (Nat.le_of_ble_eq_true rfl) dMo_pump_54 ⟨(Nat.le_of_ble_eq_true rfl), (Nat.le_of_ble_eq_true rfl)⟩) hP hD hS hA [] [0, 1, 2, 3, 4, 5, 6, 7, 8, 9, 10, 11, 12, 13, 14, 15, 16, 17, 18, 19, 20, 21, 22, 23, 24, 25, 26, 27, 28] rfl rfl rfl (by decide) (fun _ H locs _ hP hD hS => ?_)
            have hP : va_P D cls_ (mW h ad ca co (mCarry L s₀ (mUn L s₀))) H := hP
            have hD : va_D A (mW h ad ca co (mCarry L s₀ (mUn L s₀))) := hD
            refine k_iast hx hb hE.1 hP hD hS 11 0 (n := 2) (g := ((mCarry L s₀ (mUn L s₀)) 11)) rfl rfl (i := s₀) (x := (af ((mCarry L s₀ (mUn L s₀)) 11 s₀))) (by omega) (by decide) dMo_pump_57 (fun H locs hP hD hS => ?_)
            rw [mo_set_11] at hP hD
            refine lv_goto (tgt := 0) hx hb dMo_pump_58 rfl ?_
            rw [mPump, if_pos (by omega)] at hgo
            exact ih (mPump1 L s₀) H locs ls (hL.pump1 _) (by have e9 := mUn_pump1 hL (s := s₀) (by omega); omega) hgo hP hD hS hl
  exact loop 4 M _ _ ls hM (by omega) hres hP hD hS hl
set_option maxHeartbeats 4000000 in
set_option maxRecDepth 100000 in
theorem c_Mo_again (l : Launch) (D : va_G) (ca : Nat → ClassId) (h : Nat) (ad : Nat → Nat) (co : Nat) (M : Nat → Nat → Nat) (s₀ : Nat) (M1 : Nat → Nat → Nat) (hM : mOk M) (hs : s₀ < 2) (hres : mAgain M s₀ = M1) : Co (S := Unit) l yMo_again (Cond.code yMo_again cMo_again 4 none :: tb_) { frames := 2, cells := 0, slots := 0, locals := 64 } D ca [.ref h, .int (nI s₀)] (mW h ad ca co M) (fun _ => none) (fun _ => True) (fun _ => (mW h ad ca co M1)) 0 0 := by
  refine Co.of cMo_again 4 none (by decide) (Nat.le_of_ble_eq_true rfl) ?_
  intro p e s m args below meth c A ls fx hret hlk hin hE hP hD hS hA hl
  have hx := fx.1
  have hb := fx.2.1
  have hown : s.vm.findClass RMo = some m.cls := fx.2.2.2.1
  have hts := fx.2.2.2.2
  have ht : ∀ w ∈ tb_, w.before args s = true := fun w h => hts w (List.mem_cons_of_mem _ h)
  have hl : lv_has ls 4 [(0, .ref h), (1, .int (nI s₀))] := hl
  refine lv_aload_n hx hb dMo_again_0 rfl (lv_at hl 0 rfl) ?_
  refine lv_iload_n hx hb dMo_again_1 rfl (lv_at hl 1 rfl) ?_
  refine kI (rV fx (c_Mo_unconfirmed l D ca h ad co M s₀ (by first | assumption | exact mOk.idle (by assumption) _ | exact mOk.clean (by assumption) _ | exact mOk.renew (by assumption) _ | exact (mOk.renew (by assumption) _).set 23 (show 3 < 6 by decide) | exact (mOk.renew (by assumption) _).set 23 (show 5 < 6 by decide)) (by omega)) ⟨callB_of 1 hts (tb_gi tw_721) rfl rfl rfl (ht _ tw_5) (ht _ tw_718) (by decide +kernel) ⟨(Nat.le_of_ble_eq_true rfl), (Nat.le_of_ble_eq_true rfl)⟩, ht _ tw_720, ht _ tw_852⟩ hE hP hD 0 rfl rfl rfl [0, 1, 2, 3, 4, 5, 6, 7, 8, 9, 10, 11, 12, 13, 14, 15, 16, 17, 18, 19, 20, 21, 22, 23, 24, 25, 26, 27, 28] rfl rfl rfl hl.1 rfl (Nat.le_of_ble_eq_true rfl) dMo_again_2 ⟨(Nat.le_of_ble_eq_true rfl), (Nat.le_of_ble_eq_true rfl)⟩) hP hD hS hA [0, 1, 2, 3, 4, 5, 6, 7, 8, 9, 10, 11, 12, 13, 14, 15, 16, 17, 18, 19, 20, 21, 22, 23, 24, 25, 26, 27, 28] [] rfl rfl rfl (by decide) (fun _ H locs _ hP hD hS => ?_)
  have hP : va_P D cls_ (mW h ad ca co M) H := hP
  have hD : va_D A (mW h ad ca co M) := hD
  refine lv_istore_n hx hb dMo_again_5 rfl hl (by decide) rfl (fun ls hl => ?_)
  have hl : lv_has ls 4 [(2, .int (nI (mUn M s₀))), (0, .ref h), (1, .int (nI s₀))] := hl
  refine lv_iconst (v := nI 0) hx hb dMo_again_6 (by decide) ?_
  refine lv_istore_n hx hb dMo_again_7 rfl hl (by decide) rfl (fun ls hl => ?_)
  have hl : lv_has ls 4 [(3, .int (nI 0)), (2, .int (nI (mUn M s₀))), (0, .ref h), (1, .int (nI s₀))] := hl
  have b9 : mUn M s₀ < 8 := ds_lt _ _
  have hgo : mAgR (mUn M s₀) M s₀ 0 = M1 := hres
  have hl := lv_sub hl [0, 1, 3, 2] rfl
  generalize mUn M s₀ = en at hl hgo b9
  have loop : ∀ (n : Nat) (kk : Nat) (L : Nat → Nat → Nat) (H : Heap) (locs : List Loc) (ls : Array Slot), mOk L → kk + n = en → mAgR n L s₀ kk = M1 → va_P D cls_ (mW h ad ca co L) H → va_D A (mW h ad ca co L) → va_S A s.heap H locs → lv_has ls 4 [(3, .int (nI kk)), (2, .int (nI en)), (1, .int (nI s₀)), (0, .ref h)] → W p l e ({ frames := 2, cells := 0, slots := 0, locals := 64 } : Room) s m args below meth c H locs 0 0 (MQ below (CoQ D (fun _ : Unit => none) (fun _ => True) (fun _ => (mW h ad ca co M1)) A) args s 0 0 A) (F0 m 8 ls []) := by
    intro n
    induction n with
    | zero =>
      intro kk L H locs ls hL hn hgo hP hD hS hl
      refine lv_iload_n hx hb dMo_again_8 rfl (lv_at hl 0 rfl) ?_
      refine lv_iload_n hx hb dMo_again_9 rfl (lv_at hl 1 rfl) ?_
      refine k_icmp_ge (tgt := 25) hx hb (by omega) (by omega) dMo_again_10 rfl (fun h10 => ?_) (fun hz => absurd hz (by omega))
      obtain rfl : L = M1 := hgo
      exact Co.retv hx hb hret hlk dMo_again_25 hS hP hD () rfl trivial rfl (Nat.le_of_ble_eq_true rfl) (Nat.le_of_ble_eq_true rfl)
    | succ n ih =>
      intro kk L H locs ls hL hn hgo hP hD hS hl
      refine lv_iload_n hx hb dMo_again_8 rfl (lv_at hl 0 rfl) ?_
      refine lv_iload_n hx hb dMo_again_9 rfl (lv_at hl 1 rfl) ?_
      refine k_icmp_ge (tgt := 25) hx hb (by omega) (by omega) dMo_again_10 rfl (fun hz => absurd hz (by omega)) (fun h10 => ?_)
      refine lv_aload_n hx hb dMo_again_13 rfl (lv_at hl 3 rfl) ?_
      refine lv_iload_n hx hb dMo_again_14 rfl (lv_at hl 2 rfl) ?_
      refine lv_iload_n hx hb dMo_again_15 rfl (lv_at hl 0 rfl) ?_
      refine kV (rV fx (c_Mo_carry l D ca h ad co L s₀ kk (by first | assumption | exact mOk.idle (by assumption) _ | exact mOk.clean (by assumption) _ | exact mOk.renew (by assumption) _ | exact (mOk.renew (by assumption) _).set 23 (show 3 < 6 by decide) | exact (mOk.renew (by assumption) _).set 23 (show 5 < 6 by decide)) (by omega) (by omega)) ⟨callB_of 2 hts (tb_gi tw_729) rfl rfl rfl (ht _ tw_5) (ht _ tw_726) (by decide +kernel) ⟨(Nat.le_of_ble_eq_true rfl), (Nat.le_of_ble_eq_true rfl)⟩, ht _ tw_728, ht _ tw_854⟩ hE hP hD 0 rfl rfl rfl [0, 1, 2, 3, 4, 5, 6, 7, 8, 9, 10, 11, 12, 13, 14, 15, 16, 17, 18, 19, 20, 21, 22, 23, 24, 25, 26, 27, 28] rfl rfl rfl hl.1 rfl (Nat.le_of_ble_eq_true rfl) dMo_again_16 ⟨(Nat.le_of_ble_eq_true rfl), (Nat.le_of_ble_eq_true rfl)⟩) hP hD hS hA [0, 1, 2, 3, 4, 5, 6, 7, 8, 9, 10, 11, 12, 13, 14, 15, 16, 17, 18, 19, 20, 21, 22, 23, 24, 25, 26, 27, 28] [] rfl rfl rfl (by decide) (fun _ H locs _ hP hD hS => ?_)
      have hP : va_P D cls_ (mW h ad ca co (mCarry L s₀ kk)) H := hP
      have hD : va_D A (mW h ad ca co (mCarry L s₀ kk)) := hD
      refine lv_iinc (k := 0) (v := nI (kk + 1)) hx hb dMo_again_19 hl rfl (n_inc _) (by decide) rfl (fun ls hl => ?_)
      have hl : lv_has ls 4 [(3, .int (nI (kk + 1))), (2, .int (nI en)), (1, .int (nI s₀)), (0, .ref h)] := hl
      refine lv_goto (tgt := 8) hx hb dMo_again_22 rfl ?_
      have hl := lv_sub hl [0, 1, 2, 3] rfl
      exact ih (kk + 1) (mCarry L s₀ kk) H locs ls (hL.carry _ _) (by omega) hgo hP hD hS hl
  exact loop en 0 M H locs ls hM (by omega) hgo hP hD hS hl
set_option maxHeartbeats 4000000 in
set_option maxRecDepth 100000 in
theorem c_Mo_post (l : Launch) (D : va_G) (ca : Nat → ClassId) (h : Nat) (ad : Nat → Nat) (co : Nat) (M : Nat → Nat → Nat) (s₀ kd cn nb ak vl : Nat) (hM : mOk M) (hs : s₀ < 2) (h1 : kd < 1048576) (h2 : cn < 1048576) (h3 : nb < 1048576) (h4 : ak < 1048576) (h5 : vl < 1048576) : Co (S := Unit) l yMo_post (Cond.code yMo_post cMo_post 8 none :: tb_) { frames := 3, cells := 0, slots := 0, locals := 96 } D ca [.ref h, .int (nI s₀), .int (nI kd), .int (nI cn), .int (nI nb), .int (nI ak), .int (nI vl)] (mW h ad ca co M) (fun _ => none) (fun _ => True) (fun _ => (mW h ad ca co (mPost M s₀ kd cn nb ak vl))) 0 0 := by
  refine Co.of cMo_post 8 none (by decide) (Nat.le_of_ble_eq_true rfl) ?_
  intro p e s m args below meth c A ls fx hret hlk hin hE hP hD hS hA hl
  have hx := fx.1
  have hb := fx.2.1
  have hown : s.vm.findClass RMo = some m.cls := fx.2.2.2.1
  have hts := fx.2.2.2.2
  have ht : ∀ w ∈ tb_, w.before args s = true := fun w h => hts w (List.mem_cons_of_mem _ h)
  have b1 : M 17 s₀ < 17 := hM 17 _
  have hl : lv_has ls 8 [(0, .ref h), (1, .int (nI s₀)), (2, .int (nI kd)), (3, .int (nI cn)), (4, .int (nI nb)), (5, .int (nI ak)), (6, .int (nI vl))] := hl
  refine lv_aload_n hx hb dMo_post_0 rfl (lv_at hl 0 rfl) ?_
  refine va_get (D := D) (ci := 4) (v := .ref (ad 17)) (C := RMo) (T := TMo) (N := 29) hx hb ht inMo hown hE.1 hP 0 rfl rfl 17 (by decide) (ht _ tw_604) (fun _ h => h) rfl dMo_post_1 ?_
  refine lv_iload_n hx hb dMo_post_4 rfl (lv_at hl 1 rfl) ?_
  refine k_iald hx hb hE.1 hP 17 0 (n := 2) (g := (M 17)) rfl rfl (i := s₀) (by omega) (by decide) dMo_post_5 ?_
  refine lv_bipush (v := nI 16) hx hb dMo_post_6 (by decide) ?_
  refine k_icmp_ge (tgt := 81) hx hb (by omega) (by omega) dMo_post_8 rfl (fun h8 => ?_) (fun h8 => ?_)
  · have e9 : mPut M s₀ kd cn nb ak vl = M := if_neg (by omega)
    rw [← e9] at hP hD
    have hM2 := hM.put s₀ h1 h2 h3 h4 h5
    refine lv_aload_n hx hb dMo_post_81 rfl (lv_at hl 0 rfl) ?_
    refine lv_iload_n hx hb dMo_post_82 rfl (lv_at hl 1 rfl) ?_
    refine kV (rV fx (c_Mo_pump l D ca h ad co (mPut M s₀ kd cn nb ak vl) s₀ _ (by first | assumption | exact mOk.idle (by assumption) _ | exact mOk.clean (by assumption) _ | exact mOk.renew (by assumption) _ | exact (mOk.renew (by assumption) _).set 23 (show 3 < 6 by decide) | exact (mOk.renew (by assumption) _).set 23 (show 5 < 6 by decide)) (by omega) rfl) ⟨callB_of 1 hts (tb_gi tw_752) rfl rfl rfl (ht _ tw_5) (ht _ tw_749) (by decide +kernel) ⟨(Nat.le_of_ble_eq_true rfl), (Nat.le_of_ble_eq_true rfl)⟩, ht _ tw_751, ht _ tw_859⟩ hE hP hD 0 rfl rfl rfl [0, 1, 2, 3, 4, 5, 6, 7, 8, 9, 10, 11, 12, 13, 14, 15, 16, 17, 18, 19, 20, 21, 22, 23, 24, 25, 26, 27, 28] rfl rfl rfl hl.1 rfl (Nat.le_of_ble_eq_true rfl) dMo_post_83 ⟨(Nat.le_of_ble_eq_true rfl), (Nat.le_of_ble_eq_true rfl)⟩) hP hD hS hA [0, 1, 2, 3, 4, 5, 6, 7, 8, 9, 10, 11, 12, 13, 14, 15, 16, 17, 18, 19, 20, 21, 22, 23, 24, 25, 26, 27, 28] [] rfl rfl rfl (by decide) (fun _ H locs _ hP hD hS => ?_)
    have hP : va_P D cls_ (mW h ad ca co (mPump 4 (mPut M s₀ kd cn nb ak vl) s₀)) H := hP
    have hD : va_D A (mW h ad ca co (mPump 4 (mPut M s₀ kd cn nb ak vl) s₀)) := hD
    exact Co.retv hx hb hret hlk dMo_post_86 hS hP hD () rfl trivial rfl (Nat.le_of_ble_eq_true rfl) (Nat.le_of_ble_eq_true rfl)
  · refine lv_bipush (v := nI 16) hx hb dMo_post_11 (by decide) ?_
    refine lv_iload_n hx hb dMo_post_13 rfl (lv_at hl 1 rfl) ?_
    refine k_imul hx hb dMo_post_14 ?_
    refine lv_aload_n hx hb dMo_post_15 rfl (lv_at hl 0 rfl) ?_
    refine va_get (D := D) (ci := 4) (v := .ref (ad 17)) (C := RMo) (T := TMo) (N := 29) hx hb ht inMo hown hE.1 hP 0 rfl rfl 17 (by decide) (ht _ tw_604) (fun _ h => h) rfl dMo_post_16 ?_
    refine lv_iload_n hx hb dMo_post_19 rfl (lv_at hl 1 rfl) ?_
    refine k_iald hx hb hE.1 hP 17 0 (n := 2) (g := (M 17)) rfl rfl (i := s₀) (by omega) (by decide) dMo_post_20 ?_
    refine k_iadd hx hb dMo_post_21 ?_
    refine lv_istore hx hb dMo_post_22 hl (by decide) rfl (fun ls hl => ?_)
    have hl : lv_has ls 8 [(7, .int (nI ((16 * s₀) + (M 17 s₀)))), (0, .ref h), (1, .int (nI s₀)), (2, .int (nI kd)), (3, .int (nI cn)), (4, .int (nI nb)), (5, .int (nI ak)), (6, .int (nI vl))] := hl
    refine lv_aload_n hx hb dMo_post_24 rfl (lv_at hl 1 rfl) ?_
    refine va_get (D := D) (ci := 4) (v := .ref (ad 17)) (C := RMo) (T := TMo) (N := 29) hx hb ht inMo hown hE.1 hP 0 rfl rfl 17 (by decide) (ht _ tw_604) (fun _ h => h) rfl dMo_post_25 ?_
    refine lv_iload_n hx hb dMo_post_28 rfl (lv_at hl 2 rfl) ?_
    refine lv_aload_n hx hb dMo_post_29 rfl (lv_at hl 1 rfl) ?_
    refine va_get (D := D) (ci := 4) (v := .ref (ad 17)) (C := RMo) (T := TMo) (N := 29) hx hb ht inMo hown hE.1 hP 0 rfl rfl 17 (by decide) (ht _ tw_604) (fun _ h => h) rfl dMo_post_30 ?_
    refine lv_iload_n hx hb dMo_post_33 rfl (lv_at hl 2 rfl) ?_
    refine k_iald hx hb hE.1 hP 17 0 (n := 2) (g := (M 17)) rfl rfl (i := s₀) (by omega) (by decide) dMo_post_34 ?_
    refine lv_iconst (v := nI 1) hx hb dMo_post_35 (by decide) ?_
    refine k_iadd hx hb dMo_post_36 ?_
    refine k_iast hx hb hE.1 hP hD hS 17 0 (n := 2) (g := (M 17)) rfl rfl (i := s₀) (x := ((M 17 s₀) + 1)) (by omega) (by decide) dMo_post_37 (fun H locs hP hD hS => ?_)
    rw [mo_set_17] at hP hD
    refine lv_aload_n hx hb dMo_post_38 rfl (lv_at hl 1 rfl) ?_
    refine va_get (D := D) (ci := 4) (v := .ref (ad 18)) (C := RMo) (T := TMo) (N := 29) hx hb ht inMo hown hE.1 hP 0 rfl rfl 18 (by decide) (ht _ tw_605) (fun _ h => h) rfl dMo_post_39 ?_
    refine lv_iload hx hb dMo_post_42 (lv_at hl 0 rfl) ?_
    refine lv_iload_n hx hb dMo_post_44 rfl (lv_at hl 3 rfl) ?_
    refine k_iast hx hb hE.1 hP hD hS 18 0 (n := 32) (g := ((mS M 17 s₀ ((M 17 s₀) + 1)) 18)) rfl rfl (i := ((16 * s₀) + (M 17 s₀))) (x := kd) (by omega) (by decide) dMo_post_45 (fun H locs hP hD hS => ?_)
    rw [mo_set_18] at hP hD
    refine lv_aload_n hx hb dMo_post_46 rfl (lv_at hl 1 rfl) ?_
    refine va_get (D := D) (ci := 4) (v := .ref (ad 19)) (C := RMo) (T := TMo) (N := 29) hx hb ht inMo hown hE.1 hP 0 rfl rfl 19 (by decide) (ht _ tw_606) (fun _ h => h) rfl dMo_post_47 ?_
    refine lv_iload hx hb dMo_post_50 (lv_at hl 0 rfl) ?_
    refine lv_iload_n hx hb dMo_post_52 rfl (lv_at hl 4 rfl) ?_
    refine k_iast hx hb hE.1 hP hD hS 19 0 (n := 32) (g := ((mS (mS M 17 s₀ ((M 17 s₀) + 1)) 18 ((16 * s₀) + (M 17 s₀)) kd) 19)) rfl rfl (i := ((16 * s₀) + (M 17 s₀))) (x := cn) (by omega) (by decide) dMo_post_53 (fun H locs hP hD hS => ?_)
    rw [mo_set_19] at hP hD
    refine lv_aload_n hx hb dMo_post_54 rfl (lv_at hl 1 rfl) ?_
    refine va_get (D := D) (ci := 4) (v := .ref (ad 20)) (C := RMo) (T := TMo) (N := 29) hx hb ht inMo hown hE.1 hP 0 rfl rfl 20 (by decide) (ht _ tw_607) (fun _ h => h) rfl dMo_post_55 ?_
    refine lv_iload hx hb dMo_post_58 (lv_at hl 0 rfl) ?_
    refine lv_iload hx hb dMo_post_60 (lv_at hl 5 rfl) ?_
    refine k_iast hx hb hE.1 hP hD hS 20 0 (n := 32) (g := ((mS (mS (mS M 17 s₀ ((M 17 s₀) + 1)) 18 ((16 * s₀) + (M 17 s₀)) kd) 19 ((16 * s₀) + (M 17 s₀)) cn) 20)) rfl rfl (i := ((16 * s₀) + (M 17 s₀))) (x := nb) (by omega) (by decide) dMo_post_62 (fun H locs hP hD hS => ?_)
    rw [mo_set_20] at hP hD
    refine lv_aload_n hx hb dMo_post_63 rfl (lv_at hl 1 rfl) ?_
    refine va_get (D := D) (ci := 4) (v := .ref (ad 21)) (C := RMo) (T := TMo) (N := 29) hx hb ht inMo hown hE.1 hP 0 rfl rfl 21 (by decide) (ht _ tw_608) (fun _ h => h) rfl dMo_post_64 ?_
    refine lv_iload hx hb dMo_post_67 (lv_at hl 0 rfl) ?_
    refine lv_iload hx hb dMo_post_69 (lv_at hl 6 rfl) ?_
    refine k_iast hx hb hE.1 hP hD hS 21 0 (n := 32) (g := ((mS (mS (mS (mS M 17 s₀ ((M 17 s₀) + 1)) 18 ((16 * s₀) + (M 17 s₀)) kd) 19 ((16 * s₀) + (M 17 s₀)) cn) 20 ((16 * s₀) + (M 17 s₀)) nb) 21)) rfl rfl (i := ((16 * s₀) + (M 17 s₀))) (x := ak) (by omega) (by decide) dMo_post_71 (fun H locs hP hD hS => ?_)
    rw [mo_set_21] at hP hD
    refine lv_aload_n hx hb dMo_post_72 rfl (lv_at hl 1 rfl) ?_
    refine va_get (D := D) (ci := 4) (v := .ref (ad 22)) (C := RMo) (T := TMo) (N := 29) hx hb ht inMo hown hE.1 hP 0 rfl rfl 22 (by decide) (ht _ tw_609) (fun _ h => h) rfl dMo_post_73 ?_
    refine lv_iload hx hb dMo_post_76 (lv_at hl 0 rfl) ?_
    refine lv_iload hx hb dMo_post_78 (lv_at hl 7 rfl) ?_
    refine k_iast hx hb hE.1 hP hD hS 22 0 (n := 32) (g := ((mS (mS (mS (mS (mS M 17 s₀ ((M 17 s₀) + 1)) 18 ((16 * s₀) + (M 17 s₀)) kd) 19 ((16 * s₀) + (M 17 s₀)) cn) 20 ((16 * s₀) + (M 17 s₀)) nb) 21 ((16 * s₀) + (M 17 s₀)) ak) 22)) rfl rfl (i := ((16 * s₀) + (M 17 s₀))) (x := vl) (by omega) (by decide) dMo_post_80 (fun H locs hP hD hS => ?_)
    rw [mo_set_22] at hP hD
    have e9 : mPut M s₀ kd cn nb ak vl = mS (mS (mS (mS (mS (mS M 17 s₀ ((M 17 s₀) + 1)) 18 ((16 * s₀) + (M 17 s₀)) kd) 19 ((16 * s₀) + (M 17 s₀)) cn) 20 ((16 * s₀) + (M 17 s₀)) nb) 21 ((16 * s₀) + (M 17 s₀)) ak) 22 ((16 * s₀) + (M 17 s₀)) vl := if_pos (by omega)
    rw [← e9] at hP hD
    have hM2 := hM.put s₀ h1 h2 h3 h4 h5
    refine lv_aload_n hx hb dMo_post_81 rfl (lv_at hl 1 rfl) ?_
    refine lv_iload_n hx hb dMo_post_82 rfl (lv_at hl 2 rfl) ?_
    refine kV (rV fx (c_Mo_pump l D ca h ad co (mPut M s₀ kd cn nb ak vl) s₀ _ (by first | assumption | exact mOk.idle (by assumption) _ | exact mOk.clean (by assumption) _ | exact mOk.renew (by assumption) _ | exact (mOk.renew (by assumption) _).set 23 (show 3 < 6 by decide) | exact (mOk.renew (by assumption) _).set 23 (show 5 < 6 by decide)) (by omega) rfl) ⟨callB_of 1 hts (tb_gi tw_752) rfl rfl rfl (ht _ tw_5) (ht _ tw_749) (by decide +kernel) ⟨(Nat.le_of_ble_eq_true rfl), (Nat.le_of_ble_eq_true rfl)⟩, ht _ tw_751, ht _ tw_859⟩ hE hP hD 0 rfl rfl rfl [0, 1, 2, 3, 4, 5, 6, 7, 8, 9, 10, 11, 12, 13, 14, 15, 16, 17, 18, 19, 20, 21, 22, 23, 24, 25, 26, 27, 28] rfl rfl rfl hl.1 rfl (Nat.le_of_ble_eq_true rfl) dMo_post_83 ⟨(Nat.le_of_ble_eq_true rfl), (Nat.le_of_ble_eq_true rfl)⟩) hP hD hS hA [0, 1, 2, 3, 4, 5, 6, 7, 8, 9, 10, 11, 12, 13, 14, 15, 16, 17, 18, 19, 20, 21, 22, 23, 24, 25, 26, 27, 28] [] rfl rfl rfl (by decide) (fun _ H locs _ hP hD hS => ?_)
    have hP : va_P D cls_ (mW h ad ca co (mPump 4 (mPut M s₀ kd cn nb ak vl) s₀)) H := hP
    have hD : va_D A (mW h ad ca co (mPump 4 (mPut M s₀ kd cn nb ak vl) s₀)) := hD
    exact Co.retv hx hb hret hlk dMo_post_86 hS hP hD () rfl trivial rfl (Nat.le_of_ble_eq_true rfl) (Nat.le_of_ble_eq_true rfl)
set_option maxHeartbeats 4000000 in
set_option maxRecDepth 100000 in
theorem c_Mo_renew (l : Launch) (D : va_G) (ca : Nat → ClassId) (h : Nat) (ad : Nat → Nat) (co : Nat) (M : Nat → Nat → Nat) (kk : Nat) (hk : kk < 6) : Co (S := Unit) l yMo_renew (Cond.code yMo_renew cMo_renew 2 none :: tb_) { frames := 0, cells := 0, slots := 0, locals := 0 } D ca [.ref h, .int (nI kk)] (mW h ad ca co M) (fun _ => none) (fun _ => True) (fun _ => (mW h ad ca co (mRenew M kk))) 0 0 := by
  refine Co.of cMo_renew 2 none (by decide) (Nat.le_of_ble_eq_true rfl) ?_
  intro p e s m args below meth c A ls fx hret hlk hin hE hP hD hS hA hl
  have hx := fx.1
  have hb := fx.2.1
  have hown : s.vm.findClass RMo = some m.cls := fx.2.2.2.1
  have hts := fx.2.2.2.2
  have ht : ∀ w ∈ tb_, w.before args s = true := fun w h => hts w (List.mem_cons_of_mem _ h)
  have hl : lv_has ls 2 [(0, .ref h), (1, .int (nI kk))] := hl
  refine lv_aload_n hx hb dMo_renew_0 rfl (lv_at hl 0 rfl) ?_
  refine va_get (D := D) (ci := 4) (v := .ref (ad 24)) (C := RMo) (T := TMo) (N := 29) hx hb ht inMo hown hE.1 hP 0 rfl rfl 24 (by decide) (ht _ tw_611) (fun _ h => h) rfl dMo_renew_1 ?_
  refine lv_iload_n hx hb dMo_renew_4 rfl (lv_at hl 1 rfl) ?_
  refine lv_iconst (v := nI 0) hx hb dMo_renew_5 (by decide) ?_
  refine k_iast hx hb hE.1 hP hD hS 24 0 (n := 6) (g := (M 24)) rfl rfl (i := kk) (x := 0) (by omega) (by decide) dMo_renew_6 (fun H locs hP hD hS => ?_)
  rw [mo_set_24] at hP hD
  refine lv_aload_n hx hb dMo_renew_7 rfl (lv_at hl 0 rfl) ?_
  refine va_get (D := D) (ci := 4) (v := .ref (ad 25)) (C := RMo) (T := TMo) (N := 29) hx hb ht inMo hown hE.1 hP 0 rfl rfl 25 (by decide) (ht _ tw_612) (fun _ h => h) rfl dMo_renew_8 ?_
  refine lv_iload_n hx hb dMo_renew_11 rfl (lv_at hl 1 rfl) ?_
  refine lv_iconst (v := nI 0) hx hb dMo_renew_12 (by decide) ?_
  refine k_iast hx hb hE.1 hP hD hS 25 0 (n := 6) (g := ((mS M 24 kk 0) 25)) rfl rfl (i := kk) (x := 0) (by omega) (by decide) dMo_renew_13 (fun H locs hP hD hS => ?_)
  rw [mo_set_25] at hP hD
  refine lv_aload_n hx hb dMo_renew_14 rfl (lv_at hl 0 rfl) ?_
  refine va_get (D := D) (ci := 4) (v := .ref (ad 26)) (C := RMo) (T := TMo) (N := 29) hx hb ht inMo hown hE.1 hP 0 rfl rfl 26 (by decide) (ht _ tw_613) (fun _ h => h) rfl dMo_renew_15 ?_
  refine lv_iload_n hx hb dMo_renew_18 rfl (lv_at hl 1 rfl) ?_
  refine lv_iconst (v := nI 0) hx hb dMo_renew_19 (by decide) ?_
  refine k_iast hx hb hE.1 hP hD hS 26 0 (n := 6) (g := ((mS (mS M 24 kk 0) 25 kk 0) 26)) rfl rfl (i := kk) (x := 0) (by omega) (by decide) dMo_renew_20 (fun H locs hP hD hS => ?_)
  rw [mo_set_26] at hP hD
  refine lv_aload_n hx hb dMo_renew_21 rfl (lv_at hl 0 rfl) ?_
  refine va_get (D := D) (ci := 4) (v := .ref (ad 27)) (C := RMo) (T := TMo) (N := 29) hx hb ht inMo hown hE.1 hP 0 rfl rfl 27 (by decide) (ht _ tw_614) (fun _ h => h) rfl dMo_renew_22 ?_
  refine lv_iload_n hx hb dMo_renew_25 rfl (lv_at hl 1 rfl) ?_
  refine lv_iconst (v := nI 0) hx hb dMo_renew_26 (by decide) ?_
  refine k_iast hx hb hE.1 hP hD hS 27 0 (n := 6) (g := ((mS (mS (mS M 24 kk 0) 25 kk 0) 26 kk 0) 27)) rfl rfl (i := kk) (x := 0) (by omega) (by decide) dMo_renew_27 (fun H locs hP hD hS => ?_)
  rw [mo_set_27] at hP hD
  exact Co.retv hx hb hret hlk dMo_renew_28 hS hP hD () rfl trivial rfl (Nat.le_of_ble_eq_true rfl) (Nat.le_of_ble_eq_true rfl)
set_option maxHeartbeats 4000000 in
set_option maxRecDepth 100000 in
theorem c_Mo_idle (l : Launch) (D : va_G) (ca : Nat → ClassId) (h : Nat) (ad : Nat → Nat) (co : Nat) (M : Nat → Nat → Nat) (kk : Nat) (hk : kk < 6) : Co (S := Unit) l yMo_idle (Cond.code yMo_idle cMo_idle 2 none :: tb_) { frames := 1, cells := 0, slots := 0, locals := 32 } D ca [.ref h, .int (nI kk)] (mW h ad ca co M) (fun _ => none) (fun _ => True) (fun _ => (mW h ad ca co (mIdle M kk))) 0 0 := by
  refine Co.of cMo_idle 2 none (by decide) (Nat.le_of_ble_eq_true rfl) ?_
  intro p e s m args below meth c A ls fx hret hlk hin hE hP hD hS hA hl
  have hx := fx.1
  have hb := fx.2.1
  have hown : s.vm.findClass RMo = some m.cls := fx.2.2.2.1
  have hts := fx.2.2.2.2
  have ht : ∀ w ∈ tb_, w.before args s = true := fun w h => hts w (List.mem_cons_of_mem _ h)
  have hl : lv_has ls 2 [(0, .ref h), (1, .int (nI kk))] := hl
  refine lv_aload_n hx hb dMo_idle_0 rfl (lv_at hl 0 rfl) ?_
  refine va_get (D := D) (ci := 4) (v := .ref (ad 23)) (C := RMo) (T := TMo) (N := 29) hx hb ht inMo hown hE.1 hP 0 rfl rfl 23 (by decide) (ht _ tw_610) (fun _ h => h) rfl dMo_idle_1 ?_
  refine lv_iload_n hx hb dMo_idle_4 rfl (lv_at hl 1 rfl) ?_
  refine lv_iconst (v := nI 0) hx hb dMo_idle_5 (by decide) ?_
  refine k_iast hx hb hE.1 hP hD hS 23 0 (n := 6) (g := (M 23)) rfl rfl (i := kk) (x := 0) (by omega) (by decide) dMo_idle_6 (fun H locs hP hD hS => ?_)
  rw [mo_set_23] at hP hD
  refine lv_aload_n hx hb dMo_idle_7 rfl (lv_at hl 0 rfl) ?_
  refine lv_iload_n hx hb dMo_idle_8 rfl (lv_at hl 1 rfl) ?_
  refine kV (rV fx (c_Mo_renew l D ca h ad co (mS M 23 kk 0) kk (by omega)) ⟨callB_of 1 hts (tb_gi tw_702) rfl rfl rfl (ht _ tw_5) (ht _ tw_699) (by decide +kernel) ⟨(Nat.le_of_ble_eq_true rfl), (Nat.le_of_ble_eq_true rfl)⟩, ht _ tw_701, ht _ tw_848⟩ hE hP hD 0 rfl rfl rfl [0, 1, 2, 3, 4, 5, 6, 7, 8, 9, 10, 11, 12, 13, 14, 15, 16, 17, 18, 19, 20, 21, 22, 23, 24, 25, 26, 27, 28] rfl rfl rfl hl.1 rfl (Nat.le_of_ble_eq_true rfl) dMo_idle_9 ⟨(Nat.le_of_ble_eq_true rfl), (Nat.le_of_ble_eq_true rfl)⟩) hP hD hS hA [0, 1, 2, 3, 4, 5, 6, 7, 8, 9, 10, 11, 12, 13, 14, 15, 16, 17, 18, 19, 20, 21, 22, 23, 24, 25, 26, 27, 28] [] rfl rfl rfl (by decide) (fun _ H locs _ hP hD hS => ?_)
  have hP : va_P D cls_ (mW h ad ca co (mRenew (mS M 23 kk 0) kk)) H := hP
  have hD : va_D A (mW h ad ca co (mRenew (mS M 23 kk 0) kk)) := hD
  exact Co.retv hx hb hret hlk dMo_idle_12 hS hP hD () rfl trivial rfl (Nat.le_of_ble_eq_true rfl) (Nat.le_of_ble_eq_true rfl)
set_option maxHeartbeats 4000000 in
set_option maxRecDepth 100000 in
theorem c_Mo_clean (l : Launch) (D : va_G) (ca : Nat → ClassId) (h : Nat) (ad : Nat → Nat) (co : Nat) (M : Nat → Nat → Nat) (s₀ : Nat) (hs : s₀ < 2) : Co (S := Unit) l yMo_clean (Cond.code yMo_clean cMo_clean 3 none :: tb_) { frames := 1, cells := 0, slots := 0, locals := 32 } D ca [.ref h, .int (nI s₀)] (mW h ad ca co M) (fun _ => none) (fun _ => True) (fun _ => (mW h ad ca co (mClean M s₀))) 0 0 := by
  refine Co.of cMo_clean 3 none (by decide) (Nat.le_of_ble_eq_true rfl) ?_
  intro p e s m args below meth c A ls fx hret hlk hin hE hP hD hS hA hl
  have hx := fx.1
  have hb := fx.2.1
  have hown : s.vm.findClass RMo = some m.cls := fx.2.2.2.1
  have hts := fx.2.2.2.2
  have ht : ∀ w ∈ tb_, w.before args s = true := fun w h => hts w (List.mem_cons_of_mem _ h)
  have hl : lv_has ls 3 [(0, .ref h), (1, .int (nI s₀))] := hl
  refine lv_aload_n hx hb dMo_clean_0 rfl (lv_at hl 0 rfl) ?_
  refine va_get (D := D) (ci := 4) (v := .ref (ad 11)) (C := RMo) (T := TMo) (N := 29) hx hb ht inMo hown hE.1 hP 0 rfl rfl 11 (by decide) (ht _ tw_598) (fun _ h => h) rfl dMo_clean_1 ?_
  refine lv_iload_n hx hb dMo_clean_4 rfl (lv_at hl 1 rfl) ?_
  refine lv_iconst (v := nI 0) hx hb dMo_clean_5 (by decide) ?_
  refine k_iast hx hb hE.1 hP hD hS 11 0 (n := 2) (g := (M 11)) rfl rfl (i := s₀) (x := 0) (by omega) (by decide) dMo_clean_6 (fun H locs hP hD hS => ?_)
  rw [mo_set_11] at hP hD
  refine lv_aload_n hx hb dMo_clean_7 rfl (lv_at hl 0 rfl) ?_
  refine va_get (D := D) (ci := 4) (v := .ref (ad 12)) (C := RMo) (T := TMo) (N := 29) hx hb ht inMo hown hE.1 hP 0 rfl rfl 12 (by decide) (ht _ tw_599) (fun _ h => h) rfl dMo_clean_8 ?_
  refine lv_iload_n hx hb dMo_clean_11 rfl (lv_at hl 1 rfl) ?_
  refine lv_iconst (v := nI 0) hx hb dMo_clean_12 (by decide) ?_
  refine k_iast hx hb hE.1 hP hD hS 12 0 (n := 2) (g := ((mS M 11 s₀ 0) 12)) rfl rfl (i := s₀) (x := 0) (by omega) (by decide) dMo_clean_13 (fun H locs hP hD hS => ?_)
  rw [mo_set_12] at hP hD
  refine lv_aload_n hx hb dMo_clean_14 rfl (lv_at hl 0 rfl) ?_
  refine va_get (D := D) (ci := 4) (v := .ref (ad 13)) (C := RMo) (T := TMo) (N := 29) hx hb ht inMo hown hE.1 hP 0 rfl rfl 13 (by decide) (ht _ tw_600) (fun _ h => h) rfl dMo_clean_15 ?_
  refine lv_iload_n hx hb dMo_clean_18 rfl (lv_at hl 1 rfl) ?_
  refine lv_iconst (v := nI 0) hx hb dMo_clean_19 (by decide) ?_
  refine k_iast hx hb hE.1 hP hD hS 13 0 (n := 2) (g := ((mS (mS M 11 s₀ 0) 12 s₀ 0) 13)) rfl rfl (i := s₀) (x := 0) (by omega) (by decide) dMo_clean_20 (fun H locs hP hD hS => ?_)
  rw [mo_set_13] at hP hD
  refine lv_aload_n hx hb dMo_clean_21 rfl (lv_at hl 0 rfl) ?_
  refine va_get (D := D) (ci := 4) (v := .ref (ad 14)) (C := RMo) (T := TMo) (N := 29) hx hb ht inMo hown hE.1 hP 0 rfl rfl 14 (by decide) (ht _ tw_601) (fun _ h => h) rfl dMo_clean_22 ?_
  refine lv_iload_n hx hb dMo_clean_25 rfl (lv_at hl 1 rfl) ?_
  refine lv_iconst (v := nI 0) hx hb dMo_clean_26 (by decide) ?_
  refine k_iast hx hb hE.1 hP hD hS 14 0 (n := 2) (g := ((mS (mS (mS M 11 s₀ 0) 12 s₀ 0) 13 s₀ 0) 14)) rfl rfl (i := s₀) (x := 0) (by omega) (by decide) dMo_clean_27 (fun H locs hP hD hS => ?_)
  rw [mo_set_14] at hP hD
  refine lv_aload_n hx hb dMo_clean_28 rfl (lv_at hl 0 rfl) ?_
  refine va_get (D := D) (ci := 4) (v := .ref (ad 15)) (C := RMo) (T := TMo) (N := 29) hx hb ht inMo hown hE.1 hP 0 rfl rfl 15 (by decide) (ht _ tw_602) (fun _ h => h) rfl dMo_clean_29 ?_
  refine lv_iload_n hx hb dMo_clean_32 rfl (lv_at hl 1 rfl) ?_
  refine lv_iconst (v := nI 0) hx hb dMo_clean_33 (by decide) ?_
  refine k_zast hx hb hE.1 hP hD hS 15 1 (n := 2) (g := ((mS (mS (mS (mS M 11 s₀ 0) 12 s₀ 0) 13 s₀ 0) 14 s₀ 0) 15)) rfl rfl (i := s₀) (x := 0) (by omega) (by omega) (by decide) dMo_clean_34 (fun H locs hP hD hS => ?_)
  rw [mo_set_15] at hP hD
  refine lv_aload_n hx hb dMo_clean_35 rfl (lv_at hl 0 rfl) ?_
  refine va_get (D := D) (ci := 4) (v := .ref (ad 17)) (C := RMo) (T := TMo) (N := 29) hx hb ht inMo hown hE.1 hP 0 rfl rfl 17 (by decide) (ht _ tw_604) (fun _ h => h) rfl dMo_clean_36 ?_
  refine lv_iload_n hx hb dMo_clean_39 rfl (lv_at hl 1 rfl) ?_
  refine lv_iconst (v := nI 0) hx hb dMo_clean_40 (by decide) ?_
  refine k_iast hx hb hE.1 hP hD hS 17 0 (n := 2) (g := ((mS (mS (mS (mS (mS M 11 s₀ 0) 12 s₀ 0) 13 s₀ 0) 14 s₀ 0) 15 s₀ 0) 17)) rfl rfl (i := s₀) (x := 0) (by omega) (by decide) dMo_clean_41 (fun H locs hP hD hS => ?_)
  rw [mo_set_17] at hP hD
  refine lv_iconst (v := nI 0) hx hb dMo_clean_42 (by decide) ?_
  refine lv_istore_n hx hb dMo_clean_43 rfl hl (by decide) rfl (fun ls hl => ?_)
  have hl : lv_has ls 3 [(2, .int (nI 0)), (0, .ref h), (1, .int (nI s₀))] := hl
  refine lv_iload_n hx hb dMo_clean_44 rfl (lv_at hl 0 rfl) ?_
  refine lv_iconst (v := nI 3) hx hb dMo_clean_45 (by decide) ?_
  refine k_icmp_ge (tgt := 75) hx hb (by omega) (by omega) dMo_clean_46 rfl (fun hz => absurd hz (by omega)) (fun h46 => ?_)
  refine lv_aload_n hx hb dMo_clean_49 rfl (lv_at hl 1 rfl) ?_
  refine va_get (D := D) (ci := 4) (v := .ref (ad 23)) (C := RMo) (T := TMo) (N := 29) hx hb ht inMo hown hE.1 hP 0 rfl rfl 23 (by decide) (ht _ tw_610) (fun _ h => h) rfl dMo_clean_50 ?_
  refine lv_iconst (v := nI 3) hx hb dMo_clean_53 (by decide) ?_
  refine lv_iload_n hx hb dMo_clean_54 rfl (lv_at hl 2 rfl) ?_
  refine k_imul hx hb dMo_clean_55 ?_
  refine lv_iload_n hx hb dMo_clean_56 rfl (lv_at hl 0 rfl) ?_
  refine k_iadd hx hb dMo_clean_57 ?_
  refine lv_iconst (v := nI 0) hx hb dMo_clean_58 (by decide) ?_
  refine k_iast hx hb hE.1 hP hD hS 23 0 (n := 6) (g := ((mS (mS (mS (mS (mS (mS M 11 s₀ 0) 12 s₀ 0) 13 s₀ 0) 14 s₀ 0) 15 s₀ 0) 17 s₀ 0) 23)) rfl rfl (i := ((3 * s₀) + 0)) (x := 0) (by omega) (by decide) dMo_clean_59 (fun H locs hP hD hS => ?_)
  rw [mo_set_23] at hP hD
  refine lv_aload_n hx hb dMo_clean_60 rfl (lv_at hl 1 rfl) ?_
  refine lv_iconst (v := nI 3) hx hb dMo_clean_61 (by decide) ?_
  refine lv_iload_n hx hb dMo_clean_62 rfl (lv_at hl 2 rfl) ?_
  refine k_imul hx hb dMo_clean_63 ?_
  refine lv_iload_n hx hb dMo_clean_64 rfl (lv_at hl 0 rfl) ?_
  refine k_iadd hx hb dMo_clean_65 ?_
  refine kV (rV fx (c_Mo_renew l D ca h ad co (mS (mS (mS (mS (mS (mS (mS M 11 s₀ 0) 12 s₀ 0) 13 s₀ 0) 14 s₀ 0) 15 s₀ 0) 17 s₀ 0) 23 ((3 * s₀) + 0) 0) ((3 * s₀) + 0) (by omega)) ⟨callB_of 1 hts (tb_gi tw_702) rfl rfl rfl (ht _ tw_5) (ht _ tw_699) (by decide +kernel) ⟨(Nat.le_of_ble_eq_true rfl), (Nat.le_of_ble_eq_true rfl)⟩, ht _ tw_701, ht _ tw_848⟩ hE hP hD 0 rfl rfl rfl [0, 1, 2, 3, 4, 5, 6, 7, 8, 9, 10, 11, 12, 13, 14, 15, 16, 17, 18, 19, 20, 21, 22, 23, 24, 25, 26, 27, 28] rfl rfl rfl hl.1 rfl (Nat.le_of_ble_eq_true rfl) dMo_clean_66 ⟨(Nat.le_of_ble_eq_true rfl), (Nat.le_of_ble_eq_true rfl)⟩) hP hD hS hA [0, 1, 2, 3, 4, 5, 6, 7, 8, 9, 10, 11, 12, 13, 14, 15, 16, 17, 18, 19, 20, 21, 22, 23, 24, 25, 26, 27, 28] [] rfl rfl rfl (by decide) (fun _ H locs _ hP hD hS => ?_)
  have hP : va_P D cls_ (mW h ad ca co (mRenew (mS (mS (mS (mS (mS (mS (mS M 11 s₀ 0) 12 s₀ 0) 13 s₀ 0) 14 s₀ 0) 15 s₀ 0) 17 s₀ 0) 23 ((3 * s₀) + 0) 0) ((3 * s₀) + 0))) H := hP
  have hD : va_D A (mW h ad ca co (mRenew (mS (mS (mS (mS (mS (mS (mS M 11 s₀ 0) 12 s₀ 0) 13 s₀ 0) 14 s₀ 0) 15 s₀ 0) 17 s₀ 0) 23 ((3 * s₀) + 0) 0) ((3 * s₀) + 0))) := hD
  refine lv_iinc (k := 0) (v := nI (0 + 1)) hx hb dMo_clean_69 hl rfl (n_inc _) (by decide) rfl (fun ls hl => ?_)
  have hl : lv_has ls 3 [(2, .int (nI (0 + 1))), (0, .ref h), (1, .int (nI s₀))] := hl
  refine lv_goto (tgt := 44) hx hb dMo_clean_72 rfl ?_
  refine lv_iload_n hx hb dMo_clean_44 rfl (lv_at hl 0 rfl) ?_
  refine lv_iconst (v := nI 3) hx hb dMo_clean_45 (by decide) ?_
  refine k_icmp_ge (tgt := 75) hx hb (by omega) (by omega) dMo_clean_46 rfl (fun hz => absurd hz (by omega)) (fun h46 => ?_)
  refine lv_aload_n hx hb dMo_clean_49 rfl (lv_at hl 1 rfl) ?_
  refine va_get (D := D) (ci := 4) (v := .ref (ad 23)) (C := RMo) (T := TMo) (N := 29) hx hb ht inMo hown hE.1 hP 0 rfl rfl 23 (by decide) (ht _ tw_610) (fun _ h => h) rfl dMo_clean_50 ?_
  refine lv_iconst (v := nI 3) hx hb dMo_clean_53 (by decide) ?_
  refine lv_iload_n hx hb dMo_clean_54 rfl (lv_at hl 2 rfl) ?_
  refine k_imul hx hb dMo_clean_55 ?_
  refine lv_iload_n hx hb dMo_clean_56 rfl (lv_at hl 0 rfl) ?_
  refine k_iadd hx hb dMo_clean_57 ?_
  refine lv_iconst (v := nI 0) hx hb dMo_clean_58 (by decide) ?_
  refine k_iast hx hb hE.1 hP hD hS 23 0 (n := 6) (g := ((mRenew (mS (mS (mS (mS (mS (mS (mS M 11 s₀ 0) 12 s₀ 0) 13 s₀ 0) 14 s₀ 0) 15 s₀ 0) 17 s₀ 0) 23 ((3 * s₀) + 0) 0) ((3 * s₀) + 0)) 23)) rfl rfl (i := ((3 * s₀) + (0 + 1))) (x := 0) (by omega) (by decide) dMo_clean_59 (fun H locs hP hD hS => ?_)
  rw [mo_set_23] at hP hD
  refine lv_aload_n hx hb dMo_clean_60 rfl (lv_at hl 1 rfl) ?_
  refine lv_iconst (v := nI 3) hx hb dMo_clean_61 (by decide) ?_
  refine lv_iload_n hx hb dMo_clean_62 rfl (lv_at hl 2 rfl) ?_
  refine k_imul hx hb dMo_clean_63 ?_
  refine lv_iload_n hx hb dMo_clean_64 rfl (lv_at hl 0 rfl) ?_
  refine k_iadd hx hb dMo_clean_65 ?_
  refine kV (rV fx (c_Mo_renew l D ca h ad co (mS (mRenew (mS (mS (mS (mS (mS (mS (mS M 11 s₀ 0) 12 s₀ 0) 13 s₀ 0) 14 s₀ 0) 15 s₀ 0) 17 s₀ 0) 23 ((3 * s₀) + 0) 0) ((3 * s₀) + 0)) 23 ((3 * s₀) + (0 + 1)) 0) ((3 * s₀) + (0 + 1)) (by omega)) ⟨callB_of 1 hts (tb_gi tw_702) rfl rfl rfl (ht _ tw_5) (ht _ tw_699) (by decide +kernel) ⟨(Nat.le_of_ble_eq_true rfl), (Nat.le_of_ble_eq_true rfl)⟩, ht _ tw_701, ht _ tw_848⟩ hE hP hD 0 rfl rfl rfl [0, 1, 2, 3, 4, 5, 6, 7, 8, 9, 10, 11, 12, 13, 14, 15, 16, 17, 18, 19, 20, 21, 22, 23, 24, 25, 26, 27, 28] rfl rfl rfl hl.1 rfl (Nat.le_of_ble_eq_true rfl) dMo_clean_66 ⟨(Nat.le_of_ble_eq_true rfl), (Nat.le_of_ble_eq_true rfl)⟩) hP hD hS hA [0, 1, 2, 3, 4, 5, 6, 7, 8, 9, 10, 11, 12, 13, 14, 15, 16, 17, 18, 19, 20, 21, 22, 23, 24, 25, 26, 27, 28] [] rfl rfl rfl (by decide) (fun _ H locs _ hP hD hS => ?_)
  have hP : va_P D cls_ (mW h ad ca co (mRenew (mS (mRenew (mS (mS (mS (mS (mS (mS (mS M 11 s₀ 0) 12 s₀ 0) 13 s₀ 0) 14 s₀ 0) 15 s₀ 0) 17 s₀ 0) 23 ((3 * s₀) + 0) 0) ((3 * s₀) + 0)) 23 ((3 * s₀) + (0 + 1)) 0) ((3 * s₀) + (0 + 1)))) H := hP
  have hD : va_D A (mW h ad ca co (mRenew (mS (mRenew (mS (mS (mS (mS (mS (mS (mS M 11 s₀ 0) 12 s₀ 0) 13 s₀ 0) 14 s₀ 0) 15 s₀ 0) 17 s₀ 0) 23 ((3 * s₀) + 0) 0) ((3 * s₀) + 0)) 23 ((3 * s₀) + (0 + 1)) 0) ((3 * s₀) + (0 + 1)))) := hD
  refine lv_iinc (k := 0) (v := nI ((0 + 1) + 1)) hx hb dMo_clean_69 hl rfl (n_inc _) (by decide) rfl (fun ls hl => ?_)
  have hl : lv_has ls 3 [(2, .int (nI ((0 + 1) + 1))), (0, .ref h), (1, .int (nI s₀))] := hl
  refine lv_goto (tgt := 44) hx hb dMo_clean_72 rfl ?_
  refine lv_iload_n hx hb dMo_clean_44 rfl (lv_at hl 0 rfl) ?_
  refine lv_iconst (v := nI 3) hx hb dMo_clean_45 (by decide) ?_
  refine k_icmp_ge (tgt := 75) hx hb (by omega) (by omega) dMo_clean_46 rfl (fun hz => absurd hz (by omega)) (fun h46 => ?_)
  refine lv_aload_n hx hb dMo_clean_49 rfl (lv_at hl 1 rfl) ?_
  refine va_get (D := D) (ci := 4) (v := .ref (ad 23)) (C := RMo) (T := TMo) (N := 29) hx hb ht inMo hown hE.1 hP 0 rfl rfl 23 (by decide) (ht _ tw_610) (fun _ h => h) rfl dMo_clean_50 ?_
  refine lv_iconst (v := nI 3) hx hb dMo_clean_53 (by decide) ?_
  refine lv_iload_n hx hb dMo_clean_54 rfl (lv_at hl 2 rfl) ?_
  refine k_imul hx hb dMo_clean_55 ?_
  refine lv_iload_n hx hb dMo_clean_56 rfl (lv_at hl 0 rfl) ?_
  refine k_iadd hx hb dMo_clean_57 ?_
  refine lv_iconst (v := nI 0) hx hb dMo_clean_58 (by decide) ?_
  refine k_iast hx hb hE.1 hP hD hS 23 0 (n := 6) (g := ((mRenew (mS (mRenew (mS (mS (mS (mS (mS (mS (mS M 11 s₀ 0) 12 s₀ 0) 13 s₀ 0) 14 s₀ 0) 15 s₀ 0) 17 s₀ 0) 23 ((3 * s₀) + 0) 0) ((3 * s₀) + 0)) 23 ((3 * s₀) + (0 + 1)) 0) ((3 * s₀) + (0 + 1))) 23)) rfl rfl (i := ((3 * s₀) + ((0 + 1) + 1))) (x := 0) (by omega) (by decide) dMo_clean_59 (fun H locs hP hD hS => ?_)
  rw [mo_set_23] at hP hD
  refine lv_aload_n hx hb dMo_clean_60 rfl (lv_at hl 1 rfl) ?_
  refine lv_iconst (v := nI 3) hx hb dMo_clean_61 (by decide) ?_
  refine lv_iload_n hx hb dMo_clean_62 rfl (lv_at hl 2 rfl) ?_
  refine k_imul hx hb dMo_clean_63 ?_
  refine lv_iload_n hx hb dMo_clean_64 rfl (lv_at hl 0 rfl) ?_
  refine k_iadd hx hb dMo_clean_65 ?_
  refine kV (rV fx (c_Mo_renew l D ca h ad co (mS (mRenew (mS (mRenew (mS (mS (mS (mS (mS (mS (mS M 11 s₀ 0) 12 s₀ 0) 13 s₀ 0) 14 s₀ 0) 15 s₀ 0) 17 s₀ 0) 23 ((3 * s₀) + 0) 0) ((3 * s₀) + 0)) 23 ((3 * s₀) + (0 + 1)) 0) ((3 * s₀) + (0 + 1))) 23 ((3 * s₀) + ((0 + 1) + 1)) 0) ((3 * s₀) + ((0 + 1) + 1)) (by omega)) ⟨callB_of 1 hts (tb_gi tw_702) rfl rfl rfl (ht _ tw_5) (ht _ tw_699) (by decide +kernel) ⟨(Nat.le_of_ble_eq_true rfl), (Nat.le_of_ble_eq_true rfl)⟩, ht _ tw_701, ht _ tw_848⟩ hE hP hD 0 rfl rfl rfl [0, 1, 2, 3, 4, 5, 6, 7, 8, 9, 10, 11, 12, 13, 14, 15, 16, 17, 18, 19, 20, 21, 22, 23, 24, 25, 26, 27, 28] rfl rfl rfl hl.1 rfl (Nat.le_of_ble_eq_true rfl) dMo_clean_66 ⟨(Nat.le_of_ble_eq_true rfl), (Nat.le_of_ble_eq_true rfl)⟩) hP hD hS hA [0, 1, 2, 3, 4, 5, 6, 7, 8, 9, 10, 11, 12, 13, 14, 15, 16, 17, 18, 19, 20, 21, 22, 23, 24, 25, 26, 27, 28] [] rfl rfl rfl (by decide) (fun _ H locs _ hP hD hS => ?_)
  have hP : va_P D cls_ (mW h ad ca co (mRenew (mS (mRenew (mS (mRenew (mS (mS (mS (mS (mS (mS (mS M 11 s₀ 0) 12 s₀ 0) 13 s₀ 0) 14 s₀ 0) 15 s₀ 0) 17 s₀ 0) 23 ((3 * s₀) + 0) 0) ((3 * s₀) + 0)) 23 ((3 * s₀) + (0 + 1)) 0) ((3 * s₀) + (0 + 1))) 23 ((3 * s₀) + ((0 + 1) + 1)) 0) ((3 * s₀) + ((0 + 1) + 1)))) H := hP
  have hD : va_D A (mW h ad ca co (mRenew (mS (mRenew (mS (mRenew (mS (mS (mS (mS (mS (mS (mS M 11 s₀ 0) 12 s₀ 0) 13 s₀ 0) 14 s₀ 0) 15 s₀ 0) 17 s₀ 0) 23 ((3 * s₀) + 0) 0) ((3 * s₀) + 0)) 23 ((3 * s₀) + (0 + 1)) 0) ((3 * s₀) + (0 + 1))) 23 ((3 * s₀) + ((0 + 1) + 1)) 0) ((3 * s₀) + ((0 + 1) + 1)))) := hD
  refine lv_iinc (k := 0) (v := nI (((0 + 1) + 1) + 1)) hx hb dMo_clean_69 hl rfl (n_inc _) (by decide) rfl (fun ls hl => ?_)
  have hl : lv_has ls 3 [(2, .int (nI (((0 + 1) + 1) + 1))), (0, .ref h), (1, .int (nI s₀))] := hl
  refine lv_goto (tgt := 44) hx hb dMo_clean_72 rfl ?_
  refine lv_iload_n hx hb dMo_clean_44 rfl (lv_at hl 0 rfl) ?_
  refine lv_iconst (v := nI 3) hx hb dMo_clean_45 (by decide) ?_
  refine k_icmp_ge (tgt := 75) hx hb (by omega) (by omega) dMo_clean_46 rfl (fun h46 => ?_) (fun hz => absurd hz (by omega))
  exact Co.retv hx hb hret hlk dMo_clean_75 hS hP hD () rfl trivial rfl (Nat.le_of_ble_eq_true rfl) (Nat.le_of_ble_eq_true rfl)
set_option maxHeartbeats 4000000 in
set_option maxRecDepth 100000 in
theorem c_Mo_setUp (l : Launch) (D : va_G) (ca : Nat → ClassId) (h : Nat) (ad : Nat → Nat) (co : Nat) (M : Nat → Nat → Nat) (s₀ : Nat) (hM : mOk M) (hs : s₀ < 2) : Co (S := Unit) l yMo_setUp (Cond.code yMo_setUp cMo_setUp 2 none :: tb_) { frames := 2, cells := 0, slots := 0, locals := 64 } D ca [.ref h, .int (nI s₀)] (mW h ad ca co M) (fun _ => none) (fun _ => True) (fun _ => (mW h ad ca co (mSetUp M s₀))) 0 0 := by
  refine Co.of cMo_setUp 2 none (by decide) (Nat.le_of_ble_eq_true rfl) ?_
  intro p e s m args below meth c A ls fx hret hlk hin hE hP hD hS hA hl
  have hx := fx.1
  have hb := fx.2.1
  have hown : s.vm.findClass RMo = some m.cls := fx.2.2.2.1
  have hts := fx.2.2.2.2
  have ht : ∀ w ∈ tb_, w.before args s = true := fun w h => hts w (List.mem_cons_of_mem _ h)
  have hM1 : mOk (mS (mClean M s₀) 10 s₀ 1) := (hM.clean s₀).set 10 (show 1 < 3 by decide)
  have hl : lv_has ls 2 [(0, .ref h), (1, .int (nI s₀))] := hl
  refine lv_aload_n hx hb dMo_setUp_0 rfl (lv_at hl 0 rfl) ?_
  refine lv_iload_n hx hb dMo_setUp_1 rfl (lv_at hl 1 rfl) ?_
  refine kV (rV fx (c_Mo_clean l D ca h ad co M s₀ (by omega)) ⟨callB_of 1 hts (tb_gi tw_698) rfl rfl rfl (ht _ tw_5) (ht _ tw_695) (by decide +kernel) ⟨(Nat.le_of_ble_eq_true rfl), (Nat.le_of_ble_eq_true rfl)⟩, ht _ tw_697, ht _ tw_847⟩ hE hP hD 0 rfl rfl rfl [0, 1, 2, 3, 4, 5, 6, 7, 8, 9, 10, 11, 12, 13, 14, 15, 16, 17, 18, 19, 20, 21, 22, 23, 24, 25, 26, 27, 28] rfl rfl rfl hl.1 rfl (Nat.le_of_ble_eq_true rfl) dMo_setUp_2 ⟨(Nat.le_of_ble_eq_true rfl), (Nat.le_of_ble_eq_true rfl)⟩) hP hD hS hA [0, 1, 2, 3, 4, 5, 6, 7, 8, 9, 10, 11, 12, 13, 14, 15, 16, 17, 18, 19, 20, 21, 22, 23, 24, 25, 26, 27, 28] [] rfl rfl rfl (by decide) (fun _ H locs _ hP hD hS => ?_)
  have hP : va_P D cls_ (mW h ad ca co (mClean M s₀)) H := hP
  have hD : va_D A (mW h ad ca co (mClean M s₀)) := hD
  refine lv_aload_n hx hb dMo_setUp_5 rfl (lv_at hl 0 rfl) ?_
  refine va_get (D := D) (ci := 4) (v := .ref (ad 10)) (C := RMo) (T := TMo) (N := 29) hx hb ht inMo hown hE.1 hP 0 rfl rfl 10 (by decide) (ht _ tw_597) (fun _ h => h) rfl dMo_setUp_6 ?_
  refine lv_iload_n hx hb dMo_setUp_9 rfl (lv_at hl 1 rfl) ?_
  refine lv_iconst (v := nI 1) hx hb dMo_setUp_10 (by decide) ?_
  refine k_iast hx hb hE.1 hP hD hS 10 0 (n := 2) (g := ((mClean M s₀) 10)) rfl rfl (i := s₀) (x := 1) (by omega) (by decide) dMo_setUp_11 (fun H locs hP hD hS => ?_)
  rw [mo_set_10] at hP hD
  refine lv_aload_n hx hb dMo_setUp_12 rfl (lv_at hl 0 rfl) ?_
  refine lv_iload_n hx hb dMo_setUp_13 rfl (lv_at hl 1 rfl) ?_
  refine lv_iconst (v := nI 1) hx hb dMo_setUp_14 (by decide) ?_
  refine lv_iconst (v := nI 0) hx hb dMo_setUp_15 (by decide) ?_
  refine lv_iconst (v := nI 0) hx hb dMo_setUp_16 (by decide) ?_
  refine lv_iconst (v := (-1)) hx hb dMo_setUp_17 (by decide) ?_
  refine kV (rV fx (c_Mo_transmitN l D ca h ad co (mS (mClean M s₀) 10 s₀ 1) s₀ 1 0 0 (by first | assumption | exact mOk.idle (by assumption) _ | exact mOk.clean (by assumption) _ | exact mOk.renew (by assumption) _ | exact (mOk.renew (by assumption) _).set 23 (show 3 < 6 by decide) | exact (mOk.renew (by assumption) _).set 23 (show 5 < 6 by decide)) (by omega) (by omega) (by omega) (by omega)) ⟨callB_of 5 hts (tb_gi tw_706) rfl rfl rfl (ht _ tw_5) (ht _ tw_703) (by decide +kernel) ⟨(Nat.le_of_ble_eq_true rfl), (Nat.le_of_ble_eq_true rfl)⟩, ht _ tw_705, ht _ tw_849⟩ hE hP hD 0 rfl rfl rfl [0, 1, 2, 3, 4, 5, 6, 7, 8, 9, 10, 11, 12, 13, 14, 15, 16, 17, 18, 19, 20, 21, 22, 23, 24, 25, 26, 27, 28] rfl rfl rfl hl.1 rfl (Nat.le_of_ble_eq_true rfl) dMo_setUp_18 ⟨(Nat.le_of_ble_eq_true rfl), (Nat.le_of_ble_eq_true rfl)⟩) hP hD hS hA [0, 1, 2, 3, 4, 5, 6, 7, 8, 9, 10, 11, 12, 13, 14, 15, 16, 17, 18, 19, 20, 21, 22, 23, 24, 25, 26, 27, 28] [] rfl rfl rfl (by decide) (fun _ H locs _ hP hD hS => ?_)
  have hP : va_P D cls_ (mW h ad ca co (mTrN (mS (mClean M s₀) 10 s₀ 1) s₀ 1 0 0)) H := hP
  have hD : va_D A (mW h ad ca co (mTrN (mS (mClean M s₀) 10 s₀ 1) s₀ 1 0 0)) := hD
  exact Co.retv hx hb hret hlk dMo_setUp_21 hS hP hD () rfl trivial rfl (Nat.le_of_ble_eq_true rfl) (Nat.le_of_ble_eq_true rfl)
set_option maxHeartbeats 4000000 in
set_option maxRecDepth 100000 in
theorem c_Mo_confirm (l : Launch) (D : va_G) (ca : Nat → ClassId) (h : Nat) (ad : Nat → Nat) (co : Nat) (M : Nat → Nat → Nat) (s₀ ak : Nat) (hM : mOk M) (hs : s₀ < 2) (ha : ak < 8) (hun : mUn M s₀ ≤ M 17 s₀) : Co (S := Unit) l yMo_confirm (Cond.code yMo_confirm cMo_confirm 5 none :: tb_) { frames := 2, cells := 0, slots := 0, locals := 64 } D ca [.ref h, .int (nI s₀), .int (nI ak)] (mW h ad ca co M) (fun _ => none) (fun _ => True) (fun _ => (mW h ad ca co (mConf M s₀ ak))) 0 0 := by
  refine Co.of cMo_confirm 5 none (by decide) (Nat.le_of_ble_eq_true rfl) ?_
  intro p e s m args below meth c A ls fx hret hlk hin hE hP hD hS hA hl
  have hx := fx.1
  have hb := fx.2.1
  have hown : s.vm.findClass RMo = some m.cls := fx.2.2.2.1
  have hts := fx.2.2.2.2
  have ht : ∀ w ∈ tb_, w.before args s = true := fun w h => hts w (List.mem_cons_of_mem _ h)
  have b1 : M 17 s₀ < 17 := hM 17 _
  have b2 : M 12 s₀ < 8 := hM 12 _
  have b3 : mUn M s₀ < 8 := ds_lt _ _
  have b4 := ds_lt (M 12 s₀) ak
  have b5 : M 14 s₀ < 5 := hM 14 _
  have hl : lv_has ls 5 [(0, .ref h), (1, .int (nI s₀)), (2, .int (nI ak))] := hl
  refine lv_iload_n hx hb dMo_confirm_0 rfl (lv_at hl 2 rfl) ?_
  refine lv_aload_n hx hb dMo_confirm_1 rfl (lv_at hl 0 rfl) ?_
  refine va_get (D := D) (ci := 4) (v := .ref (ad 12)) (C := RMo) (T := TMo) (N := 29) hx hb ht inMo hown hE.1 hP 0 rfl rfl 12 (by decide) (ht _ tw_599) (fun _ h => h) rfl dMo_confirm_2 ?_
  refine lv_iload_n hx hb dMo_confirm_5 rfl (lv_at hl 1 rfl) ?_
  refine k_iald hx hb hE.1 hP 12 0 (n := 2) (g := (M 12)) rfl rfl (i := s₀) (by omega) (by decide) dMo_confirm_6 ?_
  refine kI (rS fx (c_Mo_less l D ca ak (M 12 s₀) (by omega) (by omega)) ⟨callB_of 2 hts (tb_gi tw_717) rfl rfl rfl (ht _ tw_5) (ht _ tw_715) (by decide +kernel) ⟨(Nat.le_of_ble_eq_true rfl), (Nat.le_of_ble_eq_true rfl)⟩, ht _ tw_716⟩ hE hP hD [] rfl rfl rfl hl.1 rfl (Nat.le_of_ble_eq_true rfl) dMo_confirm_7 ⟨(Nat.le_of_ble_eq_true rfl), (Nat.le_of_ble_eq_true rfl)⟩) hP hD hS hA [] [0, 1, 2, 3, 4, 5, 6, 7, 8, 9, 10, 11, 12, 13, 14, 15, 16, 17, 18, 19, 20, 21, 22, 23, 24, 25, 26, 27, 28] rfl rfl rfl (by decide) (fun _ H locs _ hP hD hS => ?_)
  have hP : va_P D cls_ (mW h ad ca co M) H := hP
  have hD : va_D A (mW h ad ca co M) := hD
  refine lv_istore_n hx hb dMo_confirm_10 rfl hl (by decide) rfl (fun ls hl => ?_)
  have hl : lv_has ls 5 [(3, .int (nI (ds (M 12 s₀) ak))), (0, .ref h), (1, .int (nI s₀)), (2, .int (nI ak))] := hl
  refine lv_iload_n hx hb dMo_confirm_11 rfl (lv_at hl 0 rfl) ?_
  refine lv_aload_n hx hb dMo_confirm_12 rfl (lv_at hl 1 rfl) ?_
  refine lv_iload_n hx hb dMo_confirm_13 rfl (lv_at hl 2 rfl) ?_
  refine kI (rV fx (c_Mo_unconfirmed l D ca h ad co M s₀ (by first | assumption | exact mOk.idle (by assumption) _ | exact mOk.clean (by assumption) _ | exact mOk.renew (by assumption) _ | exact (mOk.renew (by assumption) _).set 23 (show 3 < 6 by decide) | exact (mOk.renew (by assumption) _).set 23 (show 5 < 6 by decide)) (by omega)) ⟨callB_of 1 hts (tb_gi tw_721) rfl rfl rfl (ht _ tw_5) (ht _ tw_718) (by decide +kernel) ⟨(Nat.le_of_ble_eq_true rfl), (Nat.le_of_ble_eq_true rfl)⟩, ht _ tw_720, ht _ tw_852⟩ hE hP hD 0 rfl rfl rfl [0, 1, 2, 3, 4, 5, 6, 7, 8, 9, 10, 11, 12, 13, 14, 15, 16, 17, 18, 19, 20, 21, 22, 23, 24, 25, 26, 27, 28] rfl rfl rfl hl.1 rfl (Nat.le_of_ble_eq_true rfl) dMo_confirm_14 ⟨(Nat.le_of_ble_eq_true rfl), (Nat.le_of_ble_eq_true rfl)⟩) hP hD hS hA [0, 1, 2, 3, 4, 5, 6, 7, 8, 9, 10, 11, 12, 13, 14, 15, 16, 17, 18, 19, 20, 21, 22, 23, 24, 25, 26, 27, 28] [] rfl rfl rfl (by decide) (fun _ H locs _ hP hD hS => ?_)
  have hP : va_P D cls_ (mW h ad ca co M) H := hP
  have hD : va_D A (mW h ad ca co M) := hD
  refine k_icmp_le (tgt := 21) hx hb (by omega) (by omega) dMo_confirm_17 rfl (fun h17 => ?_) (fun h17 => ?_)
  · refine lv_aload_n hx hb dMo_confirm_21 rfl (lv_at hl 1 rfl) ?_
    refine va_get (D := D) (ci := 4) (v := .ref (ad 17)) (C := RMo) (T := TMo) (N := 29) hx hb ht inMo hown hE.1 hP 0 rfl rfl 17 (by decide) (ht _ tw_604) (fun _ h => h) rfl dMo_confirm_22 ?_
    refine lv_iload_n hx hb dMo_confirm_25 rfl (lv_at hl 2 rfl) ?_
    refine lv_aload_n hx hb dMo_confirm_26 rfl (lv_at hl 1 rfl) ?_
    refine va_get (D := D) (ci := 4) (v := .ref (ad 17)) (C := RMo) (T := TMo) (N := 29) hx hb ht inMo hown hE.1 hP 0 rfl rfl 17 (by decide) (ht _ tw_604) (fun _ h => h) rfl dMo_confirm_27 ?_
    refine lv_iload_n hx hb dMo_confirm_30 rfl (lv_at hl 2 rfl) ?_
    refine k_iald hx hb hE.1 hP 17 0 (n := 2) (g := (M 17)) rfl rfl (i := s₀) (by omega) (by decide) dMo_confirm_31 ?_
    refine lv_iload_n hx hb dMo_confirm_32 rfl (lv_at hl 0 rfl) ?_
    refine k_isub hx hb (by omega) dMo_confirm_33 ?_
    refine k_iast hx hb hE.1 hP hD hS 17 0 (n := 2) (g := (M 17)) rfl rfl (i := s₀) (x := ((M 17 s₀) - (ds (M 12 s₀) ak))) (by omega) (by decide) dMo_confirm_34 (fun H locs hP hD hS => ?_)
    rw [mo_set_17] at hP hD
    refine lv_bipush (v := nI 16) hx hb dMo_confirm_35 (by decide) ?_
    refine lv_iload_n hx hb dMo_confirm_37 rfl (lv_at hl 2 rfl) ?_
    refine k_imul hx hb dMo_confirm_38 ?_
    refine lv_istore hx hb dMo_confirm_39 hl (by decide) rfl (fun ls hl => ?_)
    have hl : lv_has ls 5 [(4, .int (nI (16 * s₀))), (3, .int (nI (ds (M 12 s₀) ak))), (0, .ref h), (1, .int (nI s₀)), (2, .int (nI ak))] := hl
    have hl := lv_sub hl [0, 1, 4, 3, 2] rfl
    obtain ⟨M2, hm2⟩ : ∃ M2, mShR (M 17 s₀ - ds (M 12 s₀) ak) (mS M 17 s₀ (M 17 s₀ - ds (M 12 s₀) ak)) (16 * s₀) (ds (M 12 s₀) ak) = M2 := ⟨_, rfl⟩
    have loop : ∀ (n : Nat) (pp : Nat) (L : Nat → Nat → Nat) (H : Heap) (locs : List Loc) (ls : Array Slot), mOk L → L 17 s₀ = M 17 s₀ - ds (M 12 s₀) ak → L 14 s₀ = M 14 s₀ → pp + n = 16 * s₀ + (M 17 s₀ - ds (M 12 s₀) ak) → 16 * s₀ ≤ pp → mShR n L pp (ds (M 12 s₀) ak) = M2 → va_P D cls_ (mW h ad ca co L) H → va_D A (mW h ad ca co L) → va_S A s.heap H locs → lv_has ls 5 [(4, .int (nI pp)), (3, .int (nI (ds (M 12 s₀) ak))), (2, .int (nI ak)), (1, .int (nI s₀)), (0, .ref h)] → W p l e ({ frames := 2, cells := 0, slots := 0, locals := 64 } : Room) s m args below meth c H locs 0 0 (MQ below (CoQ D (fun _ : Unit => none) (fun _ => True) (fun _ => (mW h ad ca co (mConf M s₀ ak))) A) args s 0 0 A) (F0 m 41 ls []) := by
      intro n
      induction n with
      | zero =>
        intro pp L H locs ls hL hL17 hL14 hn hpp hgo hP hD hS hl
        refine lv_iload hx hb dMo_confirm_41 (lv_at hl 0 rfl) ?_
        refine lv_bipush (v := nI 16) hx hb dMo_confirm_43 (by decide) ?_
        refine lv_iload_n hx hb dMo_confirm_45 rfl (lv_at hl 3 rfl) ?_
        refine k_imul hx hb dMo_confirm_46 ?_
        refine lv_aload_n hx hb dMo_confirm_47 rfl (lv_at hl 4 rfl) ?_
        refine va_get (D := D) (ci := 4) (v := .ref (ad 17)) (C := RMo) (T := TMo) (N := 29) hx hb ht inMo hown hE.1 hP 0 rfl rfl 17 (by decide) (ht _ tw_604) (fun _ h => h) rfl dMo_confirm_48 ?_
        refine lv_iload_n hx hb dMo_confirm_51 rfl (lv_at hl 3 rfl) ?_
        refine k_iald hx hb hE.1 hP 17 0 (n := 2) (g := (L 17)) rfl rfl (i := s₀) (by omega) (by decide) dMo_confirm_52 ?_
        refine k_is (y := nI (M 17 s₀ - ds (M 12 s₀) ak)) (by rw [hL17]) ?_
        refine k_iadd hx hb dMo_confirm_53 ?_
        refine k_icmp_ge (tgt := 143) hx hb (by omega) (by omega) dMo_confirm_54 rfl (fun h54 => ?_) (fun hz => absurd hz (by omega))
        refine lv_aload_n hx hb dMo_confirm_143 rfl (lv_at hl 4 rfl) ?_
        refine va_get (D := D) (ci := 4) (v := .ref (ad 12)) (C := RMo) (T := TMo) (N := 29) hx hb ht inMo hown hE.1 hP 0 rfl rfl 12 (by decide) (ht _ tw_599) (fun _ h => h) rfl dMo_confirm_144 ?_
        refine lv_iload_n hx hb dMo_confirm_147 rfl (lv_at hl 3 rfl) ?_
        refine lv_iload_n hx hb dMo_confirm_148 rfl (lv_at hl 2 rfl) ?_
        refine k_iast hx hb hE.1 hP hD hS 12 0 (n := 2) (g := (L 12)) rfl rfl (i := s₀) (x := ak) (by omega) (by decide) dMo_confirm_149 (fun H locs hP hD hS => ?_)
        rw [mo_set_12] at hP hD
        refine lv_aload_n hx hb dMo_confirm_150 rfl (lv_at hl 4 rfl) ?_
        refine va_get (D := D) (ci := 4) (v := .ref (ad 14)) (C := RMo) (T := TMo) (N := 29) hx hb ht inMo hown hE.1 hP 0 rfl rfl 14 (by decide) (ht _ tw_601) (fun _ h => h) rfl dMo_confirm_151 ?_
        refine lv_iload_n hx hb dMo_confirm_154 rfl (lv_at hl 3 rfl) ?_
        refine lv_iload_n hx hb dMo_confirm_155 rfl (lv_at hl 1 rfl) ?_
        refine k_if_le (tgt := 163) hx hb (by omega) dMo_confirm_156 rfl (fun h156 => ?_) (fun h156 => ?_)
        · refine lv_aload_n hx hb dMo_confirm_163 rfl (lv_at hl 4 rfl) ?_
          refine va_get (D := D) (ci := 4) (v := .ref (ad 14)) (C := RMo) (T := TMo) (N := 29) hx hb ht inMo hown hE.1 hP 0 rfl rfl 14 (by decide) (ht _ tw_601) (fun _ h => h) rfl dMo_confirm_164 ?_
          refine lv_iload_n hx hb dMo_confirm_167 rfl (lv_at hl 3 rfl) ?_
          refine k_iald hx hb hE.1 hP 14 0 (n := 2) (g := (L 14)) rfl rfl (i := s₀) (by omega) (by decide) dMo_confirm_168 ?_
          refine k_iast hx hb hE.1 hP hD hS 14 0 (n := 2) (g := ((mS L 12 s₀ ak) 14)) rfl rfl (i := s₀) (x := (L 14 s₀)) (by omega) (by decide) dMo_confirm_169 (fun H locs hP hD hS => ?_)
          rw [mo_set_14] at hP hD
          obtain rfl : L = M2 := hgo
          have e9 : mConf M s₀ ak = mS (mS L 12 s₀ ak) 14 s₀ (L 14 s₀) := by rw [mConf, if_neg (by omega), hm2, if_neg (by omega), hL14]
          exact Co.retv hx hb hret hlk dMo_confirm_170 hS hP hD () rfl trivial (by first | (rw [e9]; done) | (rw [e9]; rfl)) (Nat.le_of_ble_eq_true rfl) (Nat.le_of_ble_eq_true rfl)
        · refine lv_iconst (v := nI 0) hx hb dMo_confirm_159 (by decide) ?_
          refine lv_goto (tgt := 169) hx hb dMo_confirm_160 rfl ?_
          refine k_iast hx hb hE.1 hP hD hS 14 0 (n := 2) (g := ((mS L 12 s₀ ak) 14)) rfl rfl (i := s₀) (x := 0) (by omega) (by decide) dMo_confirm_169 (fun H locs hP hD hS => ?_)
          rw [mo_set_14] at hP hD
          obtain rfl : L = M2 := hgo
          have e9 : mConf M s₀ ak = mS (mS L 12 s₀ ak) 14 s₀ (0) := by rw [mConf, if_neg (by omega), hm2, if_pos (by omega)]
          exact Co.retv hx hb hret hlk dMo_confirm_170 hS hP hD () rfl trivial (by first | (rw [e9]; done) | (rw [e9]; rfl)) (Nat.le_of_ble_eq_true rfl) (Nat.le_of_ble_eq_true rfl)
      | succ n ih =>
        intro pp L H locs ls hL hL17 hL14 hn hpp hgo hP hD hS hl
        refine lv_iload hx hb dMo_confirm_41 (lv_at hl 0 rfl) ?_
        refine lv_bipush (v := nI 16) hx hb dMo_confirm_43 (by decide) ?_
        refine lv_iload_n hx hb dMo_confirm_45 rfl (lv_at hl 3 rfl) ?_
        refine k_imul hx hb dMo_confirm_46 ?_
        refine lv_aload_n hx hb dMo_confirm_47 rfl (lv_at hl 4 rfl) ?_
        refine va_get (D := D) (ci := 4) (v := .ref (ad 17)) (C := RMo) (T := TMo) (N := 29) hx hb ht inMo hown hE.1 hP 0 rfl rfl 17 (by decide) (ht _ tw_604) (fun _ h => h) rfl dMo_confirm_48 ?_
        refine lv_iload_n hx hb dMo_confirm_51 rfl (lv_at hl 3 rfl) ?_
        refine k_iald hx hb hE.1 hP 17 0 (n := 2) (g := (L 17)) rfl rfl (i := s₀) (by omega) (by decide) dMo_confirm_52 ?_
        refine k_is (y := nI (M 17 s₀ - ds (M 12 s₀) ak)) (by rw [hL17]) ?_
        refine k_iadd hx hb dMo_confirm_53 ?_
        refine k_icmp_ge (tgt := 143) hx hb (by omega) (by omega) dMo_confirm_54 rfl (fun hz => absurd hz (by omega)) (fun h54 => ?_)
        refine lv_aload_n hx hb dMo_confirm_57 rfl (lv_at hl 4 rfl) ?_
        refine va_get (D := D) (ci := 4) (v := .ref (ad 18)) (C := RMo) (T := TMo) (N := 29) hx hb ht inMo hown hE.1 hP 0 rfl rfl 18 (by decide) (ht _ tw_605) (fun _ h => h) rfl dMo_confirm_58 ?_
        refine lv_iload hx hb dMo_confirm_61 (lv_at hl 0 rfl) ?_
        refine lv_aload_n hx hb dMo_confirm_63 rfl (lv_at hl 4 rfl) ?_
        refine va_get (D := D) (ci := 4) (v := .ref (ad 18)) (C := RMo) (T := TMo) (N := 29) hx hb ht inMo hown hE.1 hP 0 rfl rfl 18 (by decide) (ht _ tw_605) (fun _ h => h) rfl dMo_confirm_64 ?_
        refine lv_iload hx hb dMo_confirm_67 (lv_at hl 0 rfl) ?_
        refine lv_iload_n hx hb dMo_confirm_69 rfl (lv_at hl 1 rfl) ?_
        refine k_iadd hx hb dMo_confirm_70 ?_
        refine k_iald hx hb hE.1 hP 18 0 (n := 32) (g := (L 18)) rfl rfl (i := (pp + (ds (M 12 s₀) ak))) (by omega) (by decide) dMo_confirm_71 ?_
        refine k_iast hx hb hE.1 hP hD hS 18 0 (n := 32) (g := (L 18)) rfl rfl (i := pp) (x := (L 18 (pp + (ds (M 12 s₀) ak)))) (by omega) (by decide) dMo_confirm_72 (fun H locs hP hD hS => ?_)
        rw [mo_set_18] at hP hD
        refine lv_aload_n hx hb dMo_confirm_73 rfl (lv_at hl 4 rfl) ?_
        refine va_get (D := D) (ci := 4) (v := .ref (ad 19)) (C := RMo) (T := TMo) (N := 29) hx hb ht inMo hown hE.1 hP 0 rfl rfl 19 (by decide) (ht _ tw_606) (fun _ h => h) rfl dMo_confirm_74 ?_
        refine lv_iload hx hb dMo_confirm_77 (lv_at hl 0 rfl) ?_
        refine lv_aload_n hx hb dMo_confirm_79 rfl (lv_at hl 4 rfl) ?_
        refine va_get (D := D) (ci := 4) (v := .ref (ad 19)) (C := RMo) (T := TMo) (N := 29) hx hb ht inMo hown hE.1 hP 0 rfl rfl 19 (by decide) (ht _ tw_606) (fun _ h => h) rfl dMo_confirm_80 ?_
        refine lv_iload hx hb dMo_confirm_83 (lv_at hl 0 rfl) ?_
        refine lv_iload_n hx hb dMo_confirm_85 rfl (lv_at hl 1 rfl) ?_
        refine k_iadd hx hb dMo_confirm_86 ?_
        refine k_iald hx hb hE.1 hP 19 0 (n := 32) (g := (L 19)) rfl rfl (i := (pp + (ds (M 12 s₀) ak))) (by omega) (by decide) dMo_confirm_87 ?_
        refine k_iast hx hb hE.1 hP hD hS 19 0 (n := 32) (g := ((mS L 18 pp (L 18 (pp + (ds (M 12 s₀) ak)))) 19)) rfl rfl (i := pp) (x := (L 19 (pp + (ds (M 12 s₀) ak)))) (by omega) (by decide) dMo_confirm_88 (fun H locs hP hD hS => ?_)
        rw [mo_set_19] at hP hD
        refine lv_aload_n hx hb dMo_confirm_89 rfl (lv_at hl 4 rfl) ?_
        refine va_get (D := D) (ci := 4) (v := .ref (ad 20)) (C := RMo) (T := TMo) (N := 29) hx hb ht inMo hown hE.1 hP 0 rfl rfl 20 (by decide) (ht _ tw_607) (fun _ h => h) rfl dMo_confirm_90 ?_
        refine lv_iload hx hb dMo_confirm_93 (lv_at hl 0 rfl) ?_
        refine lv_aload_n hx hb dMo_confirm_95 rfl (lv_at hl 4 rfl) ?_
        refine va_get (D := D) (ci := 4) (v := .ref (ad 20)) (C := RMo) (T := TMo) (N := 29) hx hb ht inMo hown hE.1 hP 0 rfl rfl 20 (by decide) (ht _ tw_607) (fun _ h => h) rfl dMo_confirm_96 ?_
        refine lv_iload hx hb dMo_confirm_99 (lv_at hl 0 rfl) ?_
        refine lv_iload_n hx hb dMo_confirm_101 rfl (lv_at hl 1 rfl) ?_
        refine k_iadd hx hb dMo_confirm_102 ?_
        refine k_iald hx hb hE.1 hP 20 0 (n := 32) (g := (L 20)) rfl rfl (i := (pp + (ds (M 12 s₀) ak))) (by omega) (by decide) dMo_confirm_103 ?_
        refine k_iast hx hb hE.1 hP hD hS 20 0 (n := 32) (g := ((mS (mS L 18 pp (L 18 (pp + (ds (M 12 s₀) ak)))) 19 pp (L 19 (pp + (ds (M 12 s₀) ak)))) 20)) rfl rfl (i := pp) (x := (L 20 (pp + (ds (M 12 s₀) ak)))) (by omega) (by decide) dMo_confirm_104 (fun H locs hP hD hS => ?_)
        rw [mo_set_20] at hP hD
        refine lv_aload_n hx hb dMo_confirm_105 rfl (lv_at hl 4 rfl) ?_
        refine va_get (D := D) (ci := 4) (v := .ref (ad 21)) (C := RMo) (T := TMo) (N := 29) hx hb ht inMo hown hE.1 hP 0 rfl rfl 21 (by decide) (ht _ tw_608) (fun _ h => h) rfl dMo_confirm_106 ?_
        refine lv_iload hx hb dMo_confirm_109 (lv_at hl 0 rfl) ?_
        refine lv_aload_n hx hb dMo_confirm_111 rfl (lv_at hl 4 rfl) ?_
        refine va_get (D := D) (ci := 4) (v := .ref (ad 21)) (C := RMo) (T := TMo) (N := 29) hx hb ht inMo hown hE.1 hP 0 rfl rfl 21 (by decide) (ht _ tw_608) (fun _ h => h) rfl dMo_confirm_112 ?_
        refine lv_iload hx hb dMo_confirm_115 (lv_at hl 0 rfl) ?_
        refine lv_iload_n hx hb dMo_confirm_117 rfl (lv_at hl 1 rfl) ?_
        refine k_iadd hx hb dMo_confirm_118 ?_
        refine k_iald hx hb hE.1 hP 21 0 (n := 32) (g := (L 21)) rfl rfl (i := (pp + (ds (M 12 s₀) ak))) (by omega) (by decide) dMo_confirm_119 ?_
        refine k_iast hx hb hE.1 hP hD hS 21 0 (n := 32) (g := ((mS (mS (mS L 18 pp (L 18 (pp + (ds (M 12 s₀) ak)))) 19 pp (L 19 (pp + (ds (M 12 s₀) ak)))) 20 pp (L 20 (pp + (ds (M 12 s₀) ak)))) 21)) rfl rfl (i := pp) (x := (L 21 (pp + (ds (M 12 s₀) ak)))) (by omega) (by decide) dMo_confirm_120 (fun H locs hP hD hS => ?_)
        rw [mo_set_21] at hP hD
        refine lv_aload_n hx hb dMo_confirm_121 rfl (lv_at hl 4 rfl) ?_
        refine va_get (D := D) (ci := 4) (v := .ref (ad 22)) (C := RMo) (T := TMo) (N := 29) hx hb ht inMo hown hE.1 hP 0 rfl rfl 22 (by decide) (ht _ tw_609) (fun _ h => h) rfl dMo_confirm_122 ?_
        refine lv_iload hx hb dMo_confirm_125 (lv_at hl 0 rfl) ?_
        refine lv_aload_n hx hb dMo_confirm_127 rfl (lv_at hl 4 rfl) ?_
        refine va_get (D := D) (ci := 4) (v := .ref (ad 22)) (C := RMo) (T := TMo) (N := 29) hx hb ht inMo hown hE.1 hP 0 rfl rfl 22 (by decide) (ht _ tw_609) (fun _ h => h) rfl dMo_confirm_128 ?_
        refine lv_iload hx hb dMo_confirm_131 (lv_at hl 0 rfl) ?_
        refine lv_iload_n hx hb dMo_confirm_133 rfl (lv_at hl 1 rfl) ?_
        refine k_iadd hx hb dMo_confirm_134 ?_
        refine k_iald hx hb hE.1 hP 22 0 (n := 32) (g := (L 22)) rfl rfl (i := (pp + (ds (M 12 s₀) ak))) (by omega) (by decide) dMo_confirm_135 ?_
        refine k_iast hx hb hE.1 hP hD hS 22 0 (n := 32) (g := ((mS (mS (mS (mS L 18 pp (L 18 (pp + (ds (M 12 s₀) ak)))) 19 pp (L 19 (pp + (ds (M 12 s₀) ak)))) 20 pp (L 20 (pp + (ds (M 12 s₀) ak)))) 21 pp (L 21 (pp + (ds (M 12 s₀) ak)))) 22)) rfl rfl (i := pp) (x := (L 22 (pp + (ds (M 12 s₀) ak)))) (by omega) (by decide) dMo_confirm_136 (fun H locs hP hD hS => ?_)
        rw [mo_set_22] at hP hD
        refine lv_iinc (k := 0) (v := nI (pp + 1)) hx hb dMo_confirm_137 hl rfl (n_inc _) (by decide) rfl (fun ls hl => ?_)
        have hl : lv_has ls 5 [(4, .int (nI (pp + 1))), (3, .int (nI (ds (M 12 s₀) ak))), (2, .int (nI ak)), (1, .int (nI s₀)), (0, .ref h)] := hl
        refine lv_goto (tgt := 41) hx hb dMo_confirm_140 rfl ?_
        have hl := lv_sub hl [0, 1, 2, 3, 4] rfl
        exact ih (pp + 1) (mSh1 L pp (ds (M 12 s₀) ak)) H locs ls (hL.sh1 _ _) (by rw [mSh1_lo (by decide)]; exact hL17) (by rw [mSh1_lo (by decide)]; exact hL14) (by omega) (by omega) hgo hP hD hS hl
    exact loop (M 17 s₀ - ds (M 12 s₀) ak) (16 * s₀) (mS M 17 s₀ (M 17 s₀ - ds (M 12 s₀) ak)) H locs ls (hM.set 17 (show _ < 17 by omega)) (by rw [mS_same, va_up_self]) (by rw [mS_ne (by decide)]) (by omega) (by omega) hm2 hP hD hS hl
  · exact Co.retv hx hb hret hlk dMo_confirm_20 hS hP hD () rfl trivial (by rw [show mConf M s₀ ak = M from if_pos (by omega)]) (Nat.le_of_ble_eq_true rfl) (Nat.le_of_ble_eq_true rfl)
set_option maxHeartbeats 4000000 in
set_option maxRecDepth 100000 in
theorem c_Mo_takeFrame (l : Launch) (D : va_G) (ca : Nat → ClassId) (h : Nat) (ad : Nat → Nat) (co : Nat) (M : Nat → Nat → Nat) (s₀ : Nat) (hM : mOk M) (hs : s₀ < 2) (h0 : 0 < M 1 s₀) : Co (S := Unit) l yMo_takeFrame (Cond.code yMo_takeFrame cMo_takeFrame 4 (some FieldType.int) :: tb_) { frames := 0, cells := 0, slots := 0, locals := 0 } D ca [.ref h, .int (nI s₀)] (mW h ad ca co M) (fun _ => some (.int (nI (M 2 (12 * s₀))))) (fun _ => True) (fun _ => (mW h ad ca co (mTake M s₀))) 0 0 := by
  refine Co.of cMo_takeFrame 4 (some FieldType.int) (by decide) (Nat.le_of_ble_eq_true rfl) ?_
  intro p e s m args below meth c A ls fx hret hlk hin hE hP hD hS hA hl
  have hx := fx.1
  have hb := fx.2.1
  have hown : s.vm.findClass RMo = some m.cls := fx.2.2.2.1
  have hts := fx.2.2.2.2
  have ht : ∀ w ∈ tb_, w.before args s = true := fun w h => hts w (List.mem_cons_of_mem _ h)
  have b1 : M 1 s₀ < 13 := hM 1 _
  have hl : lv_has ls 4 [(0, .ref h), (1, .int (nI s₀))] := hl
  refine lv_aload_n hx hb dMo_takeFrame_0 rfl (lv_at hl 0 rfl) ?_
  refine va_get (D := D) (ci := 4) (v := .ref (ad 2)) (C := RMo) (T := TMo) (N := 29) hx hb ht inMo hown hE.1 hP 0 rfl rfl 2 (by decide) (ht _ tw_589) (fun _ h => h) rfl dMo_takeFrame_1 ?_
  refine lv_bipush (v := nI 12) hx hb dMo_takeFrame_4 (by decide) ?_
  refine lv_iload_n hx hb dMo_takeFrame_6 rfl (lv_at hl 1 rfl) ?_
  refine k_imul hx hb dMo_takeFrame_7 ?_
  refine k_iald hx hb hE.1 hP 2 0 (n := 24) (g := (M 2)) rfl rfl (i := (12 * s₀)) (by omega) (by decide) dMo_takeFrame_8 ?_
  refine lv_istore_n hx hb dMo_takeFrame_9 rfl hl (by decide) rfl (fun ls hl => ?_)
  have hl : lv_has ls 4 [(2, .int (nI (M 2 (12 * s₀)))), (0, .ref h), (1, .int (nI s₀))] := hl
  refine lv_aload_n hx hb dMo_takeFrame_10 rfl (lv_at hl 1 rfl) ?_
  refine va_get (D := D) (ci := 4) (v := .ref (ad 1)) (C := RMo) (T := TMo) (N := 29) hx hb ht inMo hown hE.1 hP 0 rfl rfl 1 (by decide) (ht _ tw_588) (fun _ h => h) rfl dMo_takeFrame_11 ?_
  refine lv_iload_n hx hb dMo_takeFrame_14 rfl (lv_at hl 2 rfl) ?_
  refine lv_aload_n hx hb dMo_takeFrame_15 rfl (lv_at hl 1 rfl) ?_
  refine va_get (D := D) (ci := 4) (v := .ref (ad 1)) (C := RMo) (T := TMo) (N := 29) hx hb ht inMo hown hE.1 hP 0 rfl rfl 1 (by decide) (ht _ tw_588) (fun _ h => h) rfl dMo_takeFrame_16 ?_
  refine lv_iload_n hx hb dMo_takeFrame_19 rfl (lv_at hl 2 rfl) ?_
  refine k_iald hx hb hE.1 hP 1 0 (n := 2) (g := (M 1)) rfl rfl (i := s₀) (by omega) (by decide) dMo_takeFrame_20 ?_
  refine lv_iconst (v := nI 1) hx hb dMo_takeFrame_21 (by decide) ?_
  refine k_isub hx hb (by omega) dMo_takeFrame_22 ?_
  refine k_iast hx hb hE.1 hP hD hS 1 0 (n := 2) (g := (M 1)) rfl rfl (i := s₀) (x := ((M 1 s₀) - 1)) (by omega) (by decide) dMo_takeFrame_23 (fun H locs hP hD hS => ?_)
  rw [mo_set_1] at hP hD
  refine lv_bipush (v := nI 12) hx hb dMo_takeFrame_24 (by decide) ?_
  refine lv_iload_n hx hb dMo_takeFrame_26 rfl (lv_at hl 2 rfl) ?_
  refine k_imul hx hb dMo_takeFrame_27 ?_
  refine lv_istore_n hx hb dMo_takeFrame_28 rfl hl (by decide) rfl (fun ls hl => ?_)
  have hl : lv_has ls 4 [(3, .int (nI (12 * s₀))), (2, .int (nI (M 2 (12 * s₀)))), (0, .ref h), (1, .int (nI s₀))] := hl
  have hl := lv_sub hl [0, 1, 3, 2] rfl
  have loop : ∀ (n : Nat) (ff : Nat) (L : Nat → Nat → Nat) (H : Heap) (locs : List Loc) (ls : Array Slot), mOk L → L 1 s₀ = M 1 s₀ - 1 → ff + n = 12 * s₀ + (M 1 s₀ - 1) → 12 * s₀ ≤ ff → mTkR n L ff = mTake M s₀ → va_P D cls_ (mW h ad ca co L) H → va_D A (mW h ad ca co L) → va_S A s.heap H locs → lv_has ls 4 [(3, .int (nI ff)), (2, .int (nI (M 2 (12 * s₀)))), (1, .int (nI s₀)), (0, .ref h)] → W p l e ({ frames := 0, cells := 0, slots := 0, locals := 0 } : Room) s m args below meth c H locs 0 0 (MQ below (CoQ D (fun _ : Unit => some (.int (nI (M 2 (12 * s₀))))) (fun _ => True) (fun _ => (mW h ad ca co (mTake M s₀))) A) args s 0 0 A) (F0 m 29 ls []) := by
    intro n
    induction n with
    | zero =>
      intro ff L H locs ls hL hL1 hn hff hgo hP hD hS hl
      refine lv_iload_n hx hb dMo_takeFrame_29 rfl (lv_at hl 0 rfl) ?_
      refine lv_bipush (v := nI 12) hx hb dMo_takeFrame_30 (by decide) ?_
      refine lv_iload_n hx hb dMo_takeFrame_32 rfl (lv_at hl 2 rfl) ?_
      refine k_imul hx hb dMo_takeFrame_33 ?_
      refine lv_aload_n hx hb dMo_takeFrame_34 rfl (lv_at hl 3 rfl) ?_
      refine va_get (D := D) (ci := 4) (v := .ref (ad 1)) (C := RMo) (T := TMo) (N := 29) hx hb ht inMo hown hE.1 hP 0 rfl rfl 1 (by decide) (ht _ tw_588) (fun _ h => h) rfl dMo_takeFrame_35 ?_
      refine lv_iload_n hx hb dMo_takeFrame_38 rfl (lv_at hl 2 rfl) ?_
      refine k_iald hx hb hE.1 hP 1 0 (n := 2) (g := (L 1)) rfl rfl (i := s₀) (by omega) (by decide) dMo_takeFrame_39 ?_
      refine k_is (y := nI (M 1 s₀ - 1)) (by rw [hL1]) ?_
      refine k_iadd hx hb dMo_takeFrame_40 ?_
      refine k_icmp_ge (tgt := 162) hx hb (by omega) (by omega) dMo_takeFrame_41 rfl (fun h41 => ?_) (fun hz => absurd hz (by omega))
      refine lv_iload_n hx hb dMo_takeFrame_162 rfl (lv_at hl 1 rfl) ?_
      obtain rfl : L = mTake M s₀ := hgo
      exact Co.reti hx hb hret hlk dMo_takeFrame_163 hS hP hD () rfl trivial rfl (Nat.le_of_ble_eq_true rfl) (Nat.le_of_ble_eq_true rfl)
    | succ n ih =>
      intro ff L H locs ls hL hL1 hn hff hgo hP hD hS hl
      refine lv_iload_n hx hb dMo_takeFrame_29 rfl (lv_at hl 0 rfl) ?_
      refine lv_bipush (v := nI 12) hx hb dMo_takeFrame_30 (by decide) ?_
      refine lv_iload_n hx hb dMo_takeFrame_32 rfl (lv_at hl 2 rfl) ?_
      refine k_imul hx hb dMo_takeFrame_33 ?_
      refine lv_aload_n hx hb dMo_takeFrame_34 rfl (lv_at hl 3 rfl) ?_
      refine va_get (D := D) (ci := 4) (v := .ref (ad 1)) (C := RMo) (T := TMo) (N := 29) hx hb ht inMo hown hE.1 hP 0 rfl rfl 1 (by decide) (ht _ tw_588) (fun _ h => h) rfl dMo_takeFrame_35 ?_
      refine lv_iload_n hx hb dMo_takeFrame_38 rfl (lv_at hl 2 rfl) ?_
      refine k_iald hx hb hE.1 hP 1 0 (n := 2) (g := (L 1)) rfl rfl (i := s₀) (by omega) (by decide) dMo_takeFrame_39 ?_
      refine k_is (y := nI (M 1 s₀ - 1)) (by rw [hL1]) ?_
      refine k_iadd hx hb dMo_takeFrame_40 ?_
      refine k_icmp_ge (tgt := 162) hx hb (by omega) (by omega) dMo_takeFrame_41 rfl (fun hz => absurd hz (by omega)) (fun h41 => ?_)
      refine lv_aload_n hx hb dMo_takeFrame_44 rfl (lv_at hl 3 rfl) ?_
      refine va_get (D := D) (ci := 4) (v := .ref (ad 2)) (C := RMo) (T := TMo) (N := 29) hx hb ht inMo hown hE.1 hP 0 rfl rfl 2 (by decide) (ht _ tw_589) (fun _ h => h) rfl dMo_takeFrame_45 ?_
      refine lv_iload_n hx hb dMo_takeFrame_48 rfl (lv_at hl 0 rfl) ?_
      refine lv_aload_n hx hb dMo_takeFrame_49 rfl (lv_at hl 3 rfl) ?_
      refine va_get (D := D) (ci := 4) (v := .ref (ad 2)) (C := RMo) (T := TMo) (N := 29) hx hb ht inMo hown hE.1 hP 0 rfl rfl 2 (by decide) (ht _ tw_589) (fun _ h => h) rfl dMo_takeFrame_50 ?_
      refine lv_iload_n hx hb dMo_takeFrame_53 rfl (lv_at hl 0 rfl) ?_
      refine lv_iconst (v := nI 1) hx hb dMo_takeFrame_54 (by decide) ?_
      refine k_iadd hx hb dMo_takeFrame_55 ?_
      refine k_iald hx hb hE.1 hP 2 0 (n := 24) (g := (L 2)) rfl rfl (i := (ff + 1)) (by omega) (by decide) dMo_takeFrame_56 ?_
      refine k_iast hx hb hE.1 hP hD hS 2 0 (n := 24) (g := (L 2)) rfl rfl (i := ff) (x := (L 2 (ff + 1))) (by omega) (by decide) dMo_takeFrame_57 (fun H locs hP hD hS => ?_)
      rw [mo_set_2] at hP hD
      refine lv_aload_n hx hb dMo_takeFrame_58 rfl (lv_at hl 3 rfl) ?_
      refine va_get (D := D) (ci := 4) (v := .ref (ad 3)) (C := RMo) (T := TMo) (N := 29) hx hb ht inMo hown hE.1 hP 0 rfl rfl 3 (by decide) (ht _ tw_590) (fun _ h => h) rfl dMo_takeFrame_59 ?_
      refine lv_iload_n hx hb dMo_takeFrame_62 rfl (lv_at hl 0 rfl) ?_
      refine lv_aload_n hx hb dMo_takeFrame_63 rfl (lv_at hl 3 rfl) ?_
      refine va_get (D := D) (ci := 4) (v := .ref (ad 3)) (C := RMo) (T := TMo) (N := 29) hx hb ht inMo hown hE.1 hP 0 rfl rfl 3 (by decide) (ht _ tw_590) (fun _ h => h) rfl dMo_takeFrame_64 ?_
      refine lv_iload_n hx hb dMo_takeFrame_67 rfl (lv_at hl 0 rfl) ?_
      refine lv_iconst (v := nI 1) hx hb dMo_takeFrame_68 (by decide) ?_
      refine k_iadd hx hb dMo_takeFrame_69 ?_
      refine k_iald hx hb hE.1 hP 3 0 (n := 24) (g := (L 3)) rfl rfl (i := (ff + 1)) (by omega) (by decide) dMo_takeFrame_70 ?_
      refine k_iast hx hb hE.1 hP hD hS 3 0 (n := 24) (g := ((mS L 2 ff (L 2 (ff + 1))) 3)) rfl rfl (i := ff) (x := (L 3 (ff + 1))) (by omega) (by decide) dMo_takeFrame_71 (fun H locs hP hD hS => ?_)
      rw [mo_set_3] at hP hD
      refine lv_aload_n hx hb dMo_takeFrame_72 rfl (lv_at hl 3 rfl) ?_
      refine va_get (D := D) (ci := 4) (v := .ref (ad 4)) (C := RMo) (T := TMo) (N := 29) hx hb ht inMo hown hE.1 hP 0 rfl rfl 4 (by decide) (ht _ tw_591) (fun _ h => h) rfl dMo_takeFrame_73 ?_
      refine lv_iload_n hx hb dMo_takeFrame_76 rfl (lv_at hl 0 rfl) ?_
      refine lv_aload_n hx hb dMo_takeFrame_77 rfl (lv_at hl 3 rfl) ?_
      refine va_get (D := D) (ci := 4) (v := .ref (ad 4)) (C := RMo) (T := TMo) (N := 29) hx hb ht inMo hown hE.1 hP 0 rfl rfl 4 (by decide) (ht _ tw_591) (fun _ h => h) rfl dMo_takeFrame_78 ?_
      refine lv_iload_n hx hb dMo_takeFrame_81 rfl (lv_at hl 0 rfl) ?_
      refine lv_iconst (v := nI 1) hx hb dMo_takeFrame_82 (by decide) ?_
      refine k_iadd hx hb dMo_takeFrame_83 ?_
      refine k_iald hx hb hE.1 hP 4 0 (n := 24) (g := (L 4)) rfl rfl (i := (ff + 1)) (by omega) (by decide) dMo_takeFrame_84 ?_
      refine k_iast hx hb hE.1 hP hD hS 4 0 (n := 24) (g := ((mS (mS L 2 ff (L 2 (ff + 1))) 3 ff (L 3 (ff + 1))) 4)) rfl rfl (i := ff) (x := (L 4 (ff + 1))) (by omega) (by decide) dMo_takeFrame_85 (fun H locs hP hD hS => ?_)
      rw [mo_set_4] at hP hD
      refine lv_aload_n hx hb dMo_takeFrame_86 rfl (lv_at hl 3 rfl) ?_
      refine va_get (D := D) (ci := 4) (v := .ref (ad 5)) (C := RMo) (T := TMo) (N := 29) hx hb ht inMo hown hE.1 hP 0 rfl rfl 5 (by decide) (ht _ tw_592) (fun _ h => h) rfl dMo_takeFrame_87 ?_
      refine lv_iload_n hx hb dMo_takeFrame_90 rfl (lv_at hl 0 rfl) ?_
      refine lv_aload_n hx hb dMo_takeFrame_91 rfl (lv_at hl 3 rfl) ?_
      refine va_get (D := D) (ci := 4) (v := .ref (ad 5)) (C := RMo) (T := TMo) (N := 29) hx hb ht inMo hown hE.1 hP 0 rfl rfl 5 (by decide) (ht _ tw_592) (fun _ h => h) rfl dMo_takeFrame_92 ?_
      refine lv_iload_n hx hb dMo_takeFrame_95 rfl (lv_at hl 0 rfl) ?_
      refine lv_iconst (v := nI 1) hx hb dMo_takeFrame_96 (by decide) ?_
      refine k_iadd hx hb dMo_takeFrame_97 ?_
      refine k_iald hx hb hE.1 hP 5 0 (n := 24) (g := (L 5)) rfl rfl (i := (ff + 1)) (by omega) (by decide) dMo_takeFrame_98 ?_
      refine k_iast hx hb hE.1 hP hD hS 5 0 (n := 24) (g := ((mS (mS (mS L 2 ff (L 2 (ff + 1))) 3 ff (L 3 (ff + 1))) 4 ff (L 4 (ff + 1))) 5)) rfl rfl (i := ff) (x := (L 5 (ff + 1))) (by omega) (by decide) dMo_takeFrame_99 (fun H locs hP hD hS => ?_)
      rw [mo_set_5] at hP hD
      refine lv_aload_n hx hb dMo_takeFrame_100 rfl (lv_at hl 3 rfl) ?_
      refine va_get (D := D) (ci := 4) (v := .ref (ad 6)) (C := RMo) (T := TMo) (N := 29) hx hb ht inMo hown hE.1 hP 0 rfl rfl 6 (by decide) (ht _ tw_593) (fun _ h => h) rfl dMo_takeFrame_101 ?_
      refine lv_iload_n hx hb dMo_takeFrame_104 rfl (lv_at hl 0 rfl) ?_
      refine lv_aload_n hx hb dMo_takeFrame_105 rfl (lv_at hl 3 rfl) ?_
      refine va_get (D := D) (ci := 4) (v := .ref (ad 6)) (C := RMo) (T := TMo) (N := 29) hx hb ht inMo hown hE.1 hP 0 rfl rfl 6 (by decide) (ht _ tw_593) (fun _ h => h) rfl dMo_takeFrame_106 ?_
      refine lv_iload_n hx hb dMo_takeFrame_109 rfl (lv_at hl 0 rfl) ?_
      refine lv_iconst (v := nI 1) hx hb dMo_takeFrame_110 (by decide) ?_
      refine k_iadd hx hb dMo_takeFrame_111 ?_
      refine k_iald hx hb hE.1 hP 6 0 (n := 24) (g := (L 6)) rfl rfl (i := (ff + 1)) (by omega) (by decide) dMo_takeFrame_112 ?_
      refine k_iast hx hb hE.1 hP hD hS 6 0 (n := 24) (g := ((mS (mS (mS (mS L 2 ff (L 2 (ff + 1))) 3 ff (L 3 (ff + 1))) 4 ff (L 4 (ff + 1))) 5 ff (L 5 (ff + 1))) 6)) rfl rfl (i := ff) (x := (L 6 (ff + 1))) (by omega) (by decide) dMo_takeFrame_113 (fun H locs hP hD hS => ?_)
      rw [mo_set_6] at hP hD
      refine lv_aload_n hx hb dMo_takeFrame_114 rfl (lv_at hl 3 rfl) ?_
      refine va_get (D := D) (ci := 4) (v := .ref (ad 7)) (C := RMo) (T := TMo) (N := 29) hx hb ht inMo hown hE.1 hP 0 rfl rfl 7 (by decide) (ht _ tw_594) (fun _ h => h) rfl dMo_takeFrame_115 ?_
      refine lv_iload_n hx hb dMo_takeFrame_118 rfl (lv_at hl 0 rfl) ?_
      refine lv_aload_n hx hb dMo_takeFrame_119 rfl (lv_at hl 3 rfl) ?_
      refine va_get (D := D) (ci := 4) (v := .ref (ad 7)) (C := RMo) (T := TMo) (N := 29) hx hb ht inMo hown hE.1 hP 0 rfl rfl 7 (by decide) (ht _ tw_594) (fun _ h => h) rfl dMo_takeFrame_120 ?_
      refine lv_iload_n hx hb dMo_takeFrame_123 rfl (lv_at hl 0 rfl) ?_
      refine lv_iconst (v := nI 1) hx hb dMo_takeFrame_124 (by decide) ?_
      refine k_iadd hx hb dMo_takeFrame_125 ?_
      refine k_iald hx hb hE.1 hP 7 0 (n := 24) (g := (L 7)) rfl rfl (i := (ff + 1)) (by omega) (by decide) dMo_takeFrame_126 ?_
      refine k_iast hx hb hE.1 hP hD hS 7 0 (n := 24) (g := ((mS (mS (mS (mS (mS L 2 ff (L 2 (ff + 1))) 3 ff (L 3 (ff + 1))) 4 ff (L 4 (ff + 1))) 5 ff (L 5 (ff + 1))) 6 ff (L 6 (ff + 1))) 7)) rfl rfl (i := ff) (x := (L 7 (ff + 1))) (by omega) (by decide) dMo_takeFrame_127 (fun H locs hP hD hS => ?_)
      rw [mo_set_7] at hP hD
      refine lv_aload_n hx hb dMo_takeFrame_128 rfl (lv_at hl 3 rfl) ?_
      refine va_get (D := D) (ci := 4) (v := .ref (ad 8)) (C := RMo) (T := TMo) (N := 29) hx hb ht inMo hown hE.1 hP 0 rfl rfl 8 (by decide) (ht _ tw_595) (fun _ h => h) rfl dMo_takeFrame_129 ?_
      refine lv_iload_n hx hb dMo_takeFrame_132 rfl (lv_at hl 0 rfl) ?_
      refine lv_aload_n hx hb dMo_takeFrame_133 rfl (lv_at hl 3 rfl) ?_
      refine va_get (D := D) (ci := 4) (v := .ref (ad 8)) (C := RMo) (T := TMo) (N := 29) hx hb ht inMo hown hE.1 hP 0 rfl rfl 8 (by decide) (ht _ tw_595) (fun _ h => h) rfl dMo_takeFrame_134 ?_
      refine lv_iload_n hx hb dMo_takeFrame_137 rfl (lv_at hl 0 rfl) ?_
      refine lv_iconst (v := nI 1) hx hb dMo_takeFrame_138 (by decide) ?_
      refine k_iadd hx hb dMo_takeFrame_139 ?_
      refine k_iald hx hb hE.1 hP 8 0 (n := 24) (g := (L 8)) rfl rfl (i := (ff + 1)) (by omega) (by decide) dMo_takeFrame_140 ?_
      refine k_iast hx hb hE.1 hP hD hS 8 0 (n := 24) (g := ((mS (mS (mS (mS (mS (mS L 2 ff (L 2 (ff + 1))) 3 ff (L 3 (ff + 1))) 4 ff (L 4 (ff + 1))) 5 ff (L 5 (ff + 1))) 6 ff (L 6 (ff + 1))) 7 ff (L 7 (ff + 1))) 8)) rfl rfl (i := ff) (x := (L 8 (ff + 1))) (by omega) (by decide) dMo_takeFrame_141 (fun H locs hP hD hS => ?_)
      rw [mo_set_8] at hP hD
      refine lv_aload_n hx hb dMo_takeFrame_142 rfl (lv_at hl 3 rfl) ?_
      refine va_get (D := D) (ci := 4) (v := .ref (ad 9)) (C := RMo) (T := TMo) (N := 29) hx hb ht inMo hown hE.1 hP 0 rfl rfl 9 (by decide) (ht _ tw_596) (fun _ h => h) rfl dMo_takeFrame_143 ?_
      refine lv_iload_n hx hb dMo_takeFrame_146 rfl (lv_at hl 0 rfl) ?_
      refine lv_aload_n hx hb dMo_takeFrame_147 rfl (lv_at hl 3 rfl) ?_
      refine va_get (D := D) (ci := 4) (v := .ref (ad 9)) (C := RMo) (T := TMo) (N := 29) hx hb ht inMo hown hE.1 hP 0 rfl rfl 9 (by decide) (ht _ tw_596) (fun _ h => h) rfl dMo_takeFrame_148 ?_
      refine lv_iload_n hx hb dMo_takeFrame_151 rfl (lv_at hl 0 rfl) ?_
      refine lv_iconst (v := nI 1) hx hb dMo_takeFrame_152 (by decide) ?_
      refine k_iadd hx hb dMo_takeFrame_153 ?_
      refine k_iald hx hb hE.1 hP 9 0 (n := 24) (g := (L 9)) rfl rfl (i := (ff + 1)) (by omega) (by decide) dMo_takeFrame_154 ?_
      refine k_iast hx hb hE.1 hP hD hS 9 0 (n := 24) (g := ((mS (mS (mS (mS (mS (mS (mS L 2 ff (L 2 (ff + 1))) 3 ff (L 3 (ff + 1))) 4 ff (L 4 (ff + 1))) 5 ff (L 5 (ff + 1))) 6 ff (L 6 (ff + 1))) 7 ff (L 7 (ff + 1))) 8 ff (L 8 (ff + 1))) 9)) rfl rfl (i := ff) (x := (L 9 (ff + 1))) (by omega) (by decide) dMo_takeFrame_155 (fun H locs hP hD hS => ?_)
      rw [mo_set_9] at hP hD
      refine lv_iinc (k := 0) (v := nI (ff + 1)) hx hb dMo_takeFrame_156 hl rfl (n_inc _) (by decide) rfl (fun ls hl => ?_)
      have hl : lv_has ls 4 [(3, .int (nI (ff + 1))), (2, .int (nI (M 2 (12 * s₀)))), (1, .int (nI s₀)), (0, .ref h)] := hl
      refine lv_goto (tgt := 29) hx hb dMo_takeFrame_159 rfl ?_
      have hl := lv_sub hl [0, 1, 2, 3] rfl
      exact ih (ff + 1) (mTk1 L ff) H locs ls (hL.tk1 _) hL1 (by omega) (by omega) hgo hP hD hS hl
  exact loop (M 1 s₀ - 1) (12 * s₀) (mS M 1 s₀ (M 1 s₀ - 1)) H locs ls (hM.set 1 (show _ < 13 by omega)) (by rw [mS_same, va_up_self]) (by omega) (by omega) rfl hP hD hS hl
