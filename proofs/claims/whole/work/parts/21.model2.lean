set_option maxHeartbeats 4000000 in
set_option maxRecDepth 100000 in
theorem c_Mo_move (l : Launch) (D : va_G) (ca : Nat → ClassId) (h : Nat) (ad : Nat → Nat) (co : Nat) (M : Nat → Nat → Nat) (s₀ cn kd nb ak vl : Nat) (hM : mOk M) (hs : s₀ < 2) (hc : cn < 3) (hkd : kd < 1048576) (hnb : nb < 1048576) (ha : ak < 8) (hv : vl < 1048576) (hdt : ds (M 27 (3 * s₀ + cn)) (M 26 (3 * s₀ + cn)) ≤ 2) : Co (S := Unit) l yMo_move (Cond.code yMo_move cMo_move 10 none :: tb_) { frames := 4, cells := 0, slots := 0, locals := 128 } D ca [.ref h, .int (nI s₀), .int (nI cn), .int (nI kd), .int (nI nb), .int (nI ak), .int (nI vl)] (mW h ad ca co M) (fun _ => none) (fun _ => True) (fun _ => (mW h ad ca co (mMove M s₀ cn kd nb ak vl))) 0 0 := by
  refine Co.of cMo_move 10 none (by decide) (Nat.le_of_ble_eq_true rfl) ?_
  intro p e s m args below meth c A ls fx hret hlk hin hE hP hD hS hA hl
  have hx := fx.1
  have hb := fx.2.1
  have hown : s.vm.findClass RMo = some m.cls := fx.2.2.2.1
  have hts := fx.2.2.2.2
  have ht : ∀ w ∈ tb_, w.before args s = true := fun w h => hts w (List.mem_cons_of_mem _ h)
  have b1 : M 24 (3 * s₀ + cn) < 8 := hM 24 _
  have b2 : M 25 (3 * s₀ + cn) < 8 := hM 25 _
  have b3 : M 26 (3 * s₀ + cn) < 8 := hM 26 _
  have b4 : M 27 (3 * s₀ + cn) < 8 := hM 27 _
  have b5 := ds_lt (M 25 (3 * s₀ + cn)) (M 24 (3 * s₀ + cn))
  have b6 := ds_lt (M 25 (3 * s₀ + cn)) ak
  have hM5 : mOk (mS M 25 (3 * s₀ + cn) ak) := hM.set 25 ha
  have hl : lv_has ls 10 [(0, .ref h), (1, .int (nI s₀)), (2, .int (nI cn)), (3, .int (nI kd)), (4, .int (nI nb)), (5, .int (nI ak)), (6, .int (nI vl))] := hl
  refine lv_iconst (v := nI 3) hx hb dMo_move_0 (by decide) ?_
  refine lv_iload_n hx hb dMo_move_1 rfl (lv_at hl 1 rfl) ?_
  refine k_imul hx hb dMo_move_2 ?_
  refine lv_iload_n hx hb dMo_move_3 rfl (lv_at hl 2 rfl) ?_
  refine k_iadd hx hb dMo_move_4 ?_
  refine lv_istore hx hb dMo_move_5 hl (by decide) rfl (fun ls hl => ?_)
  have hl : lv_has ls 10 [(7, .int (nI ((3 * s₀) + cn))), (0, .ref h), (1, .int (nI s₀)), (2, .int (nI cn)), (3, .int (nI kd)), (4, .int (nI nb)), (5, .int (nI ak)), (6, .int (nI vl))] := hl
  refine lv_iload hx hb dMo_move_7 (lv_at hl 6 rfl) ?_
  refine lv_aload_n hx hb dMo_move_9 rfl (lv_at hl 1 rfl) ?_
  refine va_get (D := D) (ci := 4) (v := .ref (ad 25)) (C := RMo) (T := TMo) (N := 29) hx hb ht inMo hown hE.1 hP 0 rfl rfl 25 (by decide) (ht _ tw_612) (fun _ h => h) rfl dMo_move_10 ?_
  refine lv_iload hx hb dMo_move_13 (lv_at hl 0 rfl) ?_
  refine k_iald hx hb hE.1 hP 25 0 (n := 6) (g := (M 25)) rfl rfl (i := ((3 * s₀) + cn)) (by omega) (by decide) dMo_move_15 ?_
  refine kI (rS fx (c_Mo_less l D ca ak (M 25 ((3 * s₀) + cn)) (by omega) (by omega)) ⟨callB_of 2 hts (tb_gi tw_717) rfl rfl rfl (ht _ tw_5) (ht _ tw_715) (by decide +kernel) ⟨(Nat.le_of_ble_eq_true rfl), (Nat.le_of_ble_eq_true rfl)⟩, ht _ tw_716⟩ hE hP hD [] rfl rfl rfl hl.1 rfl (Nat.le_of_ble_eq_true rfl) dMo_move_16 ⟨(Nat.le_of_ble_eq_true rfl), (Nat.le_of_ble_eq_true rfl)⟩) hP hD hS hA [] [0, 1, 2, 3, 4, 5, 6, 7, 8, 9, 10, 11, 12, 13, 14, 15, 16, 17, 18, 19, 20, 21, 22, 23, 24, 25, 26, 27, 28] rfl rfl rfl (by decide) (fun _ H locs _ hP hD hS => ?_)
  have hP : va_P D cls_ (mW h ad ca co M) H := hP
  have hD : va_D A (mW h ad ca co M) := hD
  refine lv_aload_n hx hb dMo_move_19 rfl (lv_at hl 1 rfl) ?_
  refine va_get (D := D) (ci := 4) (v := .ref (ad 24)) (C := RMo) (T := TMo) (N := 29) hx hb ht inMo hown hE.1 hP 0 rfl rfl 24 (by decide) (ht _ tw_611) (fun _ h => h) rfl dMo_move_20 ?_
  refine lv_iload hx hb dMo_move_23 (lv_at hl 0 rfl) ?_
  refine k_iald hx hb hE.1 hP 24 0 (n := 6) (g := (M 24)) rfl rfl (i := ((3 * s₀) + cn)) (by omega) (by decide) dMo_move_25 ?_
  refine lv_aload_n hx hb dMo_move_26 rfl (lv_at hl 1 rfl) ?_
  refine va_get (D := D) (ci := 4) (v := .ref (ad 25)) (C := RMo) (T := TMo) (N := 29) hx hb ht inMo hown hE.1 hP 0 rfl rfl 25 (by decide) (ht _ tw_612) (fun _ h => h) rfl dMo_move_27 ?_
  refine lv_iload hx hb dMo_move_30 (lv_at hl 0 rfl) ?_
  refine k_iald hx hb hE.1 hP 25 0 (n := 6) (g := (M 25)) rfl rfl (i := ((3 * s₀) + cn)) (by omega) (by decide) dMo_move_32 ?_
  refine kI (rS fx (c_Mo_less l D ca (M 24 ((3 * s₀) + cn)) (M 25 ((3 * s₀) + cn)) (by omega) (by omega)) ⟨callB_of 2 hts (tb_gi tw_717) rfl rfl rfl (ht _ tw_5) (ht _ tw_715) (by decide +kernel) ⟨(Nat.le_of_ble_eq_true rfl), (Nat.le_of_ble_eq_true rfl)⟩, ht _ tw_716⟩ hE hP hD [] rfl rfl rfl hl.1 rfl (Nat.le_of_ble_eq_true rfl) dMo_move_33 ⟨(Nat.le_of_ble_eq_true rfl), (Nat.le_of_ble_eq_true rfl)⟩) hP hD hS hA [] [0, 1, 2, 3, 4, 5, 6, 7, 8, 9, 10, 11, 12, 13, 14, 15, 16, 17, 18, 19, 20, 21, 22, 23, 24, 25, 26, 27, 28] rfl rfl rfl (by decide) (fun _ H locs _ hP hD hS => ?_)
  have hP : va_P D cls_ (mW h ad ca co M) H := hP
  have hD : va_D A (mW h ad ca co M) := hD
  refine k_icmp_le (tgt := 43) hx hb (by omega) (by omega) dMo_move_36 rfl (fun h36 => ?_) (fun h36 => ?_)
  · refine lv_iconst (v := nI 0) hx hb dMo_move_43 (by decide) ?_
    refine lv_istore hx hb dMo_move_44 hl (by decide) rfl (fun ls hl => ?_)
    have hl : lv_has ls 10 [(8, .int (nI 0)), (7, .int (nI ((3 * s₀) + cn))), (0, .ref h), (1, .int (nI s₀)), (2, .int (nI cn)), (3, .int (nI kd)), (4, .int (nI nb)), (5, .int (nI ak)), (6, .int (nI vl))] := hl
    refine lv_iload hx hb dMo_move_46 (lv_at hl 0 rfl) ?_
    refine k_if_ne (tgt := 150) hx hb (by omega) dMo_move_48 rfl (fun hz => absurd hz (by omega)) (fun h48 => ?_)
    refine lv_aload_n hx hb dMo_move_51 rfl (lv_at hl 2 rfl) ?_
    refine va_get (D := D) (ci := 4) (v := .ref (ad 25)) (C := RMo) (T := TMo) (N := 29) hx hb ht inMo hown hE.1 hP 0 rfl rfl 25 (by decide) (ht _ tw_612) (fun _ h => h) rfl dMo_move_52 ?_
    refine lv_iload hx hb dMo_move_55 (lv_at hl 1 rfl) ?_
    refine lv_iload hx hb dMo_move_57 (lv_at hl 7 rfl) ?_
    refine k_iast hx hb hE.1 hP hD hS 25 0 (n := 6) (g := (M 25)) rfl rfl (i := ((3 * s₀) + cn)) (x := ak) (by omega) (by decide) dMo_move_59 (fun H locs hP hD hS => ?_)
    rw [mo_set_25] at hP hD
    refine lv_aload_n hx hb dMo_move_60 rfl (lv_at hl 2 rfl) ?_
    refine va_get (D := D) (ci := 4) (v := .ref (ad 26)) (C := RMo) (T := TMo) (N := 29) hx hb ht inMo hown hE.1 hP 0 rfl rfl 26 (by decide) (ht _ tw_613) (fun _ h => h) rfl dMo_move_61 ?_
    refine lv_iload hx hb dMo_move_64 (lv_at hl 1 rfl) ?_
    refine k_iald hx hb hE.1 hP 26 0 (n := 6) (g := (M 26)) rfl rfl (i := ((3 * s₀) + cn)) (by omega) (by decide) dMo_move_66 ?_
    refine lv_aload_n hx hb dMo_move_67 rfl (lv_at hl 2 rfl) ?_
    refine va_get (D := D) (ci := 4) (v := .ref (ad 27)) (C := RMo) (T := TMo) (N := 29) hx hb ht inMo hown hE.1 hP 0 rfl rfl 27 (by decide) (ht _ tw_614) (fun _ h => h) rfl dMo_move_68 ?_
    refine lv_iload hx hb dMo_move_71 (lv_at hl 1 rfl) ?_
    refine k_iald hx hb hE.1 hP 27 0 (n := 6) (g := (M 27)) rfl rfl (i := ((3 * s₀) + cn)) (by omega) (by decide) dMo_move_73 ?_
    refine kI (rS fx (c_Mo_less l D ca (M 26 ((3 * s₀) + cn)) (M 27 ((3 * s₀) + cn)) (by omega) (by omega)) ⟨callB_of 2 hts (tb_gi tw_717) rfl rfl rfl (ht _ tw_5) (ht _ tw_715) (by decide +kernel) ⟨(Nat.le_of_ble_eq_true rfl), (Nat.le_of_ble_eq_true rfl)⟩, ht _ tw_716⟩ hE hP hD [] rfl rfl rfl hl.1 rfl (Nat.le_of_ble_eq_true rfl) dMo_move_74 ⟨(Nat.le_of_ble_eq_true rfl), (Nat.le_of_ble_eq_true rfl)⟩) hP hD hS hA [] [0, 1, 2, 3, 4, 5, 6, 7, 8, 9, 10, 11, 12, 13, 14, 15, 16, 17, 18, 19, 20, 21, 22, 23, 24, 25, 26, 27, 28] rfl rfl rfl (by decide) (fun _ H locs _ hP hD hS => ?_)
    have hP : va_P D cls_ (mW h ad ca co (mS M 25 ((3 * s₀) + cn) ak)) H := hP
    have hD : va_D A (mW h ad ca co (mS M 25 ((3 * s₀) + cn) ak)) := hD
    refine lv_istore hx hb dMo_move_77 hl (by decide) rfl (fun ls hl => ?_)
    have hl : lv_has ls 10 [(9, .int (nI (ds (M 27 ((3 * s₀) + cn)) (M 26 ((3 * s₀) + cn))))), (8, .int (nI 0)), (7, .int (nI ((3 * s₀) + cn))), (0, .ref h), (1, .int (nI s₀)), (2, .int (nI cn)), (3, .int (nI kd)), (4, .int (nI nb)), (5, .int (nI ak)), (6, .int (nI vl))] := hl
    refine lv_iload_n hx hb dMo_move_79 rfl (lv_at hl 6 rfl) ?_
    refine lv_iconst (v := nI 5) hx hb dMo_move_80 (by decide) ?_
    refine k_icmp_ne (tgt := 106) hx hb (by omega) (by omega) dMo_move_81 rfl (fun h81 => ?_) (fun h81 => ?_)
    · refine lv_iconst (v := nI 0) hx hb dMo_move_106 (by decide) ?_
      refine lv_istore hx hb dMo_move_107 hl (by decide) rfl (fun ls hl => ?_)
      have hl : lv_has ls 10 [(8, .int (nI 0)), (9, .int (nI (ds (M 27 ((3 * s₀) + cn)) (M 26 ((3 * s₀) + cn))))), (7, .int (nI ((3 * s₀) + cn))), (0, .ref h), (1, .int (nI s₀)), (2, .int (nI cn)), (3, .int (nI kd)), (4, .int (nI nb)), (5, .int (nI ak)), (6, .int (nI vl))] := hl
      refine lv_iload_n hx hb dMo_move_109 rfl (lv_at hl 6 rfl) ?_
      refine lv_iconst (v := nI 5) hx hb dMo_move_110 (by decide) ?_
      refine k_icmp_ne (tgt := 150) hx hb (by omega) (by omega) dMo_move_111 rfl (fun h111 => ?_) (fun hz => absurd hz (by omega))
      refine lv_iload hx hb dMo_move_150 (lv_at hl 0 rfl) ?_
      refine k_if_eq (tgt := 180) hx hb (by omega) dMo_move_152 rfl (fun h152 => ?_) (fun hz => absurd hz (by omega))
      have e9 : mMove M s₀ cn kd nb ak vl = mS M 25 ((3 * s₀) + cn) ak := (if_neg (by omega)).trans ((if_neg (by omega)).trans (if_neg (by omega)))
      exact Co.retv hx hb hret hlk dMo_move_180 hS hP hD () rfl trivial (by first | (rw [e9]; done) | (rw [e9]; rfl)) (Nat.le_of_ble_eq_true rfl) (Nat.le_of_ble_eq_true rfl)
    · refine lv_iload hx hb dMo_move_84 (lv_at hl 7 rfl) ?_
      refine lv_aload_n hx hb dMo_move_86 rfl (lv_at hl 3 rfl) ?_
      refine va_get (D := D) (ci := 4) (v := .ref (ad 26)) (C := RMo) (T := TMo) (N := 29) hx hb ht inMo hown hE.1 hP 0 rfl rfl 26 (by decide) (ht _ tw_613) (fun _ h => h) rfl dMo_move_87 ?_
      refine lv_iload hx hb dMo_move_90 (lv_at hl 2 rfl) ?_
      refine k_iald hx hb hE.1 hP 26 0 (n := 6) (g := (M 26)) rfl rfl (i := ((3 * s₀) + cn)) (by omega) (by decide) dMo_move_92 ?_
      refine k_icmp_ne (tgt := 102) hx hb (by omega) (by omega) dMo_move_93 rfl (fun h93 => ?_) (fun h93 => ?_)
      · refine lv_iconst (v := nI 1) hx hb dMo_move_102 (by decide) ?_
        refine lv_goto (tgt := 107) hx hb dMo_move_103 rfl ?_
        refine lv_istore hx hb dMo_move_107 hl (by decide) rfl (fun ls hl => ?_)
        have hl : lv_has ls 10 [(8, .int (nI 1)), (9, .int (nI (ds (M 27 ((3 * s₀) + cn)) (M 26 ((3 * s₀) + cn))))), (7, .int (nI ((3 * s₀) + cn))), (0, .ref h), (1, .int (nI s₀)), (2, .int (nI cn)), (3, .int (nI kd)), (4, .int (nI nb)), (5, .int (nI ak)), (6, .int (nI vl))] := hl
        refine lv_iload_n hx hb dMo_move_109 rfl (lv_at hl 6 rfl) ?_
        refine lv_iconst (v := nI 5) hx hb dMo_move_110 (by decide) ?_
        refine k_icmp_ne (tgt := 150) hx hb (by omega) (by omega) dMo_move_111 rfl (fun hz => absurd hz (by omega)) (fun h111 => ?_)
        refine lv_iload hx hb dMo_move_114 (lv_at hl 0 rfl) ?_
        refine k_if_ne (tgt := 150) hx hb (by omega) dMo_move_116 rfl (fun h116 => ?_) (fun hz => absurd hz (by omega))
        refine lv_iload hx hb dMo_move_150 (lv_at hl 0 rfl) ?_
        refine k_if_eq (tgt := 180) hx hb (by omega) dMo_move_152 rfl (fun hz => absurd hz (by omega)) (fun h152 => ?_)
        refine lv_aload_n hx hb dMo_move_155 rfl (lv_at hl 3 rfl) ?_
        refine lv_iload hx hb dMo_move_156 (lv_at hl 2 rfl) ?_
        refine kV (rV fx (c_Mo_renew l D ca h ad co (mS M 25 ((3 * s₀) + cn) ak) ((3 * s₀) + cn) (by omega)) ⟨callB_of 1 hts (tb_gi tw_702) rfl rfl rfl (ht _ tw_5) (ht _ tw_699) (by decide +kernel) ⟨(Nat.le_of_ble_eq_true rfl), (Nat.le_of_ble_eq_true rfl)⟩, ht _ tw_701, ht _ tw_848⟩ hE hP hD 0 rfl rfl rfl [0, 1, 2, 3, 4, 5, 6, 7, 8, 9, 10, 11, 12, 13, 14, 15, 16, 17, 18, 19, 20, 21, 22, 23, 24, 25, 26, 27, 28] rfl rfl rfl hl.1 rfl (Nat.le_of_ble_eq_true rfl) dMo_move_158 ⟨(Nat.le_of_ble_eq_true rfl), (Nat.le_of_ble_eq_true rfl)⟩) hP hD hS hA [0, 1, 2, 3, 4, 5, 6, 7, 8, 9, 10, 11, 12, 13, 14, 15, 16, 17, 18, 19, 20, 21, 22, 23, 24, 25, 26, 27, 28] [] rfl rfl rfl (by decide) (fun _ H locs _ hP hD hS => ?_)
        have hP : va_P D cls_ (mW h ad ca co (mRenew (mS M 25 ((3 * s₀) + cn) ak) ((3 * s₀) + cn))) H := hP
        have hD : va_D A (mW h ad ca co (mRenew (mS M 25 ((3 * s₀) + cn) ak) ((3 * s₀) + cn))) := hD
        refine lv_aload_n hx hb dMo_move_161 rfl (lv_at hl 3 rfl) ?_
        refine va_get (D := D) (ci := 4) (v := .ref (ad 23)) (C := RMo) (T := TMo) (N := 29) hx hb ht inMo hown hE.1 hP 0 rfl rfl 23 (by decide) (ht _ tw_610) (fun _ h => h) rfl dMo_move_162 ?_
        refine lv_iload hx hb dMo_move_165 (lv_at hl 2 rfl) ?_
        refine lv_iconst (v := nI 5) hx hb dMo_move_167 (by decide) ?_
        refine k_iast hx hb hE.1 hP hD hS 23 0 (n := 6) (g := ((mRenew (mS M 25 ((3 * s₀) + cn) ak) ((3 * s₀) + cn)) 23)) rfl rfl (i := ((3 * s₀) + cn)) (x := 5) (by omega) (by decide) dMo_move_168 (fun H locs hP hD hS => ?_)
        rw [mo_set_23] at hP hD
        refine lv_aload_n hx hb dMo_move_169 rfl (lv_at hl 3 rfl) ?_
        refine lv_iload_n hx hb dMo_move_170 rfl (lv_at hl 4 rfl) ?_
        refine lv_bipush (v := nI 7) hx hb dMo_move_171 (by decide) ?_
        refine lv_iload_n hx hb dMo_move_173 rfl (lv_at hl 5 rfl) ?_
        refine lv_iconst (v := nI 0) hx hb dMo_move_174 (by decide) ?_
        refine lv_iconst (v := nI 0) hx hb dMo_move_175 (by decide) ?_
        refine lv_iconst (v := nI 0) hx hb dMo_move_176 (by decide) ?_
        refine kV (rV fx (c_Mo_post l D ca h ad co (mS (mRenew (mS M 25 ((3 * s₀) + cn) ak) ((3 * s₀) + cn)) 23 ((3 * s₀) + cn) 5) s₀ 7 cn 0 0 0 (by first | assumption | exact mOk.idle (by assumption) _ | exact mOk.clean (by assumption) _ | exact mOk.renew (by assumption) _ | exact (mOk.renew (by assumption) _).set 23 (show 3 < 6 by decide) | exact (mOk.renew (by assumption) _).set 23 (show 5 < 6 by decide)) (by omega) (by omega) (by omega) (by omega) (by omega) (by omega)) ⟨callB_of 6 hts (tb_gi tw_748) rfl rfl rfl (ht _ tw_5) (ht _ tw_745) (by decide +kernel) ⟨(Nat.le_of_ble_eq_true rfl), (Nat.le_of_ble_eq_true rfl)⟩, ht _ tw_747, ht _ tw_858⟩ hE hP hD 0 rfl rfl rfl [0, 1, 2, 3, 4, 5, 6, 7, 8, 9, 10, 11, 12, 13, 14, 15, 16, 17, 18, 19, 20, 21, 22, 23, 24, 25, 26, 27, 28] rfl rfl rfl hl.1 rfl (Nat.le_of_ble_eq_true rfl) dMo_move_177 ⟨(Nat.le_of_ble_eq_true rfl), (Nat.le_of_ble_eq_true rfl)⟩) hP hD hS hA [0, 1, 2, 3, 4, 5, 6, 7, 8, 9, 10, 11, 12, 13, 14, 15, 16, 17, 18, 19, 20, 21, 22, 23, 24, 25, 26, 27, 28] [] rfl rfl rfl (by decide) (fun _ H locs _ hP hD hS => ?_)
        have hP : va_P D cls_ (mW h ad ca co (mPost (mS (mRenew (mS M 25 ((3 * s₀) + cn) ak) ((3 * s₀) + cn)) 23 ((3 * s₀) + cn) 5) s₀ 7 cn 0 0 0)) H := hP
        have hD : va_D A (mW h ad ca co (mPost (mS (mRenew (mS M 25 ((3 * s₀) + cn) ak) ((3 * s₀) + cn)) 23 ((3 * s₀) + cn) 5) s₀ 7 cn 0 0 0)) := hD
        have e9 : mMove M s₀ cn kd nb ak vl = mFault (mS M 25 (3 * s₀ + cn) ak) s₀ cn := (if_neg (by omega)).trans (if_pos (by omega))
        exact Co.retv hx hb hret hlk dMo_move_180 hS hP hD () rfl trivial (by first | (rw [e9]; done) | (rw [e9]; rfl)) (Nat.le_of_ble_eq_true rfl) (Nat.le_of_ble_eq_true rfl)
      · refine lv_iload hx hb dMo_move_96 (lv_at hl 0 rfl) ?_
        refine lv_iconst (v := nI 2) hx hb dMo_move_98 (by decide) ?_
        refine k_icmp_ne (tgt := 106) hx hb (by omega) (by omega) dMo_move_99 rfl (fun h99 => ?_) (fun h99 => ?_)
        · refine lv_iconst (v := nI 0) hx hb dMo_move_106 (by decide) ?_
          refine lv_istore hx hb dMo_move_107 hl (by decide) rfl (fun ls hl => ?_)
          have hl : lv_has ls 10 [(8, .int (nI 0)), (9, .int (nI (ds (M 27 ((3 * s₀) + cn)) (M 26 ((3 * s₀) + cn))))), (7, .int (nI ((3 * s₀) + cn))), (0, .ref h), (1, .int (nI s₀)), (2, .int (nI cn)), (3, .int (nI kd)), (4, .int (nI nb)), (5, .int (nI ak)), (6, .int (nI vl))] := hl
          refine lv_iload_n hx hb dMo_move_109 rfl (lv_at hl 6 rfl) ?_
          refine lv_iconst (v := nI 5) hx hb dMo_move_110 (by decide) ?_
          refine k_icmp_ne (tgt := 150) hx hb (by omega) (by omega) dMo_move_111 rfl (fun hz => absurd hz (by omega)) (fun h111 => ?_)
          refine lv_iload hx hb dMo_move_114 (lv_at hl 0 rfl) ?_
          refine k_if_ne (tgt := 150) hx hb (by omega) dMo_move_116 rfl (fun hz => absurd hz (by omega)) (fun h116 => ?_)
          refine lv_aload_n hx hb dMo_move_119 rfl (lv_at hl 3 rfl) ?_
          refine va_get (D := D) (ci := 4) (v := .ref (ad 28)) (C := RMo) (T := TMo) (N := 29) hx hb ht inMo hown hE.1 hP 0 rfl rfl 28 (by decide) (ht _ tw_615) (fun _ h => h) rfl dMo_move_120 ?_
          refine lv_iconst (v := nI 2) hx hb dMo_move_123 (by decide) ?_
          refine lv_iload hx hb dMo_move_124 (lv_at hl 2 rfl) ?_
          refine k_imul hx hb dMo_move_126 ?_
          refine lv_iload hx hb dMo_move_127 (lv_at hl 1 rfl) ?_
          refine k_iadd hx hb dMo_move_129 ?_
          refine lv_iload hx hb dMo_move_130 (lv_at hl 9 rfl) ?_
          refine k_iast hx hb hE.1 hP hD hS 28 0 (n := 12) (g := ((mS M 25 ((3 * s₀) + cn) ak) 28)) rfl rfl (i := ((2 * ((3 * s₀) + cn)) + (ds (M 27 ((3 * s₀) + cn)) (M 26 ((3 * s₀) + cn))))) (x := vl) (by omega) (by decide) dMo_move_132 (fun H locs hP hD hS => ?_)
          rw [mo_set_28] at hP hD
          refine lv_aload_n hx hb dMo_move_133 rfl (lv_at hl 3 rfl) ?_
          refine va_get (D := D) (ci := 4) (v := .ref (ad 26)) (C := RMo) (T := TMo) (N := 29) hx hb ht inMo hown hE.1 hP 0 rfl rfl 26 (by decide) (ht _ tw_613) (fun _ h => h) rfl dMo_move_134 ?_
          refine lv_iload hx hb dMo_move_137 (lv_at hl 2 rfl) ?_
          refine lv_aload_n hx hb dMo_move_139 rfl (lv_at hl 3 rfl) ?_
          refine va_get (D := D) (ci := 4) (v := .ref (ad 26)) (C := RMo) (T := TMo) (N := 29) hx hb ht inMo hown hE.1 hP 0 rfl rfl 26 (by decide) (ht _ tw_613) (fun _ h => h) rfl dMo_move_140 ?_
          refine lv_iload hx hb dMo_move_143 (lv_at hl 2 rfl) ?_
          refine k_iald hx hb hE.1 hP 26 0 (n := 6) (g := (M 26)) rfl rfl (i := ((3 * s₀) + cn)) (by omega) (by decide) dMo_move_145 ?_
          refine kI (rS fx (c_Mo_grown l D ca (M 26 ((3 * s₀) + cn)) (by omega)) ⟨callB_of 1 hts (tb_gi tw_736) rfl rfl rfl (ht _ tw_5) (ht _ tw_734) (by decide +kernel) ⟨(Nat.le_of_ble_eq_true rfl), (Nat.le_of_ble_eq_true rfl)⟩, ht _ tw_735⟩ hE hP hD [] rfl rfl rfl hl.1 rfl (Nat.le_of_ble_eq_true rfl) dMo_move_146 ⟨(Nat.le_of_ble_eq_true rfl), (Nat.le_of_ble_eq_true rfl)⟩) hP hD hS hA [] [0, 1, 2, 3, 4, 5, 6, 7, 8, 9, 10, 11, 12, 13, 14, 15, 16, 17, 18, 19, 20, 21, 22, 23, 24, 25, 26, 27, 28] rfl rfl rfl (by decide) (fun _ H locs _ hP hD hS => ?_)
          have hP : va_P D cls_ (mW h ad ca co (mS (mS M 25 ((3 * s₀) + cn) ak) 28 ((2 * ((3 * s₀) + cn)) + (ds (M 27 ((3 * s₀) + cn)) (M 26 ((3 * s₀) + cn)))) vl)) H := hP
          have hD : va_D A (mW h ad ca co (mS (mS M 25 ((3 * s₀) + cn) ak) 28 ((2 * ((3 * s₀) + cn)) + (ds (M 27 ((3 * s₀) + cn)) (M 26 ((3 * s₀) + cn)))) vl)) := hD
          refine k_iast hx hb hE.1 hP hD hS 26 0 (n := 6) (g := ((mS (mS M 25 ((3 * s₀) + cn) ak) 28 ((2 * ((3 * s₀) + cn)) + (ds (M 27 ((3 * s₀) + cn)) (M 26 ((3 * s₀) + cn)))) vl) 26)) rfl rfl (i := ((3 * s₀) + cn)) (x := (af (M 26 ((3 * s₀) + cn)))) (by omega) (by decide) dMo_move_149 (fun H locs hP hD hS => ?_)
          rw [mo_set_26] at hP hD
          refine lv_iload hx hb dMo_move_150 (lv_at hl 0 rfl) ?_
          refine k_if_eq (tgt := 180) hx hb (by omega) dMo_move_152 rfl (fun h152 => ?_) (fun hz => absurd hz (by omega))
          have e9 : mMove M s₀ cn kd nb ak vl = mS (mS (mS M 25 ((3 * s₀) + cn) ak) 28 ((2 * ((3 * s₀) + cn)) + (ds (M 27 ((3 * s₀) + cn)) (M 26 ((3 * s₀) + cn)))) vl) 26 ((3 * s₀) + cn) (af (M 26 ((3 * s₀) + cn))) := (if_neg (by omega)).trans ((if_neg (by omega)).trans (if_pos (by omega)))
          exact Co.retv hx hb hret hlk dMo_move_180 hS hP hD () rfl trivial (by first | (rw [e9]; done) | (rw [e9]; rfl)) (Nat.le_of_ble_eq_true rfl) (Nat.le_of_ble_eq_true rfl)
        · refine lv_iconst (v := nI 1) hx hb dMo_move_102 (by decide) ?_
          refine lv_goto (tgt := 107) hx hb dMo_move_103 rfl ?_
          refine lv_istore hx hb dMo_move_107 hl (by decide) rfl (fun ls hl => ?_)
          have hl : lv_has ls 10 [(8, .int (nI 1)), (9, .int (nI (ds (M 27 ((3 * s₀) + cn)) (M 26 ((3 * s₀) + cn))))), (7, .int (nI ((3 * s₀) + cn))), (0, .ref h), (1, .int (nI s₀)), (2, .int (nI cn)), (3, .int (nI kd)), (4, .int (nI nb)), (5, .int (nI ak)), (6, .int (nI vl))] := hl
          refine lv_iload_n hx hb dMo_move_109 rfl (lv_at hl 6 rfl) ?_
          refine lv_iconst (v := nI 5) hx hb dMo_move_110 (by decide) ?_
          refine k_icmp_ne (tgt := 150) hx hb (by omega) (by omega) dMo_move_111 rfl (fun hz => absurd hz (by omega)) (fun h111 => ?_)
          refine lv_iload hx hb dMo_move_114 (lv_at hl 0 rfl) ?_
          refine k_if_ne (tgt := 150) hx hb (by omega) dMo_move_116 rfl (fun h116 => ?_) (fun hz => absurd hz (by omega))
          refine lv_iload hx hb dMo_move_150 (lv_at hl 0 rfl) ?_
          refine k_if_eq (tgt := 180) hx hb (by omega) dMo_move_152 rfl (fun hz => absurd hz (by omega)) (fun h152 => ?_)
          refine lv_aload_n hx hb dMo_move_155 rfl (lv_at hl 3 rfl) ?_
          refine lv_iload hx hb dMo_move_156 (lv_at hl 2 rfl) ?_
          refine kV (rV fx (c_Mo_renew l D ca h ad co (mS M 25 ((3 * s₀) + cn) ak) ((3 * s₀) + cn) (by omega)) ⟨callB_of 1 hts (tb_gi tw_702) rfl rfl rfl (ht _ tw_5) (ht _ tw_699) (by decide +kernel) ⟨(Nat.le_of_ble_eq_true rfl), (Nat.le_of_ble_eq_true rfl)⟩, ht _ tw_701, ht _ tw_848⟩ hE hP hD 0 rfl rfl rfl [0, 1, 2, 3, 4, 5, 6, 7, 8, 9, 10, 11, 12, 13, 14, 15, 16, 17, 18, 19, 20, 21, 22, 23, 24, 25, 26, 27, 28] rfl rfl rfl hl.1 rfl (Nat.le_of_ble_eq_true rfl) dMo_move_158 ⟨(Nat.le_of_ble_eq_true rfl), (Nat.le_of_ble_eq_true rfl)⟩) hP hD hS hA [0, 1, 2, 3, 4, 5, 6, 7, 8, 9, 10, 11, 12, 13, 14, 15, 16, 17, 18, 19, 20, 21, 22, 23, 24, 25, 26, 27, 28] [] rfl rfl rfl (by decide) (fun _ H locs _ hP hD hS => ?_)
          have hP : va_P D cls_ (mW h ad ca co (mRenew (mS M 25 ((3 * s₀) + cn) ak) ((3 * s₀) + cn))) H := hP
          have hD : va_D A (mW h ad ca co (mRenew (mS M 25 ((3 * s₀) + cn) ak) ((3 * s₀) + cn))) := hD
          refine lv_aload_n hx hb dMo_move_161 rfl (lv_at hl 3 rfl) ?_
          refine va_get (D := D) (ci := 4) (v := .ref (ad 23)) (C := RMo) (T := TMo) (N := 29) hx hb ht inMo hown hE.1 hP 0 rfl rfl 23 (by decide) (ht _ tw_610) (fun _ h => h) rfl dMo_move_162 ?_
          refine lv_iload hx hb dMo_move_165 (lv_at hl 2 rfl) ?_
          refine lv_iconst (v := nI 5) hx hb dMo_move_167 (by decide) ?_
          refine k_iast hx hb hE.1 hP hD hS 23 0 (n := 6) (g := ((mRenew (mS M 25 ((3 * s₀) + cn) ak) ((3 * s₀) + cn)) 23)) rfl rfl (i := ((3 * s₀) + cn)) (x := 5) (by omega) (by decide) dMo_move_168 (fun H locs hP hD hS => ?_)
          rw [mo_set_23] at hP hD
          refine lv_aload_n hx hb dMo_move_169 rfl (lv_at hl 3 rfl) ?_
          refine lv_iload_n hx hb dMo_move_170 rfl (lv_at hl 4 rfl) ?_
          refine lv_bipush (v := nI 7) hx hb dMo_move_171 (by decide) ?_
          refine lv_iload_n hx hb dMo_move_173 rfl (lv_at hl 5 rfl) ?_
          refine lv_iconst (v := nI 0) hx hb dMo_move_174 (by decide) ?_
          refine lv_iconst (v := nI 0) hx hb dMo_move_175 (by decide) ?_
          refine lv_iconst (v := nI 0) hx hb dMo_move_176 (by decide) ?_
          refine kV (rV fx (c_Mo_post l D ca h ad co (mS (mRenew (mS M 25 ((3 * s₀) + cn) ak) ((3 * s₀) + cn)) 23 ((3 * s₀) + cn) 5) s₀ 7 cn 0 0 0 (by first | assumption | exact mOk.idle (by assumption) _ | exact mOk.clean (by assumption) _ | exact mOk.renew (by assumption) _ | exact (mOk.renew (by assumption) _).set 23 (show 3 < 6 by decide) | exact (mOk.renew (by assumption) _).set 23 (show 5 < 6 by decide)) (by omega) (by omega) (by omega) (by omega) (by omega) (by omega)) ⟨callB_of 6 hts (tb_gi tw_748) rfl rfl rfl (ht _ tw_5) (ht _ tw_745) (by decide +kernel) ⟨(Nat.le_of_ble_eq_true rfl), (Nat.le_of_ble_eq_true rfl)⟩, ht _ tw_747, ht _ tw_858⟩ hE hP hD 0 rfl rfl rfl [0, 1, 2, 3, 4, 5, 6, 7, 8, 9, 10, 11, 12, 13, 14, 15, 16, 17, 18, 19, 20, 21, 22, 23, 24, 25, 26, 27, 28] rfl rfl rfl hl.1 rfl (Nat.le_of_ble_eq_true rfl) dMo_move_177 ⟨(Nat.le_of_ble_eq_true rfl), (Nat.le_of_ble_eq_true rfl)⟩) hP hD hS hA [0, 1, 2, 3, 4, 5, 6, 7, 8, 9, 10, 11, 12, 13, 14, 15, 16, 17, 18, 19, 20, 21, 22, 23, 24, 25, 26, 27, 28] [] rfl rfl rfl (by decide) (fun _ H locs _ hP hD hS => ?_)
          have hP : va_P D cls_ (mW h ad ca co (mPost (mS (mRenew (mS M 25 ((3 * s₀) + cn) ak) ((3 * s₀) + cn)) 23 ((3 * s₀) + cn) 5) s₀ 7 cn 0 0 0)) H := hP
          have hD : va_D A (mW h ad ca co (mPost (mS (mRenew (mS M 25 ((3 * s₀) + cn) ak) ((3 * s₀) + cn)) 23 ((3 * s₀) + cn) 5) s₀ 7 cn 0 0 0)) := hD
          have e9 : mMove M s₀ cn kd nb ak vl = mFault (mS M 25 (3 * s₀ + cn) ak) s₀ cn := (if_neg (by omega)).trans (if_pos (by omega))
          exact Co.retv hx hb hret hlk dMo_move_180 hS hP hD () rfl trivial (by first | (rw [e9]; done) | (rw [e9]; rfl)) (Nat.le_of_ble_eq_true rfl) (Nat.le_of_ble_eq_true rfl)
  · refine lv_iconst (v := nI 1) hx hb dMo_move_39 (by decide) ?_
    refine lv_goto (tgt := 44) hx hb dMo_move_40 rfl ?_
    refine lv_istore hx hb dMo_move_44 hl (by decide) rfl (fun ls hl => ?_)
    have hl : lv_has ls 10 [(8, .int (nI 1)), (7, .int (nI ((3 * s₀) + cn))), (0, .ref h), (1, .int (nI s₀)), (2, .int (nI cn)), (3, .int (nI kd)), (4, .int (nI nb)), (5, .int (nI ak)), (6, .int (nI vl))] := hl
    refine lv_iload hx hb dMo_move_46 (lv_at hl 0 rfl) ?_
    refine k_if_ne (tgt := 150) hx hb (by omega) dMo_move_48 rfl (fun h48 => ?_) (fun hz => absurd hz (by omega))
    refine lv_iload hx hb dMo_move_150 (lv_at hl 0 rfl) ?_
    refine k_if_eq (tgt := 180) hx hb (by omega) dMo_move_152 rfl (fun hz => absurd hz (by omega)) (fun h152 => ?_)
    refine lv_aload_n hx hb dMo_move_155 rfl (lv_at hl 2 rfl) ?_
    refine lv_iload hx hb dMo_move_156 (lv_at hl 1 rfl) ?_
    refine kV (rV fx (c_Mo_renew l D ca h ad co M ((3 * s₀) + cn) (by omega)) ⟨callB_of 1 hts (tb_gi tw_702) rfl rfl rfl (ht _ tw_5) (ht _ tw_699) (by decide +kernel) ⟨(Nat.le_of_ble_eq_true rfl), (Nat.le_of_ble_eq_true rfl)⟩, ht _ tw_701, ht _ tw_848⟩ hE hP hD 0 rfl rfl rfl [0, 1, 2, 3, 4, 5, 6, 7, 8, 9, 10, 11, 12, 13, 14, 15, 16, 17, 18, 19, 20, 21, 22, 23, 24, 25, 26, 27, 28] rfl rfl rfl hl.1 rfl (Nat.le_of_ble_eq_true rfl) dMo_move_158 ⟨(Nat.le_of_ble_eq_true rfl), (Nat.le_of_ble_eq_true rfl)⟩) hP hD hS hA [0, 1, 2, 3, 4, 5, 6, 7, 8, 9, 10, 11, 12, 13, 14, 15, 16, 17, 18, 19, 20, 21, 22, 23, 24, 25, 26, 27, 28] [] rfl rfl rfl (by decide) (fun _ H locs _ hP hD hS => ?_)
    have hP : va_P D cls_ (mW h ad ca co (mRenew M ((3 * s₀) + cn))) H := hP
    have hD : va_D A (mW h ad ca co (mRenew M ((3 * s₀) + cn))) := hD
    refine lv_aload_n hx hb dMo_move_161 rfl (lv_at hl 2 rfl) ?_
    refine va_get (D := D) (ci := 4) (v := .ref (ad 23)) (C := RMo) (T := TMo) (N := 29) hx hb ht inMo hown hE.1 hP 0 rfl rfl 23 (by decide) (ht _ tw_610) (fun _ h => h) rfl dMo_move_162 ?_
    refine lv_iload hx hb dMo_move_165 (lv_at hl 1 rfl) ?_
    refine lv_iconst (v := nI 5) hx hb dMo_move_167 (by decide) ?_
    refine k_iast hx hb hE.1 hP hD hS 23 0 (n := 6) (g := ((mRenew M ((3 * s₀) + cn)) 23)) rfl rfl (i := ((3 * s₀) + cn)) (x := 5) (by omega) (by decide) dMo_move_168 (fun H locs hP hD hS => ?_)
    rw [mo_set_23] at hP hD
    refine lv_aload_n hx hb dMo_move_169 rfl (lv_at hl 2 rfl) ?_
    refine lv_iload_n hx hb dMo_move_170 rfl (lv_at hl 3 rfl) ?_
    refine lv_bipush (v := nI 7) hx hb dMo_move_171 (by decide) ?_
    refine lv_iload_n hx hb dMo_move_173 rfl (lv_at hl 4 rfl) ?_
    refine lv_iconst (v := nI 0) hx hb dMo_move_174 (by decide) ?_
    refine lv_iconst (v := nI 0) hx hb dMo_move_175 (by decide) ?_
    refine lv_iconst (v := nI 0) hx hb dMo_move_176 (by decide) ?_
    refine kV (rV fx (c_Mo_post l D ca h ad co (mS (mRenew M ((3 * s₀) + cn)) 23 ((3 * s₀) + cn) 5) s₀ 7 cn 0 0 0 (by first | assumption | exact mOk.idle (by assumption) _ | exact mOk.clean (by assumption) _ | exact mOk.renew (by assumption) _ | exact (mOk.renew (by assumption) _).set 23 (show 3 < 6 by decide) | exact (mOk.renew (by assumption) _).set 23 (show 5 < 6 by decide)) (by omega) (by omega) (by omega) (by omega) (by omega) (by omega)) ⟨callB_of 6 hts (tb_gi tw_748) rfl rfl rfl (ht _ tw_5) (ht _ tw_745) (by decide +kernel) ⟨(Nat.le_of_ble_eq_true rfl), (Nat.le_of_ble_eq_true rfl)⟩, ht _ tw_747, ht _ tw_858⟩ hE hP hD 0 rfl rfl rfl [0, 1, 2, 3, 4, 5, 6, 7, 8, 9, 10, 11, 12, 13, 14, 15, 16, 17, 18, 19, 20, 21, 22, 23, 24, 25, 26, 27, 28] rfl rfl rfl hl.1 rfl (Nat.le_of_ble_eq_true rfl) dMo_move_177 ⟨(Nat.le_of_ble_eq_true rfl), (Nat.le_of_ble_eq_true rfl)⟩) hP hD hS hA [0, 1, 2, 3, 4, 5, 6, 7, 8, 9, 10, 11, 12, 13, 14, 15, 16, 17, 18, 19, 20, 21, 22, 23, 24, 25, 26, 27, 28] [] rfl rfl rfl (by decide) (fun _ H locs _ hP hD hS => ?_)
    have hP : va_P D cls_ (mW h ad ca co (mPost (mS (mRenew M ((3 * s₀) + cn)) 23 ((3 * s₀) + cn) 5) s₀ 7 cn 0 0 0)) H := hP
    have hD : va_D A (mW h ad ca co (mPost (mS (mRenew M ((3 * s₀) + cn)) 23 ((3 * s₀) + cn) 5) s₀ 7 cn 0 0 0)) := hD
    have e9 : mMove M s₀ cn kd nb ak vl = mFault M s₀ cn := if_pos (by omega)
    exact Co.retv hx hb hret hlk dMo_move_180 hS hP hD () rfl trivial (by first | (rw [e9]; done) | (rw [e9]; rfl)) (Nat.le_of_ble_eq_true rfl) (Nat.le_of_ble_eq_true rfl)
set_option maxHeartbeats 4000000 in
set_option maxRecDepth 100000 in
theorem c_Mo_hear (l : Launch) (D : va_G) (ca : Nat → ClassId) (h : Nat) (ad : Nat → Nat) (co : Nat) (M : Nat → Nat → Nat) (s₀ cn kd nb ak vl : Nat) (hM : mOk M) (hs : s₀ < 2) (hc : cn < 3) (hkd : kd < 1048576) (hnb : nb < 1048576) (ha : ak < 8) (hv : vl < 1048576) (hdt : ds (M 27 (3 * s₀ + cn)) (M 26 (3 * s₀ + cn)) ≤ 2) : Co (S := Unit) l yMo_hear (Cond.code yMo_hear cMo_hear 9 none :: tb_) { frames := 5, cells := 0, slots := 0, locals := 160 } D ca [.ref h, .int (nI s₀), .int (nI cn), .int (nI kd), .int (nI nb), .int (nI ak), .int (nI vl)] (mW h ad ca co M) (fun _ => none) (fun _ => True) (fun _ => (mW h ad ca co (mHear M s₀ cn kd nb ak vl))) 0 0 := by
  refine Co.of cMo_hear 9 none (by decide) (Nat.le_of_ble_eq_true rfl) ?_
  intro p e s m args below meth c A ls fx hret hlk hin hE hP hD hS hA hl
  have hx := fx.1
  have hb := fx.2.1
  have hown : s.vm.findClass RMo = some m.cls := fx.2.2.2.1
  have hts := fx.2.2.2.2
  have ht : ∀ w ∈ tb_, w.before args s = true := fun w h => hts w (List.mem_cons_of_mem _ h)
  have b1 : M 23 (3 * s₀ + cn) < 6 := hM 23 _
  have hl : lv_has ls 9 [(0, .ref h), (1, .int (nI s₀)), (2, .int (nI cn)), (3, .int (nI kd)), (4, .int (nI nb)), (5, .int (nI ak)), (6, .int (nI vl))] := hl
  refine lv_iconst (v := nI 3) hx hb dMo_hear_0 (by decide) ?_
  refine lv_iload_n hx hb dMo_hear_1 rfl (lv_at hl 1 rfl) ?_
  refine k_imul hx hb dMo_hear_2 ?_
  refine lv_iload_n hx hb dMo_hear_3 rfl (lv_at hl 2 rfl) ?_
  refine k_iadd hx hb dMo_hear_4 ?_
  refine lv_istore hx hb dMo_hear_5 hl (by decide) rfl (fun ls hl => ?_)
  have hl : lv_has ls 9 [(7, .int (nI ((3 * s₀) + cn))), (0, .ref h), (1, .int (nI s₀)), (2, .int (nI cn)), (3, .int (nI kd)), (4, .int (nI nb)), (5, .int (nI ak)), (6, .int (nI vl))] := hl
  refine lv_aload_n hx hb dMo_hear_7 rfl (lv_at hl 1 rfl) ?_
  refine va_get (D := D) (ci := 4) (v := .ref (ad 23)) (C := RMo) (T := TMo) (N := 29) hx hb ht inMo hown hE.1 hP 0 rfl rfl 23 (by decide) (ht _ tw_610) (fun _ h => h) rfl dMo_hear_8 ?_
  refine lv_iload hx hb dMo_hear_11 (lv_at hl 0 rfl) ?_
  refine k_iald hx hb hE.1 hP 23 0 (n := 6) (g := (M 23)) rfl rfl (i := ((3 * s₀) + cn)) (by omega) (by decide) dMo_hear_13 ?_
  refine lv_istore hx hb dMo_hear_14 hl (by decide) rfl (fun ls hl => ?_)
  have hl : lv_has ls 9 [(8, .int (nI (M 23 ((3 * s₀) + cn)))), (7, .int (nI ((3 * s₀) + cn))), (0, .ref h), (1, .int (nI s₀)), (2, .int (nI cn)), (3, .int (nI kd)), (4, .int (nI nb)), (5, .int (nI ak)), (6, .int (nI vl))] := hl
  refine lv_iload_n hx hb dMo_hear_16 rfl (lv_at hl 5 rfl) ?_
  rcases (show kd = 1 ∨ kd = 2 ∨ kd = 3 ∨ kd = 4 ∨ kd = 5 ∨ kd = 6 ∨ kd = 7 ∨ kd = 8 ∨ (kd < 1 ∨ 8 < kd) by omega) with h17 | h17 | h17 | h17 | h17 | h17 | h17 | h17 | h17
  · refine k_tab (tgt := 64) hx hb 1 h17 dMo_hear_17 (by decide) (by decide) rfl rfl ?_
    refine lv_aload_n hx hb dMo_hear_64 rfl (lv_at hl 2 rfl) ?_
    refine va_get (D := D) (ci := 4) (v := .ref (ad 23)) (C := RMo) (T := TMo) (N := 29) hx hb ht inMo hown hE.1 hP 0 rfl rfl 23 (by decide) (ht _ tw_610) (fun _ h => h) rfl dMo_hear_65 ?_
    refine lv_iload hx hb dMo_hear_68 (lv_at hl 1 rfl) ?_
    refine lv_iload hx hb dMo_hear_70 (lv_at hl 0 rfl) ?_
    refine k_if_eq (tgt := 86) hx hb (by omega) dMo_hear_72 rfl (fun h72 => ?_) (fun h72 => ?_)
    · refine lv_iconst (v := nI 2) hx hb dMo_hear_86 (by decide) ?_
      refine lv_goto (tgt := 92) hx hb dMo_hear_87 rfl ?_
      refine k_iast hx hb hE.1 hP hD hS 23 0 (n := 6) (g := (M 23)) rfl rfl (i := ((3 * s₀) + cn)) (x := 2) (by omega) (by decide) dMo_hear_92 (fun H locs hP hD hS => ?_)
      rw [mo_set_23] at hP hD
      refine lv_goto (tgt := 251) hx hb dMo_hear_93 rfl ?_
      have e9 : mHear M s₀ cn kd nb ak vl = mS M 23 ((3 * s₀) + cn) 2 := by rw [mHear, if_pos (by omega), if_pos (by omega)]
      exact Co.retv hx hb hret hlk dMo_hear_251 hS hP hD () rfl trivial (by first | (rw [e9]; done) | (rw [e9]; rfl)) (Nat.le_of_ble_eq_true rfl) (Nat.le_of_ble_eq_true rfl)
    · refine lv_iload hx hb dMo_hear_75 (lv_at hl 0 rfl) ?_
      refine lv_iconst (v := nI 1) hx hb dMo_hear_77 (by decide) ?_
      refine k_icmp_ne (tgt := 90) hx hb (by omega) (by omega) dMo_hear_78 rfl (fun h78 => ?_) (fun h78 => ?_)
      · refine lv_iload hx hb dMo_hear_90 (lv_at hl 0 rfl) ?_
        refine k_iast hx hb hE.1 hP hD hS 23 0 (n := 6) (g := (M 23)) rfl rfl (i := ((3 * s₀) + cn)) (x := (M 23 ((3 * s₀) + cn))) (by omega) (by decide) dMo_hear_92 (fun H locs hP hD hS => ?_)
        rw [mo_set_23] at hP hD
        refine lv_goto (tgt := 251) hx hb dMo_hear_93 rfl ?_
        have e9 : mHear M s₀ cn kd nb ak vl = mS M 23 ((3 * s₀) + cn) (M 23 ((3 * s₀) + cn)) := by rw [mHear, if_pos (by omega), if_neg (by omega)]
        exact Co.retv hx hb hret hlk dMo_hear_251 hS hP hD () rfl trivial (by first | (rw [e9]; done) | (rw [e9]; rfl)) (Nat.le_of_ble_eq_true rfl) (Nat.le_of_ble_eq_true rfl)
      · refine lv_iload_n hx hb dMo_hear_81 rfl (lv_at hl 3 rfl) ?_
        refine lv_iconst (v := nI 1) hx hb dMo_hear_82 (by decide) ?_
        refine k_icmp_ne (tgt := 90) hx hb (by omega) (by omega) dMo_hear_83 rfl (fun h83 => ?_) (fun h83 => ?_)
        · refine lv_iload hx hb dMo_hear_90 (lv_at hl 0 rfl) ?_
          refine k_iast hx hb hE.1 hP hD hS 23 0 (n := 6) (g := (M 23)) rfl rfl (i := ((3 * s₀) + cn)) (x := (M 23 ((3 * s₀) + cn))) (by omega) (by decide) dMo_hear_92 (fun H locs hP hD hS => ?_)
          rw [mo_set_23] at hP hD
          refine lv_goto (tgt := 251) hx hb dMo_hear_93 rfl ?_
          have e9 : mHear M s₀ cn kd nb ak vl = mS M 23 ((3 * s₀) + cn) (M 23 ((3 * s₀) + cn)) := by rw [mHear, if_pos (by omega), if_neg (by omega)]
          exact Co.retv hx hb hret hlk dMo_hear_251 hS hP hD () rfl trivial (by first | (rw [e9]; done) | (rw [e9]; rfl)) (Nat.le_of_ble_eq_true rfl) (Nat.le_of_ble_eq_true rfl)
        · refine lv_iconst (v := nI 2) hx hb dMo_hear_86 (by decide) ?_
          refine lv_goto (tgt := 92) hx hb dMo_hear_87 rfl ?_
          refine k_iast hx hb hE.1 hP hD hS 23 0 (n := 6) (g := (M 23)) rfl rfl (i := ((3 * s₀) + cn)) (x := 2) (by omega) (by decide) dMo_hear_92 (fun H locs hP hD hS => ?_)
          rw [mo_set_23] at hP hD
          refine lv_goto (tgt := 251) hx hb dMo_hear_93 rfl ?_
          have e9 : mHear M s₀ cn kd nb ak vl = mS M 23 ((3 * s₀) + cn) 2 := by rw [mHear, if_pos (by omega), if_pos (by omega)]
          exact Co.retv hx hb hret hlk dMo_hear_251 hS hP hD () rfl trivial (by first | (rw [e9]; done) | (rw [e9]; rfl)) (Nat.le_of_ble_eq_true rfl) (Nat.le_of_ble_eq_true rfl)
  · refine k_tab (tgt := 96) hx hb 2 h17 dMo_hear_17 (by decide) (by decide) rfl rfl ?_
    refine lv_iload hx hb dMo_hear_96 (lv_at hl 0 rfl) ?_
    refine lv_iconst (v := nI 1) hx hb dMo_hear_98 (by decide) ?_
    refine k_icmp_ne (tgt := 251) hx hb (by omega) (by omega) dMo_hear_99 rfl (fun h99 => ?_) (fun h99 => ?_)
    · have e9 : mHear M s₀ cn kd nb ak vl = M := by rw [mHear, if_neg (by omega), if_pos (by omega), if_neg (by omega)]
      exact Co.retv hx hb hret hlk dMo_hear_251 hS hP hD () rfl trivial (by first | (rw [e9]; done) | (rw [e9]; rfl)) (Nat.le_of_ble_eq_true rfl) (Nat.le_of_ble_eq_true rfl)
    · refine lv_aload_n hx hb dMo_hear_102 rfl (lv_at hl 2 rfl) ?_
      refine lv_iload hx hb dMo_hear_103 (lv_at hl 1 rfl) ?_
      refine kV (rV fx (c_Mo_renew l D ca h ad co M ((3 * s₀) + cn) (by omega)) ⟨callB_of 1 hts (tb_gi tw_702) rfl rfl rfl (ht _ tw_5) (ht _ tw_699) (by decide +kernel) ⟨(Nat.le_of_ble_eq_true rfl), (Nat.le_of_ble_eq_true rfl)⟩, ht _ tw_701, ht _ tw_848⟩ hE hP hD 0 rfl rfl rfl [0, 1, 2, 3, 4, 5, 6, 7, 8, 9, 10, 11, 12, 13, 14, 15, 16, 17, 18, 19, 20, 21, 22, 23, 24, 25, 26, 27, 28] rfl rfl rfl hl.1 rfl (Nat.le_of_ble_eq_true rfl) dMo_hear_105 ⟨(Nat.le_of_ble_eq_true rfl), (Nat.le_of_ble_eq_true rfl)⟩) hP hD hS hA [0, 1, 2, 3, 4, 5, 6, 7, 8, 9, 10, 11, 12, 13, 14, 15, 16, 17, 18, 19, 20, 21, 22, 23, 24, 25, 26, 27, 28] [] rfl rfl rfl (by decide) (fun _ H locs _ hP hD hS => ?_)
      have hP : va_P D cls_ (mW h ad ca co (mRenew M ((3 * s₀) + cn))) H := hP
      have hD : va_D A (mW h ad ca co (mRenew M ((3 * s₀) + cn))) := hD
      refine lv_aload_n hx hb dMo_hear_108 rfl (lv_at hl 2 rfl) ?_
      refine va_get (D := D) (ci := 4) (v := .ref (ad 23)) (C := RMo) (T := TMo) (N := 29) hx hb ht inMo hown hE.1 hP 0 rfl rfl 23 (by decide) (ht _ tw_610) (fun _ h => h) rfl dMo_hear_109 ?_
      refine lv_iload hx hb dMo_hear_112 (lv_at hl 1 rfl) ?_
      refine lv_iconst (v := nI 3) hx hb dMo_hear_114 (by decide) ?_
      refine k_iast hx hb hE.1 hP hD hS 23 0 (n := 6) (g := ((mRenew M ((3 * s₀) + cn)) 23)) rfl rfl (i := ((3 * s₀) + cn)) (x := 3) (by omega) (by decide) dMo_hear_115 (fun H locs hP hD hS => ?_)
      rw [mo_set_23] at hP hD
      refine lv_goto (tgt := 251) hx hb dMo_hear_116 rfl ?_
      have e9 : mHear M s₀ cn kd nb ak vl = mS (mRenew M ((3 * s₀) + cn)) 23 ((3 * s₀) + cn) 3 := by rw [mHear, if_neg (by omega), if_pos (by omega), if_pos (by omega)]
      exact Co.retv hx hb hret hlk dMo_hear_251 hS hP hD () rfl trivial (by first | (rw [e9]; done) | (rw [e9]; rfl)) (Nat.le_of_ble_eq_true rfl) (Nat.le_of_ble_eq_true rfl)
  · refine k_tab (tgt := 119) hx hb 3 h17 dMo_hear_17 (by decide) (by decide) rfl rfl ?_
    refine lv_iload hx hb dMo_hear_119 (lv_at hl 0 rfl) ?_
    refine k_if_eq (tgt := 251) hx hb (by omega) dMo_hear_121 rfl (fun h121 => ?_) (fun h121 => ?_)
    · have e9 : mHear M s₀ cn kd nb ak vl = M := by rw [mHear, if_neg (by omega), if_neg (by omega), if_pos (by omega), if_pos (by omega)]
      exact Co.retv hx hb hret hlk dMo_hear_251 hS hP hD () rfl trivial (by first | (rw [e9]; done) | (rw [e9]; rfl)) (Nat.le_of_ble_eq_true rfl) (Nat.le_of_ble_eq_true rfl)
    · refine lv_aload_n hx hb dMo_hear_124 rfl (lv_at hl 2 rfl) ?_
      refine lv_iload hx hb dMo_hear_125 (lv_at hl 1 rfl) ?_
      refine kV (rV fx (c_Mo_idle l D ca h ad co M ((3 * s₀) + cn) (by omega)) ⟨callB_of 1 hts (tb_gi tw_744) rfl rfl rfl (ht _ tw_5) (ht _ tw_741) (by decide +kernel) ⟨(Nat.le_of_ble_eq_true rfl), (Nat.le_of_ble_eq_true rfl)⟩, ht _ tw_743, ht _ tw_857⟩ hE hP hD 0 rfl rfl rfl [0, 1, 2, 3, 4, 5, 6, 7, 8, 9, 10, 11, 12, 13, 14, 15, 16, 17, 18, 19, 20, 21, 22, 23, 24, 25, 26, 27, 28] rfl rfl rfl hl.1 rfl (Nat.le_of_ble_eq_true rfl) dMo_hear_127 ⟨(Nat.le_of_ble_eq_true rfl), (Nat.le_of_ble_eq_true rfl)⟩) hP hD hS hA [0, 1, 2, 3, 4, 5, 6, 7, 8, 9, 10, 11, 12, 13, 14, 15, 16, 17, 18, 19, 20, 21, 22, 23, 24, 25, 26, 27, 28] [] rfl rfl rfl (by decide) (fun _ H locs _ hP hD hS => ?_)
      have hP : va_P D cls_ (mW h ad ca co (mIdle M ((3 * s₀) + cn))) H := hP
      have hD : va_D A (mW h ad ca co (mIdle M ((3 * s₀) + cn))) := hD
      refine lv_iload hx hb dMo_hear_130 (lv_at hl 0 rfl) ?_
      refine lv_iconst (v := nI 4) hx hb dMo_hear_132 (by decide) ?_
      refine k_icmp_eq (tgt := 251) hx hb (by omega) (by omega) dMo_hear_133 rfl (fun h133 => ?_) (fun h133 => ?_)
      · have e9 : mHear M s₀ cn kd nb ak vl = mIdle M ((3 * s₀) + cn) := by rw [mHear, if_neg (by omega), if_neg (by omega), if_pos (by omega), if_neg (by omega), if_pos (by omega)]
        exact Co.retv hx hb hret hlk dMo_hear_251 hS hP hD () rfl trivial (by first | (rw [e9]; done) | (rw [e9]; rfl)) (Nat.le_of_ble_eq_true rfl) (Nat.le_of_ble_eq_true rfl)
      · refine lv_aload_n hx hb dMo_hear_136 rfl (lv_at hl 2 rfl) ?_
        refine lv_iload_n hx hb dMo_hear_137 rfl (lv_at hl 3 rfl) ?_
        refine lv_iconst (v := nI 4) hx hb dMo_hear_138 (by decide) ?_
        refine lv_iload_n hx hb dMo_hear_139 rfl (lv_at hl 4 rfl) ?_
        refine lv_iconst (v := nI 0) hx hb dMo_hear_140 (by decide) ?_
        refine lv_iconst (v := nI 0) hx hb dMo_hear_141 (by decide) ?_
        refine lv_iconst (v := nI 0) hx hb dMo_hear_142 (by decide) ?_
        refine kV (rV fx (c_Mo_post l D ca h ad co (mIdle M ((3 * s₀) + cn)) s₀ 4 cn 0 0 0 (by first | assumption | exact mOk.idle (by assumption) _ | exact mOk.clean (by assumption) _ | exact mOk.renew (by assumption) _ | exact (mOk.renew (by assumption) _).set 23 (show 3 < 6 by decide) | exact (mOk.renew (by assumption) _).set 23 (show 5 < 6 by decide)) (by omega) (by omega) (by omega) (by omega) (by omega) (by omega)) ⟨callB_of 6 hts (tb_gi tw_748) rfl rfl rfl (ht _ tw_5) (ht _ tw_745) (by decide +kernel) ⟨(Nat.le_of_ble_eq_true rfl), (Nat.le_of_ble_eq_true rfl)⟩, ht _ tw_747, ht _ tw_858⟩ hE hP hD 0 rfl rfl rfl [0, 1, 2, 3, 4, 5, 6, 7, 8, 9, 10, 11, 12, 13, 14, 15, 16, 17, 18, 19, 20, 21, 22, 23, 24, 25, 26, 27, 28] rfl rfl rfl hl.1 rfl (Nat.le_of_ble_eq_true rfl) dMo_hear_143 ⟨(Nat.le_of_ble_eq_true rfl), (Nat.le_of_ble_eq_true rfl)⟩) hP hD hS hA [0, 1, 2, 3, 4, 5, 6, 7, 8, 9, 10, 11, 12, 13, 14, 15, 16, 17, 18, 19, 20, 21, 22, 23, 24, 25, 26, 27, 28] [] rfl rfl rfl (by decide) (fun _ H locs _ hP hD hS => ?_)
        have hP : va_P D cls_ (mW h ad ca co (mPost (mIdle M ((3 * s₀) + cn)) s₀ 4 cn 0 0 0)) H := hP
        have hD : va_D A (mW h ad ca co (mPost (mIdle M ((3 * s₀) + cn)) s₀ 4 cn 0 0 0)) := hD
        refine lv_goto (tgt := 251) hx hb dMo_hear_146 rfl ?_
        have e9 : mHear M s₀ cn kd nb ak vl = mPost (mIdle M ((3 * s₀) + cn)) s₀ 4 cn 0 0 0 := by rw [mHear, if_neg (by omega), if_neg (by omega), if_pos (by omega), if_neg (by omega), if_neg (by omega)]
        exact Co.retv hx hb hret hlk dMo_hear_251 hS hP hD () rfl trivial (by first | (rw [e9]; done) | (rw [e9]; rfl)) (Nat.le_of_ble_eq_true rfl) (Nat.le_of_ble_eq_true rfl)
  · refine k_tab (tgt := 149) hx hb 4 h17 dMo_hear_17 (by decide) (by decide) rfl rfl ?_
    refine lv_iload hx hb dMo_hear_149 (lv_at hl 0 rfl) ?_
    refine lv_iconst (v := nI 4) hx hb dMo_hear_151 (by decide) ?_
    refine k_icmp_ne (tgt := 251) hx hb (by omega) (by omega) dMo_hear_152 rfl (fun h152 => ?_) (fun h152 => ?_)
    · have e9 : mHear M s₀ cn kd nb ak vl = M := by rw [mHear, if_neg (by omega), if_neg (by omega), if_neg (by omega), if_pos (by omega), if_neg (by omega)]
      exact Co.retv hx hb hret hlk dMo_hear_251 hS hP hD () rfl trivial (by first | (rw [e9]; done) | (rw [e9]; rfl)) (Nat.le_of_ble_eq_true rfl) (Nat.le_of_ble_eq_true rfl)
    · refine lv_aload_n hx hb dMo_hear_155 rfl (lv_at hl 2 rfl) ?_
      refine lv_iload hx hb dMo_hear_156 (lv_at hl 1 rfl) ?_
      refine kV (rV fx (c_Mo_idle l D ca h ad co M ((3 * s₀) + cn) (by omega)) ⟨callB_of 1 hts (tb_gi tw_744) rfl rfl rfl (ht _ tw_5) (ht _ tw_741) (by decide +kernel) ⟨(Nat.le_of_ble_eq_true rfl), (Nat.le_of_ble_eq_true rfl)⟩, ht _ tw_743, ht _ tw_857⟩ hE hP hD 0 rfl rfl rfl [0, 1, 2, 3, 4, 5, 6, 7, 8, 9, 10, 11, 12, 13, 14, 15, 16, 17, 18, 19, 20, 21, 22, 23, 24, 25, 26, 27, 28] rfl rfl rfl hl.1 rfl (Nat.le_of_ble_eq_true rfl) dMo_hear_158 ⟨(Nat.le_of_ble_eq_true rfl), (Nat.le_of_ble_eq_true rfl)⟩) hP hD hS hA [0, 1, 2, 3, 4, 5, 6, 7, 8, 9, 10, 11, 12, 13, 14, 15, 16, 17, 18, 19, 20, 21, 22, 23, 24, 25, 26, 27, 28] [] rfl rfl rfl (by decide) (fun _ H locs _ hP hD hS => ?_)
      have hP : va_P D cls_ (mW h ad ca co (mIdle M ((3 * s₀) + cn))) H := hP
      have hD : va_D A (mW h ad ca co (mIdle M ((3 * s₀) + cn))) := hD
      refine lv_goto (tgt := 251) hx hb dMo_hear_161 rfl ?_
      have e9 : mHear M s₀ cn kd nb ak vl = mIdle M ((3 * s₀) + cn) := by rw [mHear, if_neg (by omega), if_neg (by omega), if_neg (by omega), if_pos (by omega), if_pos (by omega)]
      exact Co.retv hx hb hret hlk dMo_hear_251 hS hP hD () rfl trivial (by first | (rw [e9]; done) | (rw [e9]; rfl)) (Nat.le_of_ble_eq_true rfl) (Nat.le_of_ble_eq_true rfl)
  · refine k_tab (tgt := 232) hx hb 5 h17 dMo_hear_17 (by decide) (by decide) rfl rfl ?_
    refine lv_iload hx hb dMo_hear_232 (lv_at hl 0 rfl) ?_
    refine lv_iconst (v := nI 3) hx hb dMo_hear_234 (by decide) ?_
    refine k_icmp_ne (tgt := 251) hx hb (by omega) (by omega) dMo_hear_235 rfl (fun h235 => ?_) (fun h235 => ?_)
    · have e9 : mHear M s₀ cn kd nb ak vl = M := by rw [mHear, if_neg (by omega), if_neg (by omega), if_neg (by omega), if_neg (by omega), if_neg (by omega), if_neg (by omega), if_neg (by omega)]
      exact Co.retv hx hb hret hlk dMo_hear_251 hS hP hD () rfl trivial (by first | (rw [e9]; done) | (rw [e9]; rfl)) (Nat.le_of_ble_eq_true rfl) (Nat.le_of_ble_eq_true rfl)
    · refine lv_aload_n hx hb dMo_hear_238 rfl (lv_at hl 2 rfl) ?_
      refine lv_iload_n hx hb dMo_hear_239 rfl (lv_at hl 3 rfl) ?_
      refine lv_iload_n hx hb dMo_hear_240 rfl (lv_at hl 4 rfl) ?_
      refine lv_iload_n hx hb dMo_hear_241 rfl (lv_at hl 5 rfl) ?_
      refine lv_iload hx hb dMo_hear_242 (lv_at hl 6 rfl) ?_
      refine lv_iload hx hb dMo_hear_244 (lv_at hl 7 rfl) ?_
      refine lv_iload hx hb dMo_hear_246 (lv_at hl 8 rfl) ?_
      refine kV (rV fx (c_Mo_move l D ca h ad co M s₀ cn kd nb ak vl (by first | assumption | exact mOk.idle (by assumption) _ | exact mOk.clean (by assumption) _ | exact mOk.renew (by assumption) _ | exact (mOk.renew (by assumption) _).set 23 (show 3 < 6 by decide) | exact (mOk.renew (by assumption) _).set 23 (show 5 < 6 by decide)) (by omega) (by omega) (by omega) (by omega) (by omega) (by omega) (by assumption)) ⟨callB_of 6 hts (tb_gi tw_756) rfl rfl rfl (ht _ tw_5) (ht _ tw_753) (by decide +kernel) ⟨(Nat.le_of_ble_eq_true rfl), (Nat.le_of_ble_eq_true rfl)⟩, ht _ tw_755, ht _ tw_860⟩ hE hP hD 0 rfl rfl rfl [0, 1, 2, 3, 4, 5, 6, 7, 8, 9, 10, 11, 12, 13, 14, 15, 16, 17, 18, 19, 20, 21, 22, 23, 24, 25, 26, 27, 28] rfl rfl rfl hl.1 rfl (Nat.le_of_ble_eq_true rfl) dMo_hear_248 ⟨(Nat.le_of_ble_eq_true rfl), (Nat.le_of_ble_eq_true rfl)⟩) hP hD hS hA [0, 1, 2, 3, 4, 5, 6, 7, 8, 9, 10, 11, 12, 13, 14, 15, 16, 17, 18, 19, 20, 21, 22, 23, 24, 25, 26, 27, 28] [] rfl rfl rfl (by decide) (fun _ H locs _ hP hD hS => ?_)
      have hP : va_P D cls_ (mW h ad ca co (mMove M s₀ cn kd nb ak vl)) H := hP
      have hD : va_D A (mW h ad ca co (mMove M s₀ cn kd nb ak vl)) := hD
      have e9 : mHear M s₀ cn kd nb ak vl = mMove M s₀ cn kd nb ak vl := by rw [mHear, if_neg (by omega), if_neg (by omega), if_neg (by omega), if_neg (by omega), if_neg (by omega), if_neg (by omega), if_pos (by omega)]
      exact Co.retv hx hb hret hlk dMo_hear_251 hS hP hD () rfl trivial (by first | (rw [e9]; done) | (rw [e9]; rfl)) (Nat.le_of_ble_eq_true rfl) (Nat.le_of_ble_eq_true rfl)
  · refine k_tab (tgt := 232) hx hb 6 h17 dMo_hear_17 (by decide) (by decide) rfl rfl ?_
    refine lv_iload hx hb dMo_hear_232 (lv_at hl 0 rfl) ?_
    refine lv_iconst (v := nI 3) hx hb dMo_hear_234 (by decide) ?_
    refine k_icmp_ne (tgt := 251) hx hb (by omega) (by omega) dMo_hear_235 rfl (fun h235 => ?_) (fun h235 => ?_)
    · have e9 : mHear M s₀ cn kd nb ak vl = M := by rw [mHear, if_neg (by omega), if_neg (by omega), if_neg (by omega), if_neg (by omega), if_neg (by omega), if_neg (by omega), if_neg (by omega)]
      exact Co.retv hx hb hret hlk dMo_hear_251 hS hP hD () rfl trivial (by first | (rw [e9]; done) | (rw [e9]; rfl)) (Nat.le_of_ble_eq_true rfl) (Nat.le_of_ble_eq_true rfl)
    · refine lv_aload_n hx hb dMo_hear_238 rfl (lv_at hl 2 rfl) ?_
      refine lv_iload_n hx hb dMo_hear_239 rfl (lv_at hl 3 rfl) ?_
      refine lv_iload_n hx hb dMo_hear_240 rfl (lv_at hl 4 rfl) ?_
      refine lv_iload_n hx hb dMo_hear_241 rfl (lv_at hl 5 rfl) ?_
      refine lv_iload hx hb dMo_hear_242 (lv_at hl 6 rfl) ?_
      refine lv_iload hx hb dMo_hear_244 (lv_at hl 7 rfl) ?_
      refine lv_iload hx hb dMo_hear_246 (lv_at hl 8 rfl) ?_
      refine kV (rV fx (c_Mo_move l D ca h ad co M s₀ cn kd nb ak vl (by first | assumption | exact mOk.idle (by assumption) _ | exact mOk.clean (by assumption) _ | exact mOk.renew (by assumption) _ | exact (mOk.renew (by assumption) _).set 23 (show 3 < 6 by decide) | exact (mOk.renew (by assumption) _).set 23 (show 5 < 6 by decide)) (by omega) (by omega) (by omega) (by omega) (by omega) (by omega) (by assumption)) ⟨callB_of 6 hts (tb_gi tw_756) rfl rfl rfl (ht _ tw_5) (ht _ tw_753) (by decide +kernel) ⟨(Nat.le_of_ble_eq_true rfl), (Nat.le_of_ble_eq_true rfl)⟩, ht _ tw_755, ht _ tw_860⟩ hE hP hD 0 rfl rfl rfl [0, 1, 2, 3, 4, 5, 6, 7, 8, 9, 10, 11, 12, 13, 14, 15, 16, 17, 18, 19, 20, 21, 22, 23, 24, 25, 26, 27, 28] rfl rfl rfl hl.1 rfl (Nat.le_of_ble_eq_true rfl) dMo_hear_248 ⟨(Nat.le_of_ble_eq_true rfl), (Nat.le_of_ble_eq_true rfl)⟩) hP hD hS hA [0, 1, 2, 3, 4, 5, 6, 7, 8, 9, 10, 11, 12, 13, 14, 15, 16, 17, 18, 19, 20, 21, 22, 23, 24, 25, 26, 27, 28] [] rfl rfl rfl (by decide) (fun _ H locs _ hP hD hS => ?_)
      have hP : va_P D cls_ (mW h ad ca co (mMove M s₀ cn kd nb ak vl)) H := hP
      have hD : va_D A (mW h ad ca co (mMove M s₀ cn kd nb ak vl)) := hD
      have e9 : mHear M s₀ cn kd nb ak vl = mMove M s₀ cn kd nb ak vl := by rw [mHear, if_neg (by omega), if_neg (by omega), if_neg (by omega), if_neg (by omega), if_neg (by omega), if_neg (by omega), if_pos (by omega)]
      exact Co.retv hx hb hret hlk dMo_hear_251 hS hP hD () rfl trivial (by first | (rw [e9]; done) | (rw [e9]; rfl)) (Nat.le_of_ble_eq_true rfl) (Nat.le_of_ble_eq_true rfl)
  · refine k_tab (tgt := 164) hx hb 7 h17 dMo_hear_17 (by decide) (by decide) rfl rfl ?_
    refine lv_iload hx hb dMo_hear_164 (lv_at hl 0 rfl) ?_
    refine lv_iconst (v := nI 3) hx hb dMo_hear_166 (by decide) ?_
    refine k_icmp_eq (tgt := 176) hx hb (by omega) (by omega) dMo_hear_167 rfl (fun h167 => ?_) (fun h167 => ?_)
    · refine lv_aload_n hx hb dMo_hear_176 rfl (lv_at hl 2 rfl) ?_
      refine lv_iload hx hb dMo_hear_177 (lv_at hl 1 rfl) ?_
      refine kV (rV fx (c_Mo_renew l D ca h ad co M ((3 * s₀) + cn) (by omega)) ⟨callB_of 1 hts (tb_gi tw_702) rfl rfl rfl (ht _ tw_5) (ht _ tw_699) (by decide +kernel) ⟨(Nat.le_of_ble_eq_true rfl), (Nat.le_of_ble_eq_true rfl)⟩, ht _ tw_701, ht _ tw_848⟩ hE hP hD 0 rfl rfl rfl [0, 1, 2, 3, 4, 5, 6, 7, 8, 9, 10, 11, 12, 13, 14, 15, 16, 17, 18, 19, 20, 21, 22, 23, 24, 25, 26, 27, 28] rfl rfl rfl hl.1 rfl (Nat.le_of_ble_eq_true rfl) dMo_hear_179 ⟨(Nat.le_of_ble_eq_true rfl), (Nat.le_of_ble_eq_true rfl)⟩) hP hD hS hA [0, 1, 2, 3, 4, 5, 6, 7, 8, 9, 10, 11, 12, 13, 14, 15, 16, 17, 18, 19, 20, 21, 22, 23, 24, 25, 26, 27, 28] [] rfl rfl rfl (by decide) (fun _ H locs _ hP hD hS => ?_)
      have hP : va_P D cls_ (mW h ad ca co (mRenew M ((3 * s₀) + cn))) H := hP
      have hD : va_D A (mW h ad ca co (mRenew M ((3 * s₀) + cn))) := hD
      refine lv_aload_n hx hb dMo_hear_182 rfl (lv_at hl 2 rfl) ?_
      refine va_get (D := D) (ci := 4) (v := .ref (ad 23)) (C := RMo) (T := TMo) (N := 29) hx hb ht inMo hown hE.1 hP 0 rfl rfl 23 (by decide) (ht _ tw_610) (fun _ h => h) rfl dMo_hear_183 ?_
      refine lv_iload hx hb dMo_hear_186 (lv_at hl 1 rfl) ?_
      refine lv_iconst (v := nI 3) hx hb dMo_hear_188 (by decide) ?_
      refine k_iast hx hb hE.1 hP hD hS 23 0 (n := 6) (g := ((mRenew M ((3 * s₀) + cn)) 23)) rfl rfl (i := ((3 * s₀) + cn)) (x := 3) (by omega) (by decide) dMo_hear_189 (fun H locs hP hD hS => ?_)
      rw [mo_set_23] at hP hD
      refine lv_iload hx hb dMo_hear_190 (lv_at hl 0 rfl) ?_
      refine lv_iconst (v := nI 3) hx hb dMo_hear_192 (by decide) ?_
      refine k_icmp_ne (tgt := 251) hx hb (by omega) (by omega) dMo_hear_193 rfl (fun hz => absurd hz (by omega)) (fun h193 => ?_)
      refine lv_aload_n hx hb dMo_hear_196 rfl (lv_at hl 2 rfl) ?_
      refine lv_iload_n hx hb dMo_hear_197 rfl (lv_at hl 3 rfl) ?_
      refine lv_bipush (v := nI 8) hx hb dMo_hear_198 (by decide) ?_
      refine lv_iload_n hx hb dMo_hear_200 rfl (lv_at hl 4 rfl) ?_
      refine lv_iconst (v := nI 0) hx hb dMo_hear_201 (by decide) ?_
      refine lv_iconst (v := nI 0) hx hb dMo_hear_202 (by decide) ?_
      refine lv_iconst (v := nI 0) hx hb dMo_hear_203 (by decide) ?_
      refine kV (rV fx (c_Mo_post l D ca h ad co (mS (mRenew M ((3 * s₀) + cn)) 23 ((3 * s₀) + cn) 3) s₀ 8 cn 0 0 0 (by first | assumption | exact mOk.idle (by assumption) _ | exact mOk.clean (by assumption) _ | exact mOk.renew (by assumption) _ | exact (mOk.renew (by assumption) _).set 23 (show 3 < 6 by decide) | exact (mOk.renew (by assumption) _).set 23 (show 5 < 6 by decide)) (by omega) (by omega) (by omega) (by omega) (by omega) (by omega)) ⟨callB_of 6 hts (tb_gi tw_748) rfl rfl rfl (ht _ tw_5) (ht _ tw_745) (by decide +kernel) ⟨(Nat.le_of_ble_eq_true rfl), (Nat.le_of_ble_eq_true rfl)⟩, ht _ tw_747, ht _ tw_858⟩ hE hP hD 0 rfl rfl rfl [0, 1, 2, 3, 4, 5, 6, 7, 8, 9, 10, 11, 12, 13, 14, 15, 16, 17, 18, 19, 20, 21, 22, 23, 24, 25, 26, 27, 28] rfl rfl rfl hl.1 rfl (Nat.le_of_ble_eq_true rfl) dMo_hear_204 ⟨(Nat.le_of_ble_eq_true rfl), (Nat.le_of_ble_eq_true rfl)⟩) hP hD hS hA [0, 1, 2, 3, 4, 5, 6, 7, 8, 9, 10, 11, 12, 13, 14, 15, 16, 17, 18, 19, 20, 21, 22, 23, 24, 25, 26, 27, 28] [] rfl rfl rfl (by decide) (fun _ H locs _ hP hD hS => ?_)
      have hP : va_P D cls_ (mW h ad ca co (mPost (mS (mRenew M ((3 * s₀) + cn)) 23 ((3 * s₀) + cn) 3) s₀ 8 cn 0 0 0)) H := hP
      have hD : va_D A (mW h ad ca co (mPost (mS (mRenew M ((3 * s₀) + cn)) 23 ((3 * s₀) + cn) 3) s₀ 8 cn 0 0 0)) := hD
      refine lv_goto (tgt := 251) hx hb dMo_hear_207 rfl ?_
      have e9 : mHear M s₀ cn kd nb ak vl = mPost (mS (mRenew M ((3 * s₀) + cn)) 23 ((3 * s₀) + cn) 3) s₀ 8 cn 0 0 0 := by rw [mHear, if_neg (by omega), if_neg (by omega), if_neg (by omega), if_neg (by omega), if_pos (by omega), if_pos (by omega)]
      exact Co.retv hx hb hret hlk dMo_hear_251 hS hP hD () rfl trivial (by first | (rw [e9]; done) | (rw [e9]; rfl)) (Nat.le_of_ble_eq_true rfl) (Nat.le_of_ble_eq_true rfl)
    · refine lv_iload hx hb dMo_hear_170 (lv_at hl 0 rfl) ?_
      refine lv_iconst (v := nI 5) hx hb dMo_hear_172 (by decide) ?_
      refine k_icmp_ne (tgt := 190) hx hb (by omega) (by omega) dMo_hear_173 rfl (fun h173 => ?_) (fun h173 => ?_)
      · refine lv_iload hx hb dMo_hear_190 (lv_at hl 0 rfl) ?_
        refine lv_iconst (v := nI 3) hx hb dMo_hear_192 (by decide) ?_
        refine k_icmp_ne (tgt := 251) hx hb (by omega) (by omega) dMo_hear_193 rfl (fun h193 => ?_) (fun hz => absurd hz (by omega))
        have e9 : mHear M s₀ cn kd nb ak vl = M := by rw [mHear, if_neg (by omega), if_neg (by omega), if_neg (by omega), if_neg (by omega), if_pos (by omega), if_neg (by omega), if_neg (by omega)]
        exact Co.retv hx hb hret hlk dMo_hear_251 hS hP hD () rfl trivial (by first | (rw [e9]; done) | (rw [e9]; rfl)) (Nat.le_of_ble_eq_true rfl) (Nat.le_of_ble_eq_true rfl)
      · refine lv_aload_n hx hb dMo_hear_176 rfl (lv_at hl 2 rfl) ?_
        refine lv_iload hx hb dMo_hear_177 (lv_at hl 1 rfl) ?_
        refine kV (rV fx (c_Mo_renew l D ca h ad co M ((3 * s₀) + cn) (by omega)) ⟨callB_of 1 hts (tb_gi tw_702) rfl rfl rfl (ht _ tw_5) (ht _ tw_699) (by decide +kernel) ⟨(Nat.le_of_ble_eq_true rfl), (Nat.le_of_ble_eq_true rfl)⟩, ht _ tw_701, ht _ tw_848⟩ hE hP hD 0 rfl rfl rfl [0, 1, 2, 3, 4, 5, 6, 7, 8, 9, 10, 11, 12, 13, 14, 15, 16, 17, 18, 19, 20, 21, 22, 23, 24, 25, 26, 27, 28] rfl rfl rfl hl.1 rfl (Nat.le_of_ble_eq_true rfl) dMo_hear_179 ⟨(Nat.le_of_ble_eq_true rfl), (Nat.le_of_ble_eq_true rfl)⟩) hP hD hS hA [0, 1, 2, 3, 4, 5, 6, 7, 8, 9, 10, 11, 12, 13, 14, 15, 16, 17, 18, 19, 20, 21, 22, 23, 24, 25, 26, 27, 28] [] rfl rfl rfl (by decide) (fun _ H locs _ hP hD hS => ?_)
        have hP : va_P D cls_ (mW h ad ca co (mRenew M ((3 * s₀) + cn))) H := hP
        have hD : va_D A (mW h ad ca co (mRenew M ((3 * s₀) + cn))) := hD
        refine lv_aload_n hx hb dMo_hear_182 rfl (lv_at hl 2 rfl) ?_
        refine va_get (D := D) (ci := 4) (v := .ref (ad 23)) (C := RMo) (T := TMo) (N := 29) hx hb ht inMo hown hE.1 hP 0 rfl rfl 23 (by decide) (ht _ tw_610) (fun _ h => h) rfl dMo_hear_183 ?_
        refine lv_iload hx hb dMo_hear_186 (lv_at hl 1 rfl) ?_
        refine lv_iconst (v := nI 3) hx hb dMo_hear_188 (by decide) ?_
        refine k_iast hx hb hE.1 hP hD hS 23 0 (n := 6) (g := ((mRenew M ((3 * s₀) + cn)) 23)) rfl rfl (i := ((3 * s₀) + cn)) (x := 3) (by omega) (by decide) dMo_hear_189 (fun H locs hP hD hS => ?_)
        rw [mo_set_23] at hP hD
        refine lv_iload hx hb dMo_hear_190 (lv_at hl 0 rfl) ?_
        refine lv_iconst (v := nI 3) hx hb dMo_hear_192 (by decide) ?_
        refine k_icmp_ne (tgt := 251) hx hb (by omega) (by omega) dMo_hear_193 rfl (fun h193 => ?_) (fun hz => absurd hz (by omega))
        have e9 : mHear M s₀ cn kd nb ak vl = mS (mRenew M ((3 * s₀) + cn)) 23 ((3 * s₀) + cn) 3 := by rw [mHear, if_neg (by omega), if_neg (by omega), if_neg (by omega), if_neg (by omega), if_pos (by omega), if_neg (by omega), if_pos (by omega)]
        exact Co.retv hx hb hret hlk dMo_hear_251 hS hP hD () rfl trivial (by first | (rw [e9]; done) | (rw [e9]; rfl)) (Nat.le_of_ble_eq_true rfl) (Nat.le_of_ble_eq_true rfl)
  · refine k_tab (tgt := 210) hx hb 8 h17 dMo_hear_17 (by decide) (by decide) rfl rfl ?_
    refine lv_aload_n hx hb dMo_hear_210 rfl (lv_at hl 2 rfl) ?_
    refine va_get (D := D) (ci := 4) (v := .ref (ad 23)) (C := RMo) (T := TMo) (N := 29) hx hb ht inMo hown hE.1 hP 0 rfl rfl 23 (by decide) (ht _ tw_610) (fun _ h => h) rfl dMo_hear_211 ?_
    refine lv_iload hx hb dMo_hear_214 (lv_at hl 1 rfl) ?_
    refine lv_iload hx hb dMo_hear_216 (lv_at hl 0 rfl) ?_
    refine lv_iconst (v := nI 5) hx hb dMo_hear_218 (by decide) ?_
    refine k_icmp_ne (tgt := 226) hx hb (by omega) (by omega) dMo_hear_219 rfl (fun h219 => ?_) (fun h219 => ?_)
    · refine lv_iload hx hb dMo_hear_226 (lv_at hl 0 rfl) ?_
      refine k_iast hx hb hE.1 hP hD hS 23 0 (n := 6) (g := (M 23)) rfl rfl (i := ((3 * s₀) + cn)) (x := (M 23 ((3 * s₀) + cn))) (by omega) (by decide) dMo_hear_228 (fun H locs hP hD hS => ?_)
      rw [mo_set_23] at hP hD
      refine lv_goto (tgt := 251) hx hb dMo_hear_229 rfl ?_
      have e9 : mHear M s₀ cn kd nb ak vl = mS M 23 ((3 * s₀) + cn) (M 23 ((3 * s₀) + cn)) := by rw [mHear, if_neg (by omega), if_neg (by omega), if_neg (by omega), if_neg (by omega), if_neg (by omega), if_pos (by omega), if_neg (by omega)]
      exact Co.retv hx hb hret hlk dMo_hear_251 hS hP hD () rfl trivial (by first | (rw [e9]; done) | (rw [e9]; rfl)) (Nat.le_of_ble_eq_true rfl) (Nat.le_of_ble_eq_true rfl)
    · refine lv_iconst (v := nI 3) hx hb dMo_hear_222 (by decide) ?_
      refine lv_goto (tgt := 228) hx hb dMo_hear_223 rfl ?_
      refine k_iast hx hb hE.1 hP hD hS 23 0 (n := 6) (g := (M 23)) rfl rfl (i := ((3 * s₀) + cn)) (x := 3) (by omega) (by decide) dMo_hear_228 (fun H locs hP hD hS => ?_)
      rw [mo_set_23] at hP hD
      refine lv_goto (tgt := 251) hx hb dMo_hear_229 rfl ?_
      have e9 : mHear M s₀ cn kd nb ak vl = mS M 23 ((3 * s₀) + cn) 3 := by rw [mHear, if_neg (by omega), if_neg (by omega), if_neg (by omega), if_neg (by omega), if_neg (by omega), if_pos (by omega), if_pos (by omega)]
      exact Co.retv hx hb hret hlk dMo_hear_251 hS hP hD () rfl trivial (by first | (rw [e9]; done) | (rw [e9]; rfl)) (Nat.le_of_ble_eq_true rfl) (Nat.le_of_ble_eq_true rfl)
  · refine k_tabD (tgt := 232) hx hb (by omega) dMo_hear_17 (by omega) rfl ?_
    refine lv_iload hx hb dMo_hear_232 (lv_at hl 0 rfl) ?_
    refine lv_iconst (v := nI 3) hx hb dMo_hear_234 (by decide) ?_
    refine k_icmp_ne (tgt := 251) hx hb (by omega) (by omega) dMo_hear_235 rfl (fun h235 => ?_) (fun h235 => ?_)
    · have e9 : mHear M s₀ cn kd nb ak vl = M := by rw [mHear, if_neg (by omega), if_neg (by omega), if_neg (by omega), if_neg (by omega), if_neg (by omega), if_neg (by omega), if_neg (by omega)]
      exact Co.retv hx hb hret hlk dMo_hear_251 hS hP hD () rfl trivial (by first | (rw [e9]; done) | (rw [e9]; rfl)) (Nat.le_of_ble_eq_true rfl) (Nat.le_of_ble_eq_true rfl)
    · refine lv_aload_n hx hb dMo_hear_238 rfl (lv_at hl 2 rfl) ?_
      refine lv_iload_n hx hb dMo_hear_239 rfl (lv_at hl 3 rfl) ?_
      refine lv_iload_n hx hb dMo_hear_240 rfl (lv_at hl 4 rfl) ?_
      refine lv_iload_n hx hb dMo_hear_241 rfl (lv_at hl 5 rfl) ?_
      refine lv_iload hx hb dMo_hear_242 (lv_at hl 6 rfl) ?_
      refine lv_iload hx hb dMo_hear_244 (lv_at hl 7 rfl) ?_
      refine lv_iload hx hb dMo_hear_246 (lv_at hl 8 rfl) ?_
      refine kV (rV fx (c_Mo_move l D ca h ad co M s₀ cn kd nb ak vl (by first | assumption | exact mOk.idle (by assumption) _ | exact mOk.clean (by assumption) _ | exact mOk.renew (by assumption) _ | exact (mOk.renew (by assumption) _).set 23 (show 3 < 6 by decide) | exact (mOk.renew (by assumption) _).set 23 (show 5 < 6 by decide)) (by omega) (by omega) (by omega) (by omega) (by omega) (by omega) (by assumption)) ⟨callB_of 6 hts (tb_gi tw_756) rfl rfl rfl (ht _ tw_5) (ht _ tw_753) (by decide +kernel) ⟨(Nat.le_of_ble_eq_true rfl), (Nat.le_of_ble_eq_true rfl)⟩, ht _ tw_755, ht _ tw_860⟩ hE hP hD 0 rfl rfl rfl [0, 1, 2, 3, 4, 5, 6, 7, 8, 9, 10, 11, 12, 13, 14, 15, 16, 17, 18, 19, 20, 21, 22, 23, 24, 25, 26, 27, 28] rfl rfl rfl hl.1 rfl (Nat.le_of_ble_eq_true rfl) dMo_hear_248 ⟨(Nat.le_of_ble_eq_true rfl), (Nat.le_of_ble_eq_true rfl)⟩) hP hD hS hA [0, 1, 2, 3, 4, 5, 6, 7, 8, 9, 10, 11, 12, 13, 14, 15, 16, 17, 18, 19, 20, 21, 22, 23, 24, 25, 26, 27, 28] [] rfl rfl rfl (by decide) (fun _ H locs _ hP hD hS => ?_)
      have hP : va_P D cls_ (mW h ad ca co (mMove M s₀ cn kd nb ak vl)) H := hP
      have hD : va_D A (mW h ad ca co (mMove M s₀ cn kd nb ak vl)) := hD
      have e9 : mHear M s₀ cn kd nb ak vl = mMove M s₀ cn kd nb ak vl := by rw [mHear, if_neg (by omega), if_neg (by omega), if_neg (by omega), if_neg (by omega), if_neg (by omega), if_neg (by omega), if_pos (by omega)]
      exact Co.retv hx hb hret hlk dMo_hear_251 hS hP hD () rfl trivial (by first | (rw [e9]; done) | (rw [e9]; rfl)) (Nat.le_of_ble_eq_true rfl) (Nat.le_of_ble_eq_true rfl)
set_option maxHeartbeats 4000000 in
set_option maxRecDepth 100000 in
theorem c_Mo_hearCarrier (l : Launch) (D : va_G) (ca : Nat → ClassId) (h : Nat) (ad : Nat → Nat) (co : Nat) (M : Nat → Nat → Nat) (s₀ nb kd cn n₀ ak vl : Nat) (hM : mOk M) (hs : s₀ < 2) (hc : cn < 3) (hnb : nb < 1048576) (hkd : kd < 1048576) (hn0 : n₀ < 1048576) (ha : ak < 8) (hv : vl < 1048576) (hdt : ds (M 27 (3 * s₀ + cn)) (M 26 (3 * s₀ + cn)) ≤ 2) : Co (S := Unit) l yMo_hearCarrier (Cond.code yMo_hearCarrier cMo_hearCarrier 8 none :: tb_) { frames := 6, cells := 0, slots := 0, locals := 192 } D ca [.ref h, .int (nI s₀), .int (nI nb), .int (nI kd), .int (nI cn), .int (nI n₀), .int (nI ak), .int (nI vl)] (mW h ad ca co M) (fun _ => none) (fun _ => True) (fun _ => (mW h ad ca co (mCarr M s₀ nb kd cn n₀ ak vl))) 0 0 := by
  refine Co.of cMo_hearCarrier 8 none (by decide) (Nat.le_of_ble_eq_true rfl) ?_
  intro p e s m args below meth c A ls fx hret hlk hin hE hP hD hS hA hl
  have hx := fx.1
  have hb := fx.2.1
  have hown : s.vm.findClass RMo = some m.cls := fx.2.2.2.1
  have hts := fx.2.2.2.2
  have ht : ∀ w ∈ tb_, w.before args s = true := fun w h => hts w (List.mem_cons_of_mem _ h)
  have b1 : M 13 s₀ < 8 := hM 13 _
  have b2 : M 15 s₀ < 2 := hM 15 _
  obtain ⟨L, hLe⟩ : ∃ L, mHear (mS (mS M 13 s₀ (af (M 13 s₀))) 15 s₀ 0) s₀ cn kd n₀ ak vl = L := ⟨_, rfl⟩
  have hM1 : mOk (mS (mS M 13 s₀ (af (M 13 s₀))) 15 s₀ 0) := (hM.set 13 (af_lt _)).set 15 (show 0 < 2 by decide)
  have hM2 : mOk (mS M 15 s₀ 1) := hM.set 15 (show 1 < 2 by decide)
  have hL : mOk L := hLe ▸ mOk.hear hM1 s₀ hc ha hv
  have hL4 : mOk (mPump 4 L s₀) := mOk.pump 4 hL s₀
  have b3 : L 16 s₀ < 2 := hL 16 _
  have b4 : mPump 4 L s₀ 16 s₀ < 2 := hL4 16 _
  have b5 : mPump 4 L s₀ 13 s₀ < 8 := hL4 13 _
  have hl : lv_has ls 8 [(0, .ref h), (1, .int (nI s₀)), (2, .int (nI nb)), (3, .int (nI kd)), (4, .int (nI cn)), (5, .int (nI n₀)), (6, .int (nI ak)), (7, .int (nI vl))] := hl
  refine lv_iload_n hx hb dMo_hearCarrier_0 rfl (lv_at hl 2 rfl) ?_
  refine lv_aload_n hx hb dMo_hearCarrier_1 rfl (lv_at hl 0 rfl) ?_
  refine va_get (D := D) (ci := 4) (v := .ref (ad 13)) (C := RMo) (T := TMo) (N := 29) hx hb ht inMo hown hE.1 hP 0 rfl rfl 13 (by decide) (ht _ tw_600) (fun _ h => h) rfl dMo_hearCarrier_2 ?_
  refine lv_iload_n hx hb dMo_hearCarrier_5 rfl (lv_at hl 1 rfl) ?_
  refine k_iald hx hb hE.1 hP 13 0 (n := 2) (g := (M 13)) rfl rfl (i := s₀) (by omega) (by decide) dMo_hearCarrier_6 ?_
  refine k_icmp_eq (tgt := 41) hx hb (by omega) (by omega) dMo_hearCarrier_7 rfl (fun h7 => ?_) (fun h7 => ?_)
  · refine lv_aload_n hx hb dMo_hearCarrier_41 rfl (lv_at hl 0 rfl) ?_
    refine va_get (D := D) (ci := 4) (v := .ref (ad 13)) (C := RMo) (T := TMo) (N := 29) hx hb ht inMo hown hE.1 hP 0 rfl rfl 13 (by decide) (ht _ tw_600) (fun _ h => h) rfl dMo_hearCarrier_42 ?_
    refine lv_iload_n hx hb dMo_hearCarrier_45 rfl (lv_at hl 1 rfl) ?_
    refine lv_aload_n hx hb dMo_hearCarrier_46 rfl (lv_at hl 0 rfl) ?_
    refine va_get (D := D) (ci := 4) (v := .ref (ad 13)) (C := RMo) (T := TMo) (N := 29) hx hb ht inMo hown hE.1 hP 0 rfl rfl 13 (by decide) (ht _ tw_600) (fun _ h => h) rfl dMo_hearCarrier_47 ?_
    refine lv_iload_n hx hb dMo_hearCarrier_50 rfl (lv_at hl 1 rfl) ?_
    refine k_iald hx hb hE.1 hP 13 0 (n := 2) (g := (M 13)) rfl rfl (i := s₀) (by omega) (by decide) dMo_hearCarrier_51 ?_
    refine kI (rS fx (c_Mo_grown l D ca (M 13 s₀) (by omega)) ⟨callB_of 1 hts (tb_gi tw_736) rfl rfl rfl (ht _ tw_5) (ht _ tw_734) (by decide +kernel) ⟨(Nat.le_of_ble_eq_true rfl), (Nat.le_of_ble_eq_true rfl)⟩, ht _ tw_735⟩ hE hP hD [] rfl rfl rfl hl.1 rfl (Nat.le_of_ble_eq_true rfl) dMo_hearCarrier_52 ⟨(Nat.le_of_ble_eq_true rfl), (Nat.le_of_ble_eq_true rfl)⟩) hP hD hS hA [] [0, 1, 2, 3, 4, 5, 6, 7, 8, 9, 10, 11, 12, 13, 14, 15, 16, 17, 18, 19, 20, 21, 22, 23, 24, 25, 26, 27, 28] rfl rfl rfl (by decide) (fun _ H locs _ hP hD hS => ?_)
    have hP : va_P D cls_ (mW h ad ca co M) H := hP
    have hD : va_D A (mW h ad ca co M) := hD
    refine k_iast hx hb hE.1 hP hD hS 13 0 (n := 2) (g := (M 13)) rfl rfl (i := s₀) (x := (af (M 13 s₀))) (by omega) (by decide) dMo_hearCarrier_55 (fun H locs hP hD hS => ?_)
    rw [mo_set_13] at hP hD
    refine lv_aload_n hx hb dMo_hearCarrier_56 rfl (lv_at hl 0 rfl) ?_
    refine va_get (D := D) (ci := 4) (v := .ref (ad 15)) (C := RMo) (T := TMo) (N := 29) hx hb ht inMo hown hE.1 hP 0 rfl rfl 15 (by decide) (ht _ tw_602) (fun _ h => h) rfl dMo_hearCarrier_57 ?_
    refine lv_iload_n hx hb dMo_hearCarrier_60 rfl (lv_at hl 1 rfl) ?_
    refine lv_iconst (v := nI 0) hx hb dMo_hearCarrier_61 (by decide) ?_
    refine k_zast hx hb hE.1 hP hD hS 15 1 (n := 2) (g := ((mS M 13 s₀ (af (M 13 s₀))) 15)) rfl rfl (i := s₀) (x := 0) (by omega) (by omega) (by decide) dMo_hearCarrier_62 (fun H locs hP hD hS => ?_)
    rw [mo_set_15] at hP hD
    refine lv_aload_n hx hb dMo_hearCarrier_63 rfl (lv_at hl 0 rfl) ?_
    refine lv_iload_n hx hb dMo_hearCarrier_64 rfl (lv_at hl 1 rfl) ?_
    refine lv_iload hx hb dMo_hearCarrier_65 (lv_at hl 4 rfl) ?_
    refine lv_iload_n hx hb dMo_hearCarrier_67 rfl (lv_at hl 3 rfl) ?_
    refine lv_iload hx hb dMo_hearCarrier_68 (lv_at hl 5 rfl) ?_
    refine lv_iload hx hb dMo_hearCarrier_70 (lv_at hl 6 rfl) ?_
    refine lv_iload hx hb dMo_hearCarrier_72 (lv_at hl 7 rfl) ?_
    refine kV (rV fx (c_Mo_hear l D ca h ad co (mS (mS M 13 s₀ (af (M 13 s₀))) 15 s₀ 0) s₀ cn kd n₀ ak vl (by first | assumption | exact mOk.idle (by assumption) _ | exact mOk.clean (by assumption) _ | exact mOk.renew (by assumption) _ | exact (mOk.renew (by assumption) _).set 23 (show 3 < 6 by decide) | exact (mOk.renew (by assumption) _).set 23 (show 5 < 6 by decide)) (by omega) (by omega) (by omega) (by omega) (by omega) (by omega) hdt) ⟨callB_of 6 hts (tb_gi tw_740) rfl rfl rfl (ht _ tw_5) (ht _ tw_737) (by decide +kernel) ⟨(Nat.le_of_ble_eq_true rfl), (Nat.le_of_ble_eq_true rfl)⟩, ht _ tw_739, ht _ tw_856⟩ hE hP hD 0 rfl rfl rfl [0, 1, 2, 3, 4, 5, 6, 7, 8, 9, 10, 11, 12, 13, 14, 15, 16, 17, 18, 19, 20, 21, 22, 23, 24, 25, 26, 27, 28] rfl rfl rfl hl.1 rfl (Nat.le_of_ble_eq_true rfl) dMo_hearCarrier_74 ⟨(Nat.le_of_ble_eq_true rfl), (Nat.le_of_ble_eq_true rfl)⟩) hP hD hS hA [0, 1, 2, 3, 4, 5, 6, 7, 8, 9, 10, 11, 12, 13, 14, 15, 16, 17, 18, 19, 20, 21, 22, 23, 24, 25, 26, 27, 28] [] rfl rfl rfl (by decide) (fun _ H locs _ hP hD hS => ?_)
    have hP : va_P D cls_ (mW h ad ca co (mHear (mS (mS M 13 s₀ (af (M 13 s₀))) 15 s₀ 0) s₀ cn kd n₀ ak vl)) H := hP
    have hD : va_D A (mW h ad ca co (mHear (mS (mS M 13 s₀ (af (M 13 s₀))) 15 s₀ 0) s₀ cn kd n₀ ak vl)) := hD
    rw [hLe] at hP hD
    refine lv_aload_n hx hb dMo_hearCarrier_77 rfl (lv_at hl 0 rfl) ?_
    refine va_get (D := D) (ci := 4) (v := .ref (ad 16)) (C := RMo) (T := TMo) (N := 29) hx hb ht inMo hown hE.1 hP 0 rfl rfl 16 (by decide) (ht _ tw_603) (fun _ h => h) rfl dMo_hearCarrier_78 ?_
    refine lv_iload_n hx hb dMo_hearCarrier_81 rfl (lv_at hl 1 rfl) ?_
    refine k_zald hx hb hE.1 hP 16 1 (n := 2) (g := (L 16)) rfl rfl (i := s₀) (by omega) (by decide) dMo_hearCarrier_82 ?_
    refine k_if_ne (tgt := 91) hx hb (by omega) dMo_hearCarrier_83 rfl (fun h83 => ?_) (fun h83 => ?_)
    · refine lv_aload_n hx hb dMo_hearCarrier_91 rfl (lv_at hl 0 rfl) ?_
      refine va_get (D := D) (ci := 4) (v := .ref (ad 16)) (C := RMo) (T := TMo) (N := 29) hx hb ht inMo hown hE.1 hP 0 rfl rfl 16 (by decide) (ht _ tw_603) (fun _ h => h) rfl dMo_hearCarrier_92 ?_
      refine lv_iload_n hx hb dMo_hearCarrier_95 rfl (lv_at hl 1 rfl) ?_
      refine k_zald hx hb hE.1 hP 16 1 (n := 2) (g := (L 16)) rfl rfl (i := s₀) (by omega) (by decide) dMo_hearCarrier_96 ?_
      refine k_if_ne (tgt := 114) hx hb (by omega) dMo_hearCarrier_97 rfl (fun h97 => ?_) (fun hz => absurd hz (by omega))
      have e8 : mReady L s₀ = L := if_neg (by omega)
      have e9 : mCarr M s₀ nb kd cn n₀ ak vl = mReady L s₀ := by rw [mCarr, if_pos (by omega), hLe]
      exact Co.retv hx hb hret hlk dMo_hearCarrier_114 hS hP hD () rfl trivial (by rw [e9, e8]) (Nat.le_of_ble_eq_true rfl) (Nat.le_of_ble_eq_true rfl)
    · refine lv_aload_n hx hb dMo_hearCarrier_86 rfl (lv_at hl 0 rfl) ?_
      refine lv_iload_n hx hb dMo_hearCarrier_87 rfl (lv_at hl 1 rfl) ?_
      refine kV (rV fx (c_Mo_pump l D ca h ad co L s₀ _ (by first | assumption | exact mOk.idle (by assumption) _ | exact mOk.clean (by assumption) _ | exact mOk.renew (by assumption) _ | exact (mOk.renew (by assumption) _).set 23 (show 3 < 6 by decide) | exact (mOk.renew (by assumption) _).set 23 (show 5 < 6 by decide)) (by omega) rfl) ⟨callB_of 1 hts (tb_gi tw_752) rfl rfl rfl (ht _ tw_5) (ht _ tw_749) (by decide +kernel) ⟨(Nat.le_of_ble_eq_true rfl), (Nat.le_of_ble_eq_true rfl)⟩, ht _ tw_751, ht _ tw_859⟩ hE hP hD 0 rfl rfl rfl [0, 1, 2, 3, 4, 5, 6, 7, 8, 9, 10, 11, 12, 13, 14, 15, 16, 17, 18, 19, 20, 21, 22, 23, 24, 25, 26, 27, 28] rfl rfl rfl hl.1 rfl (Nat.le_of_ble_eq_true rfl) dMo_hearCarrier_88 ⟨(Nat.le_of_ble_eq_true rfl), (Nat.le_of_ble_eq_true rfl)⟩) hP hD hS hA [0, 1, 2, 3, 4, 5, 6, 7, 8, 9, 10, 11, 12, 13, 14, 15, 16, 17, 18, 19, 20, 21, 22, 23, 24, 25, 26, 27, 28] [] rfl rfl rfl (by decide) (fun _ H locs _ hP hD hS => ?_)
      have hP : va_P D cls_ (mW h ad ca co (mPump 4 L s₀)) H := hP
      have hD : va_D A (mW h ad ca co (mPump 4 L s₀)) := hD
      refine lv_aload_n hx hb dMo_hearCarrier_91 rfl (lv_at hl 0 rfl) ?_
      refine va_get (D := D) (ci := 4) (v := .ref (ad 16)) (C := RMo) (T := TMo) (N := 29) hx hb ht inMo hown hE.1 hP 0 rfl rfl 16 (by decide) (ht _ tw_603) (fun _ h => h) rfl dMo_hearCarrier_92 ?_
      refine lv_iload_n hx hb dMo_hearCarrier_95 rfl (lv_at hl 1 rfl) ?_
      refine k_zald hx hb hE.1 hP 16 1 (n := 2) (g := ((mPump 4 L s₀) 16)) rfl rfl (i := s₀) (by omega) (by decide) dMo_hearCarrier_96 ?_
      refine k_if_ne (tgt := 114) hx hb (by omega) dMo_hearCarrier_97 rfl (fun h97 => ?_) (fun h97 => ?_)
      · have e8 : mReady L s₀ = mPump 4 L s₀ := (if_pos (by omega)).trans (if_neg (by omega))
        have e9 : mCarr M s₀ nb kd cn n₀ ak vl = mReady L s₀ := by rw [mCarr, if_pos (by omega), hLe]
        exact Co.retv hx hb hret hlk dMo_hearCarrier_114 hS hP hD () rfl trivial (by rw [e9, e8]) (Nat.le_of_ble_eq_true rfl) (Nat.le_of_ble_eq_true rfl)
      · refine lv_aload_n hx hb dMo_hearCarrier_100 rfl (lv_at hl 0 rfl) ?_
        refine lv_iload_n hx hb dMo_hearCarrier_101 rfl (lv_at hl 1 rfl) ?_
        refine lv_iconst (v := nI 4) hx hb dMo_hearCarrier_102 (by decide) ?_
        refine lv_iconst (v := nI 0) hx hb dMo_hearCarrier_103 (by decide) ?_
        refine lv_aload_n hx hb dMo_hearCarrier_104 rfl (lv_at hl 0 rfl) ?_
        refine va_get (D := D) (ci := 4) (v := .ref (ad 13)) (C := RMo) (T := TMo) (N := 29) hx hb ht inMo hown hE.1 hP 0 rfl rfl 13 (by decide) (ht _ tw_600) (fun _ h => h) rfl dMo_hearCarrier_105 ?_
        refine lv_iload_n hx hb dMo_hearCarrier_108 rfl (lv_at hl 1 rfl) ?_
        refine k_iald hx hb hE.1 hP 13 0 (n := 2) (g := ((mPump 4 L s₀) 13)) rfl rfl (i := s₀) (by omega) (by decide) dMo_hearCarrier_109 ?_
        refine lv_iconst (v := (-1)) hx hb dMo_hearCarrier_110 (by decide) ?_
        refine kV (rV fx (c_Mo_transmitN l D ca h ad co (mPump 4 L s₀) s₀ 4 0 ((mPump 4 L s₀) 13 s₀) (by first | assumption | exact mOk.idle (by assumption) _ | exact mOk.clean (by assumption) _ | exact mOk.renew (by assumption) _ | exact (mOk.renew (by assumption) _).set 23 (show 3 < 6 by decide) | exact (mOk.renew (by assumption) _).set 23 (show 5 < 6 by decide)) (by omega) (by omega) (by omega) (by omega)) ⟨callB_of 5 hts (tb_gi tw_706) rfl rfl rfl (ht _ tw_5) (ht _ tw_703) (by decide +kernel) ⟨(Nat.le_of_ble_eq_true rfl), (Nat.le_of_ble_eq_true rfl)⟩, ht _ tw_705, ht _ tw_849⟩ hE hP hD 0 rfl rfl rfl [0, 1, 2, 3, 4, 5, 6, 7, 8, 9, 10, 11, 12, 13, 14, 15, 16, 17, 18, 19, 20, 21, 22, 23, 24, 25, 26, 27, 28] rfl rfl rfl hl.1 rfl (Nat.le_of_ble_eq_true rfl) dMo_hearCarrier_111 ⟨(Nat.le_of_ble_eq_true rfl), (Nat.le_of_ble_eq_true rfl)⟩) hP hD hS hA [0, 1, 2, 3, 4, 5, 6, 7, 8, 9, 10, 11, 12, 13, 14, 15, 16, 17, 18, 19, 20, 21, 22, 23, 24, 25, 26, 27, 28] [] rfl rfl rfl (by decide) (fun _ H locs _ hP hD hS => ?_)
        have hP : va_P D cls_ (mW h ad ca co (mTrN (mPump 4 L s₀) s₀ 4 0 ((mPump 4 L s₀) 13 s₀))) H := hP
        have hD : va_D A (mW h ad ca co (mTrN (mPump 4 L s₀) s₀ 4 0 ((mPump 4 L s₀) 13 s₀))) := hD
        have e8 : mReady L s₀ = mTrN (mPump 4 L s₀) s₀ 4 0 (mPump 4 L s₀ 13 s₀) := (if_pos (by omega)).trans (if_pos (by omega))
        have e9 : mCarr M s₀ nb kd cn n₀ ak vl = mReady L s₀ := by rw [mCarr, if_pos (by omega), hLe]
        exact Co.retv hx hb hret hlk dMo_hearCarrier_114 hS hP hD () rfl trivial (by rw [e9, e8]) (Nat.le_of_ble_eq_true rfl) (Nat.le_of_ble_eq_true rfl)
  · refine lv_aload_n hx hb dMo_hearCarrier_10 rfl (lv_at hl 0 rfl) ?_
    refine va_get (D := D) (ci := 4) (v := .ref (ad 15)) (C := RMo) (T := TMo) (N := 29) hx hb ht inMo hown hE.1 hP 0 rfl rfl 15 (by decide) (ht _ tw_602) (fun _ h => h) rfl dMo_hearCarrier_11 ?_
    refine lv_iload_n hx hb dMo_hearCarrier_14 rfl (lv_at hl 1 rfl) ?_
    refine k_zald hx hb hE.1 hP 15 1 (n := 2) (g := (M 15)) rfl rfl (i := s₀) (by omega) (by decide) dMo_hearCarrier_15 ?_
    refine k_if_ne (tgt := 40) hx hb (by omega) dMo_hearCarrier_16 rfl (fun h16 => ?_) (fun h16 => ?_)
    · have e9 : mCarr M s₀ nb kd cn n₀ ak vl = M := (if_neg (by omega)).trans (if_neg (by omega))
      exact Co.retv hx hb hret hlk dMo_hearCarrier_40 hS hP hD () rfl trivial (by first | (rw [e9]; done) | (rw [e9]; rfl)) (Nat.le_of_ble_eq_true rfl) (Nat.le_of_ble_eq_true rfl)
    · refine lv_aload_n hx hb dMo_hearCarrier_19 rfl (lv_at hl 0 rfl) ?_
      refine va_get (D := D) (ci := 4) (v := .ref (ad 15)) (C := RMo) (T := TMo) (N := 29) hx hb ht inMo hown hE.1 hP 0 rfl rfl 15 (by decide) (ht _ tw_602) (fun _ h => h) rfl dMo_hearCarrier_20 ?_
      refine lv_iload_n hx hb dMo_hearCarrier_23 rfl (lv_at hl 1 rfl) ?_
      refine lv_iconst (v := nI 1) hx hb dMo_hearCarrier_24 (by decide) ?_
      refine k_zast hx hb hE.1 hP hD hS 15 1 (n := 2) (g := (M 15)) rfl rfl (i := s₀) (x := 1) (by omega) (by omega) (by decide) dMo_hearCarrier_25 (fun H locs hP hD hS => ?_)
      rw [mo_set_15] at hP hD
      refine lv_aload_n hx hb dMo_hearCarrier_26 rfl (lv_at hl 0 rfl) ?_
      refine lv_iload_n hx hb dMo_hearCarrier_27 rfl (lv_at hl 1 rfl) ?_
      refine lv_iconst (v := nI 5) hx hb dMo_hearCarrier_28 (by decide) ?_
      refine lv_iconst (v := nI 0) hx hb dMo_hearCarrier_29 (by decide) ?_
      refine lv_aload_n hx hb dMo_hearCarrier_30 rfl (lv_at hl 0 rfl) ?_
      refine va_get (D := D) (ci := 4) (v := .ref (ad 13)) (C := RMo) (T := TMo) (N := 29) hx hb ht inMo hown hE.1 hP 0 rfl rfl 13 (by decide) (ht _ tw_600) (fun _ h => h) rfl dMo_hearCarrier_31 ?_
      refine lv_iload_n hx hb dMo_hearCarrier_34 rfl (lv_at hl 1 rfl) ?_
      refine k_iald hx hb hE.1 hP 13 0 (n := 2) (g := (M 13)) rfl rfl (i := s₀) (by omega) (by decide) dMo_hearCarrier_35 ?_
      refine lv_iconst (v := (-1)) hx hb dMo_hearCarrier_36 (by decide) ?_
      refine kV (rV fx (c_Mo_transmitN l D ca h ad co (mS M 15 s₀ 1) s₀ 5 0 (M 13 s₀) (by first | assumption | exact mOk.idle (by assumption) _ | exact mOk.clean (by assumption) _ | exact mOk.renew (by assumption) _ | exact (mOk.renew (by assumption) _).set 23 (show 3 < 6 by decide) | exact (mOk.renew (by assumption) _).set 23 (show 5 < 6 by decide)) (by omega) (by omega) (by omega) (by omega)) ⟨callB_of 5 hts (tb_gi tw_706) rfl rfl rfl (ht _ tw_5) (ht _ tw_703) (by decide +kernel) ⟨(Nat.le_of_ble_eq_true rfl), (Nat.le_of_ble_eq_true rfl)⟩, ht _ tw_705, ht _ tw_849⟩ hE hP hD 0 rfl rfl rfl [0, 1, 2, 3, 4, 5, 6, 7, 8, 9, 10, 11, 12, 13, 14, 15, 16, 17, 18, 19, 20, 21, 22, 23, 24, 25, 26, 27, 28] rfl rfl rfl hl.1 rfl (Nat.le_of_ble_eq_true rfl) dMo_hearCarrier_37 ⟨(Nat.le_of_ble_eq_true rfl), (Nat.le_of_ble_eq_true rfl)⟩) hP hD hS hA [0, 1, 2, 3, 4, 5, 6, 7, 8, 9, 10, 11, 12, 13, 14, 15, 16, 17, 18, 19, 20, 21, 22, 23, 24, 25, 26, 27, 28] [] rfl rfl rfl (by decide) (fun _ H locs _ hP hD hS => ?_)
      have hP : va_P D cls_ (mW h ad ca co (mTrN (mS M 15 s₀ 1) s₀ 5 0 (M 13 s₀))) H := hP
      have hD : va_D A (mW h ad ca co (mTrN (mS M 15 s₀ 1) s₀ 5 0 (M 13 s₀))) := hD
      have e9 : mCarr M s₀ nb kd cn n₀ ak vl = mTrN (mS M 15 s₀ 1) s₀ 5 0 (M 13 s₀) := (if_neg (by omega)).trans (if_pos (by omega))
      exact Co.retv hx hb hret hlk dMo_hearCarrier_40 hS hP hD () rfl trivial (by first | (rw [e9]; done) | (rw [e9]; rfl)) (Nat.le_of_ble_eq_true rfl) (Nat.le_of_ble_eq_true rfl)
set_option maxHeartbeats 4000000 in
set_option maxRecDepth 100000 in
theorem c_Mo_hearLink (l : Launch) (D : va_G) (ca : Nat → ClassId) (h : Nat) (ad : Nat → Nat) (co : Nat) (M : Nat → Nat → Nat) (s₀ kd : Nat) (hM : mOk M) (hs : s₀ < 2) (hkd : kd < 1048576) : Co (S := Unit) l yMo_hearLink (Cond.code yMo_hearLink cMo_hearLink 3 none :: tb_) { frames := 3, cells := 0, slots := 0, locals := 96 } D ca [.ref h, .int (nI s₀), .int (nI kd)] (mW h ad ca co M) (fun _ => none) (fun _ => True) (fun _ => (mW h ad ca co (mLink M s₀ kd))) 0 0 := by
  refine Co.of cMo_hearLink 3 none (by decide) (Nat.le_of_ble_eq_true rfl) ?_
  intro p e s m args below meth c A ls fx hret hlk hin hE hP hD hS hA hl
  have hx := fx.1
  have hb := fx.2.1
  have hown : s.vm.findClass RMo = some m.cls := fx.2.2.2.1
  have hts := fx.2.2.2.2
  have ht : ∀ w ∈ tb_, w.before args s = true := fun w h => hts w (List.mem_cons_of_mem _ h)
  have b1 : M 10 s₀ < 3 := hM 10 _
  have hM1 : mOk (mS (mClean M s₀) 10 s₀ 2) := (hM.clean s₀).set 10 (show 2 < 3 by decide)
  have hl : lv_has ls 3 [(0, .ref h), (1, .int (nI s₀)), (2, .int (nI kd))] := hl
  refine lv_iload_n hx hb dMo_hearLink_0 rfl (lv_at hl 2 rfl) ?_
  refine lv_iconst (v := nI 1) hx hb dMo_hearLink_1 (by decide) ?_
  refine k_icmp_ne (tgt := 39) hx hb (by omega) (by omega) dMo_hearLink_2 rfl (fun h2 => ?_) (fun h2 => ?_)
  · refine lv_aload_n hx hb dMo_hearLink_39 rfl (lv_at hl 0 rfl) ?_
    refine va_get (D := D) (ci := 4) (v := .ref (ad 10)) (C := RMo) (T := TMo) (N := 29) hx hb ht inMo hown hE.1 hP 0 rfl rfl 10 (by decide) (ht _ tw_597) (fun _ h => h) rfl dMo_hearLink_40 ?_
    refine lv_iload_n hx hb dMo_hearLink_43 rfl (lv_at hl 1 rfl) ?_
    refine k_iald hx hb hE.1 hP 10 0 (n := 2) (g := (M 10)) rfl rfl (i := s₀) (by omega) (by decide) dMo_hearLink_44 ?_
    refine lv_iconst (v := nI 1) hx hb dMo_hearLink_45 (by decide) ?_
    refine k_icmp_ne (tgt := 64) hx hb (by omega) (by omega) dMo_hearLink_46 rfl (fun h46 => ?_) (fun h46 => ?_)
    · refine lv_aload_n hx hb dMo_hearLink_64 rfl (lv_at hl 0 rfl) ?_
      refine va_get (D := D) (ci := 4) (v := .ref (ad 10)) (C := RMo) (T := TMo) (N := 29) hx hb ht inMo hown hE.1 hP 0 rfl rfl 10 (by decide) (ht _ tw_597) (fun _ h => h) rfl dMo_hearLink_65 ?_
      refine lv_iload_n hx hb dMo_hearLink_68 rfl (lv_at hl 1 rfl) ?_
      refine k_iald hx hb hE.1 hP 10 0 (n := 2) (g := (M 10)) rfl rfl (i := s₀) (by omega) (by decide) dMo_hearLink_69 ?_
      refine lv_iconst (v := nI 2) hx hb dMo_hearLink_70 (by decide) ?_
      refine k_icmp_ne (tgt := 79) hx hb (by omega) (by omega) dMo_hearLink_71 rfl (fun h71 => ?_) (fun h71 => ?_)
      · have e9 : mLink M s₀ kd = M := (if_neg (by omega)).trans ((if_neg (by omega)).trans (if_neg (by omega)))
        exact Co.retv hx hb hret hlk dMo_hearLink_79 hS hP hD () rfl trivial (by first | (rw [e9]; done) | (rw [e9]; rfl)) (Nat.le_of_ble_eq_true rfl) (Nat.le_of_ble_eq_true rfl)
      · refine lv_aload_n hx hb dMo_hearLink_74 rfl (lv_at hl 0 rfl) ?_
        refine lv_iload_n hx hb dMo_hearLink_75 rfl (lv_at hl 1 rfl) ?_
        refine kV (rV fx (c_Mo_setUp l D ca h ad co M s₀ (by first | assumption | exact mOk.idle (by assumption) _ | exact mOk.clean (by assumption) _ | exact mOk.renew (by assumption) _ | exact (mOk.renew (by assumption) _).set 23 (show 3 < 6 by decide) | exact (mOk.renew (by assumption) _).set 23 (show 5 < 6 by decide)) (by omega)) ⟨callB_of 1 hts (tb_gi tw_710) rfl rfl rfl (ht _ tw_5) (ht _ tw_707) (by decide +kernel) ⟨(Nat.le_of_ble_eq_true rfl), (Nat.le_of_ble_eq_true rfl)⟩, ht _ tw_709, ht _ tw_850⟩ hE hP hD 0 rfl rfl rfl [0, 1, 2, 3, 4, 5, 6, 7, 8, 9, 10, 11, 12, 13, 14, 15, 16, 17, 18, 19, 20, 21, 22, 23, 24, 25, 26, 27, 28] rfl rfl rfl hl.1 rfl (Nat.le_of_ble_eq_true rfl) dMo_hearLink_76 ⟨(Nat.le_of_ble_eq_true rfl), (Nat.le_of_ble_eq_true rfl)⟩) hP hD hS hA [0, 1, 2, 3, 4, 5, 6, 7, 8, 9, 10, 11, 12, 13, 14, 15, 16, 17, 18, 19, 20, 21, 22, 23, 24, 25, 26, 27, 28] [] rfl rfl rfl (by decide) (fun _ H locs _ hP hD hS => ?_)
        have hP : va_P D cls_ (mW h ad ca co (mSetUp M s₀)) H := hP
        have hD : va_D A (mW h ad ca co (mSetUp M s₀)) := hD
        have e9 : mLink M s₀ kd = mSetUp M s₀ := (if_neg (by omega)).trans ((if_neg (by omega)).trans (if_pos (by omega)))
        exact Co.retv hx hb hret hlk dMo_hearLink_79 hS hP hD () rfl trivial (by first | (rw [e9]; done) | (rw [e9]; rfl)) (Nat.le_of_ble_eq_true rfl) (Nat.le_of_ble_eq_true rfl)
    · refine lv_aload_n hx hb dMo_hearLink_49 rfl (lv_at hl 0 rfl) ?_
      refine lv_iload_n hx hb dMo_hearLink_50 rfl (lv_at hl 1 rfl) ?_
      refine kV (rV fx (c_Mo_clean l D ca h ad co M s₀ (by omega)) ⟨callB_of 1 hts (tb_gi tw_698) rfl rfl rfl (ht _ tw_5) (ht _ tw_695) (by decide +kernel) ⟨(Nat.le_of_ble_eq_true rfl), (Nat.le_of_ble_eq_true rfl)⟩, ht _ tw_697, ht _ tw_847⟩ hE hP hD 0 rfl rfl rfl [0, 1, 2, 3, 4, 5, 6, 7, 8, 9, 10, 11, 12, 13, 14, 15, 16, 17, 18, 19, 20, 21, 22, 23, 24, 25, 26, 27, 28] rfl rfl rfl hl.1 rfl (Nat.le_of_ble_eq_true rfl) dMo_hearLink_51 ⟨(Nat.le_of_ble_eq_true rfl), (Nat.le_of_ble_eq_true rfl)⟩) hP hD hS hA [0, 1, 2, 3, 4, 5, 6, 7, 8, 9, 10, 11, 12, 13, 14, 15, 16, 17, 18, 19, 20, 21, 22, 23, 24, 25, 26, 27, 28] [] rfl rfl rfl (by decide) (fun _ H locs _ hP hD hS => ?_)
      have hP : va_P D cls_ (mW h ad ca co (mClean M s₀)) H := hP
      have hD : va_D A (mW h ad ca co (mClean M s₀)) := hD
      refine lv_aload_n hx hb dMo_hearLink_54 rfl (lv_at hl 0 rfl) ?_
      refine va_get (D := D) (ci := 4) (v := .ref (ad 10)) (C := RMo) (T := TMo) (N := 29) hx hb ht inMo hown hE.1 hP 0 rfl rfl 10 (by decide) (ht _ tw_597) (fun _ h => h) rfl dMo_hearLink_55 ?_
      refine lv_iload_n hx hb dMo_hearLink_58 rfl (lv_at hl 1 rfl) ?_
      refine lv_iconst (v := nI 2) hx hb dMo_hearLink_59 (by decide) ?_
      refine k_iast hx hb hE.1 hP hD hS 10 0 (n := 2) (g := ((mClean M s₀) 10)) rfl rfl (i := s₀) (x := 2) (by omega) (by decide) dMo_hearLink_60 (fun H locs hP hD hS => ?_)
      rw [mo_set_10] at hP hD
      refine lv_goto (tgt := 79) hx hb dMo_hearLink_61 rfl ?_
      have e9 : mLink M s₀ kd = mS (mClean M s₀) 10 s₀ 2 := (if_neg (by omega)).trans (if_pos (by omega))
      exact Co.retv hx hb hret hlk dMo_hearLink_79 hS hP hD () rfl trivial (by first | (rw [e9]; done) | (rw [e9]; rfl)) (Nat.le_of_ble_eq_true rfl) (Nat.le_of_ble_eq_true rfl)
  · refine lv_aload_n hx hb dMo_hearLink_5 rfl (lv_at hl 0 rfl) ?_
    refine va_get (D := D) (ci := 4) (v := .ref (ad 10)) (C := RMo) (T := TMo) (N := 29) hx hb ht inMo hown hE.1 hP 0 rfl rfl 10 (by decide) (ht _ tw_597) (fun _ h => h) rfl dMo_hearLink_6 ?_
    refine lv_iload_n hx hb dMo_hearLink_9 rfl (lv_at hl 1 rfl) ?_
    refine k_iald hx hb hE.1 hP 10 0 (n := 2) (g := (M 10)) rfl rfl (i := s₀) (by omega) (by decide) dMo_hearLink_10 ?_
    refine lv_iconst (v := nI 1) hx hb dMo_hearLink_11 (by decide) ?_
    refine k_icmp_eq (tgt := 27) hx hb (by omega) (by omega) dMo_hearLink_12 rfl (fun h12 => ?_) (fun h12 => ?_)
    · refine lv_aload_n hx hb dMo_hearLink_27 rfl (lv_at hl 0 rfl) ?_
      refine lv_iload_n hx hb dMo_hearLink_28 rfl (lv_at hl 1 rfl) ?_
      refine lv_iconst (v := nI 2) hx hb dMo_hearLink_29 (by decide) ?_
      refine lv_iconst (v := nI 0) hx hb dMo_hearLink_30 (by decide) ?_
      refine lv_iconst (v := nI 0) hx hb dMo_hearLink_31 (by decide) ?_
      refine lv_iconst (v := (-1)) hx hb dMo_hearLink_32 (by decide) ?_
      refine kV (rV fx (c_Mo_transmitN l D ca h ad co M s₀ 2 0 0 (by first | assumption | exact mOk.idle (by assumption) _ | exact mOk.clean (by assumption) _ | exact mOk.renew (by assumption) _ | exact (mOk.renew (by assumption) _).set 23 (show 3 < 6 by decide) | exact (mOk.renew (by assumption) _).set 23 (show 5 < 6 by decide)) (by omega) (by omega) (by omega) (by omega)) ⟨callB_of 5 hts (tb_gi tw_706) rfl rfl rfl (ht _ tw_5) (ht _ tw_703) (by decide +kernel) ⟨(Nat.le_of_ble_eq_true rfl), (Nat.le_of_ble_eq_true rfl)⟩, ht _ tw_705, ht _ tw_849⟩ hE hP hD 0 rfl rfl rfl [0, 1, 2, 3, 4, 5, 6, 7, 8, 9, 10, 11, 12, 13, 14, 15, 16, 17, 18, 19, 20, 21, 22, 23, 24, 25, 26, 27, 28] rfl rfl rfl hl.1 rfl (Nat.le_of_ble_eq_true rfl) dMo_hearLink_33 ⟨(Nat.le_of_ble_eq_true rfl), (Nat.le_of_ble_eq_true rfl)⟩) hP hD hS hA [0, 1, 2, 3, 4, 5, 6, 7, 8, 9, 10, 11, 12, 13, 14, 15, 16, 17, 18, 19, 20, 21, 22, 23, 24, 25, 26, 27, 28] [] rfl rfl rfl (by decide) (fun _ H locs _ hP hD hS => ?_)
      have hP : va_P D cls_ (mW h ad ca co (mTrN M s₀ 2 0 0)) H := hP
      have hD : va_D A (mW h ad ca co (mTrN M s₀ 2 0 0)) := hD
      refine lv_goto (tgt := 79) hx hb dMo_hearLink_36 rfl ?_
      have e9 : mLink M s₀ kd = mTrN M s₀ 2 0 0 := by rw [mLink, if_pos (by omega), if_pos (by omega)]
      exact Co.retv hx hb hret hlk dMo_hearLink_79 hS hP hD () rfl trivial (by first | (rw [e9]; done) | (rw [e9]; rfl)) (Nat.le_of_ble_eq_true rfl) (Nat.le_of_ble_eq_true rfl)
    · refine lv_aload_n hx hb dMo_hearLink_15 rfl (lv_at hl 0 rfl) ?_
      refine lv_iload_n hx hb dMo_hearLink_16 rfl (lv_at hl 1 rfl) ?_
      refine kV (rV fx (c_Mo_clean l D ca h ad co M s₀ (by omega)) ⟨callB_of 1 hts (tb_gi tw_698) rfl rfl rfl (ht _ tw_5) (ht _ tw_695) (by decide +kernel) ⟨(Nat.le_of_ble_eq_true rfl), (Nat.le_of_ble_eq_true rfl)⟩, ht _ tw_697, ht _ tw_847⟩ hE hP hD 0 rfl rfl rfl [0, 1, 2, 3, 4, 5, 6, 7, 8, 9, 10, 11, 12, 13, 14, 15, 16, 17, 18, 19, 20, 21, 22, 23, 24, 25, 26, 27, 28] rfl rfl rfl hl.1 rfl (Nat.le_of_ble_eq_true rfl) dMo_hearLink_17 ⟨(Nat.le_of_ble_eq_true rfl), (Nat.le_of_ble_eq_true rfl)⟩) hP hD hS hA [0, 1, 2, 3, 4, 5, 6, 7, 8, 9, 10, 11, 12, 13, 14, 15, 16, 17, 18, 19, 20, 21, 22, 23, 24, 25, 26, 27, 28] [] rfl rfl rfl (by decide) (fun _ H locs _ hP hD hS => ?_)
      have hP : va_P D cls_ (mW h ad ca co (mClean M s₀)) H := hP
      have hD : va_D A (mW h ad ca co (mClean M s₀)) := hD
      refine lv_aload_n hx hb dMo_hearLink_20 rfl (lv_at hl 0 rfl) ?_
      refine va_get (D := D) (ci := 4) (v := .ref (ad 10)) (C := RMo) (T := TMo) (N := 29) hx hb ht inMo hown hE.1 hP 0 rfl rfl 10 (by decide) (ht _ tw_597) (fun _ h => h) rfl dMo_hearLink_21 ?_
      refine lv_iload_n hx hb dMo_hearLink_24 rfl (lv_at hl 1 rfl) ?_
      refine lv_iconst (v := nI 2) hx hb dMo_hearLink_25 (by decide) ?_
      refine k_iast hx hb hE.1 hP hD hS 10 0 (n := 2) (g := ((mClean M s₀) 10)) rfl rfl (i := s₀) (x := 2) (by omega) (by decide) dMo_hearLink_26 (fun H locs hP hD hS => ?_)
      rw [mo_set_10] at hP hD
      refine lv_aload_n hx hb dMo_hearLink_27 rfl (lv_at hl 0 rfl) ?_
      refine lv_iload_n hx hb dMo_hearLink_28 rfl (lv_at hl 1 rfl) ?_
      refine lv_iconst (v := nI 2) hx hb dMo_hearLink_29 (by decide) ?_
      refine lv_iconst (v := nI 0) hx hb dMo_hearLink_30 (by decide) ?_
      refine lv_iconst (v := nI 0) hx hb dMo_hearLink_31 (by decide) ?_
      refine lv_iconst (v := (-1)) hx hb dMo_hearLink_32 (by decide) ?_
      refine kV (rV fx (c_Mo_transmitN l D ca h ad co (mS (mClean M s₀) 10 s₀ 2) s₀ 2 0 0 (by first | assumption | exact mOk.idle (by assumption) _ | exact mOk.clean (by assumption) _ | exact mOk.renew (by assumption) _ | exact (mOk.renew (by assumption) _).set 23 (show 3 < 6 by decide) | exact (mOk.renew (by assumption) _).set 23 (show 5 < 6 by decide)) (by omega) (by omega) (by omega) (by omega)) ⟨callB_of 5 hts (tb_gi tw_706) rfl rfl rfl (ht _ tw_5) (ht _ tw_703) (by decide +kernel) ⟨(Nat.le_of_ble_eq_true rfl), (Nat.le_of_ble_eq_true rfl)⟩, ht _ tw_705, ht _ tw_849⟩ hE hP hD 0 rfl rfl rfl [0, 1, 2, 3, 4, 5, 6, 7, 8, 9, 10, 11, 12, 13, 14, 15, 16, 17, 18, 19, 20, 21, 22, 23, 24, 25, 26, 27, 28] rfl rfl rfl hl.1 rfl (Nat.le_of_ble_eq_true rfl) dMo_hearLink_33 ⟨(Nat.le_of_ble_eq_true rfl), (Nat.le_of_ble_eq_true rfl)⟩) hP hD hS hA [0, 1, 2, 3, 4, 5, 6, 7, 8, 9, 10, 11, 12, 13, 14, 15, 16, 17, 18, 19, 20, 21, 22, 23, 24, 25, 26, 27, 28] [] rfl rfl rfl (by decide) (fun _ H locs _ hP hD hS => ?_)
      have hP : va_P D cls_ (mW h ad ca co (mTrN (mS (mClean M s₀) 10 s₀ 2) s₀ 2 0 0)) H := hP
      have hD : va_D A (mW h ad ca co (mTrN (mS (mClean M s₀) 10 s₀ 2) s₀ 2 0 0)) := hD
      refine lv_goto (tgt := 79) hx hb dMo_hearLink_36 rfl ?_
      have e9 : mLink M s₀ kd = mTrN (mS (mClean M s₀) 10 s₀ 2) s₀ 2 0 0 := by rw [mLink, if_pos (by omega), if_neg (by omega)]
      exact Co.retv hx hb hret hlk dMo_hearLink_79 hS hP hD () rfl trivial (by first | (rw [e9]; done) | (rw [e9]; rfl)) (Nat.le_of_ble_eq_true rfl) (Nat.le_of_ble_eq_true rfl)
