set_option maxHeartbeats 4000000 in
set_option maxRecDepth 100000 in
theorem c_Mo_handX (l : Launch) (D : va_G) (ca : Nat → ClassId) (h : Nat) (ad : Nat → Nat) (co : Nat) (M : Nat → Nat → Nat) (x₀ : Int32) (hx0 : ¬ x₀ = 0) (hx1 : ¬ x₀ = nI 1) (y₀ k₁ n₁ a₁ : Int32) : Co (S := Unit) l yMo_hand (Cond.code yMo_hand cMo_hand 6 (some FieldType.boolean) :: tb_) { frames := 6, cells := 0, slots := 0, locals := 192 } D ca [.ref h, .int x₀, .int y₀, .int k₁, .int n₁, .int a₁] (mW h ad ca co M) (fun _ => some (.int (nI 0))) (fun _ => True) (fun _ => (mW h ad ca 1 M)) 0 0 := by
  refine Co.of cMo_hand 6 (some FieldType.boolean) (by decide) (Nat.le_of_ble_eq_true rfl) ?_
  intro p e s m args below meth c A ls fx hret hlk hin hE hP hD hS hA hl
  have hx := fx.1
  have hb := fx.2.1
  have hown : s.vm.findClass RMo = some m.cls := fx.2.2.2.1
  have hts := fx.2.2.2.2
  have ht : ∀ w ∈ tb_, w.before args s = true := fun w h => hts w (List.mem_cons_of_mem _ h)
  have hl : lv_has ls 6 [(0, .ref h), (1, .int x₀), (2, .int y₀), (3, .int k₁), (4, .int n₁), (5, .int a₁)] := hl
  refine lv_aload_n hx hb dMo_hand_0 rfl (lv_at hl 0 rfl) ?_
  refine lv_iload_n hx hb dMo_hand_1 rfl (lv_at hl 1 rfl) ?_
  refine lv_iload_n hx hb dMo_hand_2 rfl (lv_at hl 2 rfl) ?_
  refine kI (rS fx (c_Mo_channelOfX l D ca x₀ hx0 hx1 y₀) ⟨callB_of 2 hts (tb_gi tw_767) rfl rfl rfl (ht _ tw_5) (ht _ tw_765) (by decide +kernel) ⟨(Nat.le_of_ble_eq_true rfl), (Nat.le_of_ble_eq_true rfl)⟩, ht _ tw_766⟩ hE hP hD [] rfl rfl rfl hl.1 rfl (Nat.le_of_ble_eq_true rfl) dMo_hand_3 ⟨(Nat.le_of_ble_eq_true rfl), (Nat.le_of_ble_eq_true rfl)⟩) hP hD hS hA [] [0, 1, 2, 3, 4, 5, 6, 7, 8, 9, 10, 11, 12, 13, 14, 15, 16, 17, 18, 19, 20, 21, 22, 23, 24, 25, 26, 27, 28] rfl rfl rfl (by decide) (fun _ H locs _ hP hD hS => ?_)
  have hP : va_P D cls_ (mW h ad ca co M) H := hP
  have hD : va_D A (mW h ad ca co M) := hD
  refine k_if_eq (tgt := 13) hx hb (by omega) dMo_hand_6 rfl (fun h6 => ?_) (fun hz => absurd hz (by omega))
  refine lv_iconst (v := nI 1) hx hb dMo_hand_13 (by decide) ?_
  refine va_put (D := D) (ci := 4) (v := .int (nI 1)) (ty := .int) (C := RMo) (T := TMo) (N := 29) hx hb ht inMo tyMo tyMo_ok nmMo hown hE.1 hP hD hS 0 rfl rfl 0 (by decide) (ht _ tw_587) (fun _ h => h) rfl (by decide +kernel) rfl rfl (Nat.le_of_ble_eq_true rfl) dMo_hand_14 (fun H locs hP hD hS => ?_)
  have hP : va_P D cls_ (mW h ad ca 1 M) H := hP
  have hD : va_D A (mW h ad ca 1 M) := hD
  refine lv_aload_n hx hb dMo_hand_17 rfl (lv_at hl 0 rfl) ?_
  refine va_get (D := D) (ci := 4) (v := .int (nI 1)) (C := RMo) (T := TMo) (N := 29) hx hb ht inMo hown hE.1 hP 0 rfl rfl 0 (by decide) (ht _ tw_587) (fun _ h => h) rfl dMo_hand_18 ?_
  refine k_if_gt (tgt := 59) hx hb (by omega) dMo_hand_21 rfl (fun h21 => ?_) (fun hz => absurd hz (by omega))
  refine lv_iconst (v := nI 0) hx hb dMo_hand_59 (by decide) ?_
  exact Co.retz hx hb hret hlk (by first | rfl | decide) dMo_hand_60 hS hP hD () rfl trivial rfl (Nat.le_of_ble_eq_true rfl) (Nat.le_of_ble_eq_true rfl)
set_option maxHeartbeats 4000000 in
set_option maxRecDepth 100000 in
theorem c_Mo_handC (l : Launch) (D : va_G) (ca : Nat → ClassId) (h : Nat) (ad : Nat → Nat) (co : Nat) (M : Nat → Nat → Nat) (s₀ : Nat) (hs : s₀ < 2) (y₀ : Int32) (hy0 : y₀ < 0 ∨ nI 3 ≤ y₀) (k₁ n₁ a₁ : Int32) : Co (S := Unit) l yMo_hand (Cond.code yMo_hand cMo_hand 6 (some FieldType.boolean) :: tb_) { frames := 6, cells := 0, slots := 0, locals := 192 } D ca [.ref h, .int (nI s₀), .int y₀, .int k₁, .int n₁, .int a₁] (mW h ad ca co M) (fun _ => some (.int (nI 0))) (fun _ => True) (fun _ => (mW h ad ca 1 M)) 0 0 := by
  refine Co.of cMo_hand 6 (some FieldType.boolean) (by decide) (Nat.le_of_ble_eq_true rfl) ?_
  intro p e s m args below meth c A ls fx hret hlk hin hE hP hD hS hA hl
  have hx := fx.1
  have hb := fx.2.1
  have hown : s.vm.findClass RMo = some m.cls := fx.2.2.2.1
  have hts := fx.2.2.2.2
  have ht : ∀ w ∈ tb_, w.before args s = true := fun w h => hts w (List.mem_cons_of_mem _ h)
  have hl : lv_has ls 6 [(0, .ref h), (1, .int (nI s₀)), (2, .int y₀), (3, .int k₁), (4, .int n₁), (5, .int a₁)] := hl
  refine lv_aload_n hx hb dMo_hand_0 rfl (lv_at hl 0 rfl) ?_
  refine lv_iload_n hx hb dMo_hand_1 rfl (lv_at hl 1 rfl) ?_
  refine lv_iload_n hx hb dMo_hand_2 rfl (lv_at hl 2 rfl) ?_
  refine kI (rS fx (c_Mo_channelOfC l D ca s₀ (by omega) y₀ hy0) ⟨callB_of 2 hts (tb_gi tw_767) rfl rfl rfl (ht _ tw_5) (ht _ tw_765) (by decide +kernel) ⟨(Nat.le_of_ble_eq_true rfl), (Nat.le_of_ble_eq_true rfl)⟩, ht _ tw_766⟩ hE hP hD [] rfl rfl rfl hl.1 rfl (Nat.le_of_ble_eq_true rfl) dMo_hand_3 ⟨(Nat.le_of_ble_eq_true rfl), (Nat.le_of_ble_eq_true rfl)⟩) hP hD hS hA [] [0, 1, 2, 3, 4, 5, 6, 7, 8, 9, 10, 11, 12, 13, 14, 15, 16, 17, 18, 19, 20, 21, 22, 23, 24, 25, 26, 27, 28] rfl rfl rfl (by decide) (fun _ H locs _ hP hD hS => ?_)
  have hP : va_P D cls_ (mW h ad ca co M) H := hP
  have hD : va_D A (mW h ad ca co M) := hD
  refine k_if_eq (tgt := 13) hx hb (by omega) dMo_hand_6 rfl (fun h6 => ?_) (fun hz => absurd hz (by omega))
  refine lv_iconst (v := nI 1) hx hb dMo_hand_13 (by decide) ?_
  refine va_put (D := D) (ci := 4) (v := .int (nI 1)) (ty := .int) (C := RMo) (T := TMo) (N := 29) hx hb ht inMo tyMo tyMo_ok nmMo hown hE.1 hP hD hS 0 rfl rfl 0 (by decide) (ht _ tw_587) (fun _ h => h) rfl (by decide +kernel) rfl rfl (Nat.le_of_ble_eq_true rfl) dMo_hand_14 (fun H locs hP hD hS => ?_)
  have hP : va_P D cls_ (mW h ad ca 1 M) H := hP
  have hD : va_D A (mW h ad ca 1 M) := hD
  refine lv_aload_n hx hb dMo_hand_17 rfl (lv_at hl 0 rfl) ?_
  refine va_get (D := D) (ci := 4) (v := .int (nI 1)) (C := RMo) (T := TMo) (N := 29) hx hb ht inMo hown hE.1 hP 0 rfl rfl 0 (by decide) (ht _ tw_587) (fun _ h => h) rfl dMo_hand_18 ?_
  refine k_if_gt (tgt := 59) hx hb (by omega) dMo_hand_21 rfl (fun h21 => ?_) (fun hz => absurd hz (by omega))
  refine lv_iconst (v := nI 0) hx hb dMo_hand_59 (by decide) ?_
  exact Co.retz hx hb hret hlk (by first | rfl | decide) dMo_hand_60 hS hP hD () rfl trivial rfl (Nat.le_of_ble_eq_true rfl) (Nat.le_of_ble_eq_true rfl)
set_option maxHeartbeats 4000000 in
set_option maxRecDepth 100000 in
theorem c_Mo_handN (l : Launch) (D : va_G) (ca : Nat → ClassId) (h : Nat) (ad : Nat → Nat) (co : Nat) (M : Nat → Nat → Nat) (s₀ cn : Nat) (hs : s₀ < 2) (hc : cn < 3) (k₁ n₁ a₁ : Int32) (hbad : k₁ < nI 1 ∨ nI 8 < k₁ ∨ n₁ < 0 ∨ nI 7 < n₁ ∨ a₁ < 0 ∨ nI 7 < a₁) : Co (S := Unit) l yMo_hand (Cond.code yMo_hand cMo_hand 6 (some FieldType.boolean) :: tb_) { frames := 6, cells := 0, slots := 0, locals := 192 } D ca [.ref h, .int (nI s₀), .int (nI cn), .int k₁, .int n₁, .int a₁] (mW h ad ca co M) (fun _ => some (.int (nI 0))) (fun _ => True) (fun _ => (mW h ad ca 0 M)) 0 0 := by
  refine Co.of cMo_hand 6 (some FieldType.boolean) (by decide) (Nat.le_of_ble_eq_true rfl) ?_
  intro p e s m args below meth c A ls fx hret hlk hin hE hP hD hS hA hl
  have hx := fx.1
  have hb := fx.2.1
  have hown : s.vm.findClass RMo = some m.cls := fx.2.2.2.1
  have hts := fx.2.2.2.2
  have ht : ∀ w ∈ tb_, w.before args s = true := fun w h => hts w (List.mem_cons_of_mem _ h)
  have hl : lv_has ls 6 [(0, .ref h), (1, .int (nI s₀)), (2, .int (nI cn)), (3, .int k₁), (4, .int n₁), (5, .int a₁)] := hl
  refine lv_aload_n hx hb dMo_hand_0 rfl (lv_at hl 0 rfl) ?_
  refine lv_iload_n hx hb dMo_hand_1 rfl (lv_at hl 1 rfl) ?_
  refine lv_iload_n hx hb dMo_hand_2 rfl (lv_at hl 2 rfl) ?_
  refine kI (rS fx (c_Mo_channelOf l D ca s₀ cn (by omega) (by omega)) ⟨callB_of 2 hts (tb_gi tw_767) rfl rfl rfl (ht _ tw_5) (ht _ tw_765) (by decide +kernel) ⟨(Nat.le_of_ble_eq_true rfl), (Nat.le_of_ble_eq_true rfl)⟩, ht _ tw_766⟩ hE hP hD [] rfl rfl rfl hl.1 rfl (Nat.le_of_ble_eq_true rfl) dMo_hand_3 ⟨(Nat.le_of_ble_eq_true rfl), (Nat.le_of_ble_eq_true rfl)⟩) hP hD hS hA [] [0, 1, 2, 3, 4, 5, 6, 7, 8, 9, 10, 11, 12, 13, 14, 15, 16, 17, 18, 19, 20, 21, 22, 23, 24, 25, 26, 27, 28] rfl rfl rfl (by decide) (fun _ H locs _ hP hD hS => ?_)
  have hP : va_P D cls_ (mW h ad ca co M) H := hP
  have hD : va_D A (mW h ad ca co M) := hD
  refine k_if_eq (tgt := 13) hx hb (by omega) dMo_hand_6 rfl (fun hz => absurd hz (by omega)) (fun h6 => ?_)
  refine lv_iconst (v := nI 0) hx hb dMo_hand_9 (by decide) ?_
  refine lv_goto (tgt := 14) hx hb dMo_hand_10 rfl ?_
  refine va_put (D := D) (ci := 4) (v := .int (nI 0)) (ty := .int) (C := RMo) (T := TMo) (N := 29) hx hb ht inMo tyMo tyMo_ok nmMo hown hE.1 hP hD hS 0 rfl rfl 0 (by decide) (ht _ tw_587) (fun _ h => h) rfl (by decide +kernel) rfl rfl (Nat.le_of_ble_eq_true rfl) dMo_hand_14 (fun H locs hP hD hS => ?_)
  have hP : va_P D cls_ (mW h ad ca 0 M) H := hP
  have hD : va_D A (mW h ad ca 0 M) := hD
  refine lv_aload_n hx hb dMo_hand_17 rfl (lv_at hl 0 rfl) ?_
  refine va_get (D := D) (ci := 4) (v := .int (nI 0)) (C := RMo) (T := TMo) (N := 29) hx hb ht inMo hown hE.1 hP 0 rfl rfl 0 (by decide) (ht _ tw_587) (fun _ h => h) rfl dMo_hand_18 ?_
  refine k_if_gt (tgt := 59) hx hb (by omega) dMo_hand_21 rfl (fun hz => absurd hz (by omega)) (fun h21 => ?_)
  refine lv_iload_n hx hb dMo_hand_24 rfl (lv_at hl 3 rfl) ?_
  refine lv_iconst (v := nI 1) hx hb dMo_hand_25 (by decide) ?_
  refine lv_icmp_lt (tgt := 59) hx hb dMo_hand_26 rfl (fun h26 => ?_) (fun h26 => ?_)
  · refine lv_iconst (v := nI 0) hx hb dMo_hand_59 (by decide) ?_
    exact Co.retz hx hb hret hlk (by first | rfl | decide) dMo_hand_60 hS hP hD () rfl trivial rfl (Nat.le_of_ble_eq_true rfl) (Nat.le_of_ble_eq_true rfl)
  · refine lv_iload_n hx hb dMo_hand_29 rfl (lv_at hl 3 rfl) ?_
    refine lv_bipush (v := nI 8) hx hb dMo_hand_30 (by decide) ?_
    refine lv_icmp_gt (tgt := 59) hx hb dMo_hand_32 rfl (fun h32 => ?_) (fun h32 => ?_)
    · refine lv_iconst (v := nI 0) hx hb dMo_hand_59 (by decide) ?_
      exact Co.retz hx hb hret hlk (by first | rfl | decide) dMo_hand_60 hS hP hD () rfl trivial rfl (Nat.le_of_ble_eq_true rfl) (Nat.le_of_ble_eq_true rfl)
    · refine lv_iload hx hb dMo_hand_35 (lv_at hl 4 rfl) ?_
      refine lv_if_lt (tgt := 59) hx hb dMo_hand_37 rfl (fun h37 => ?_) (fun h37 => ?_)
      · refine lv_iconst (v := nI 0) hx hb dMo_hand_59 (by decide) ?_
        exact Co.retz hx hb hret hlk (by first | rfl | decide) dMo_hand_60 hS hP hD () rfl trivial rfl (Nat.le_of_ble_eq_true rfl) (Nat.le_of_ble_eq_true rfl)
      · refine lv_iload hx hb dMo_hand_40 (lv_at hl 4 rfl) ?_
        refine lv_bipush (v := nI 7) hx hb dMo_hand_42 (by decide) ?_
        refine lv_icmp_gt (tgt := 59) hx hb dMo_hand_44 rfl (fun h44 => ?_) (fun h44 => ?_)
        · refine lv_iconst (v := nI 0) hx hb dMo_hand_59 (by decide) ?_
          exact Co.retz hx hb hret hlk (by first | rfl | decide) dMo_hand_60 hS hP hD () rfl trivial rfl (Nat.le_of_ble_eq_true rfl) (Nat.le_of_ble_eq_true rfl)
        · refine lv_iload hx hb dMo_hand_47 (lv_at hl 5 rfl) ?_
          refine lv_if_lt (tgt := 59) hx hb dMo_hand_49 rfl (fun h49 => ?_) (fun h49 => ?_)
          · refine lv_iconst (v := nI 0) hx hb dMo_hand_59 (by decide) ?_
            exact Co.retz hx hb hret hlk (by first | rfl | decide) dMo_hand_60 hS hP hD () rfl trivial rfl (Nat.le_of_ble_eq_true rfl) (Nat.le_of_ble_eq_true rfl)
          · refine lv_iload hx hb dMo_hand_52 (lv_at hl 5 rfl) ?_
            refine lv_bipush (v := nI 7) hx hb dMo_hand_54 (by decide) ?_
            refine lv_icmp_le (tgt := 61) hx hb dMo_hand_56 rfl (fun hz => absurd hz (Int32.not_le.mpr (by rcases hbad with q | q | q | q | q | q <;> first | exact absurd q h26 | exact absurd q h32 | exact absurd q h37 | exact absurd q h44 | exact absurd q h49 | exact q))) (fun h56 => ?_)
            refine lv_iconst (v := nI 0) hx hb dMo_hand_59 (by decide) ?_
            exact Co.retz hx hb hret hlk (by first | rfl | decide) dMo_hand_60 hS hP hD () rfl trivial rfl (Nat.le_of_ble_eq_true rfl) (Nat.le_of_ble_eq_true rfl)
set_option maxHeartbeats 4000000 in
set_option maxRecDepth 100000 in
theorem c_Mo_send (l : Launch) (D : va_G) (ca : Nat → ClassId) (h : Nat) (ad : Nat → Nat) (co : Nat) (M : Nat → Nat → Nat) (s₀ cn : Nat) (hM : mOk M) (hs : s₀ < 2) (hc : cn < 3) (vl mo : Nat) (hvl : vl < 256) (hmo : mo < 2) (hup : M 10 s₀ = 2 ∧ M 17 s₀ ≤ 9) (hst : M 23 (3 * s₀ + cn) = 3) (hwin : ds (M 25 (3 * s₀ + cn)) (M 24 (3 * s₀ + cn)) < 2) : Co (S := Unit) l yMo_send (Cond.code yMo_send cMo_send 6 (some FieldType.boolean) :: tb_) { frames := 5, cells := 0, slots := 0, locals := 160 } D ca [.ref h, .int (nI s₀), .int (nI cn), .int (nI vl), .int (nI mo)] (mW h ad ca co M) (fun _ => some (.int (nI 1))) (fun _ => True) (fun _ => (mW h ad ca 0 (mSend M s₀ cn (if mo = 0 then vl else vl + 256)))) 0 0 := by
  refine Co.of cMo_send 6 (some FieldType.boolean) (by decide) (Nat.le_of_ble_eq_true rfl) ?_
  intro p e s m args below meth c A ls fx hret hlk hin hE hP hD hS hA hl
  have hx := fx.1
  have hb := fx.2.1
  have hown : s.vm.findClass RMo = some m.cls := fx.2.2.2.1
  have hts := fx.2.2.2.2
  have ht : ∀ w ∈ tb_, w.before args s = true := fun w h => hts w (List.mem_cons_of_mem _ h)
  have e3 : (if M 10 s₀ = 2 ∧ M 17 s₀ ≤ 9 then 0 else 3) = 0 := if_pos hup
  have b1 : M 23 (3 * s₀ + cn) < 6 := hM 23 _
  have b4 : M 24 (3 * s₀ + cn) < 8 := hM 24 _
  have b5 : M 25 (3 * s₀ + cn) < 8 := hM 25 _
  have b7 : M 27 (3 * s₀ + cn) < 8 := hM 27 _
  have b9 := ds_lt (M 25 (3 * s₀ + cn)) (M 24 (3 * s₀ + cn))
  have hl : lv_has ls 6 [(0, .ref h), (1, .int (nI s₀)), (2, .int (nI cn)), (3, .int (nI vl)), (4, .int (nI mo))] := hl
  refine lv_aload_n hx hb dMo_send_0 rfl (lv_at hl 0 rfl) ?_
  refine lv_iload_n hx hb dMo_send_1 rfl (lv_at hl 1 rfl) ?_
  refine lv_iload_n hx hb dMo_send_2 rfl (lv_at hl 2 rfl) ?_
  refine kI (rS fx (c_Mo_channelOf l D ca s₀ cn (by omega) (by omega)) ⟨callB_of 2 hts (tb_gi tw_767) rfl rfl rfl (ht _ tw_5) (ht _ tw_765) (by decide +kernel) ⟨(Nat.le_of_ble_eq_true rfl), (Nat.le_of_ble_eq_true rfl)⟩, ht _ tw_766⟩ hE hP hD [] rfl rfl rfl hl.1 rfl (Nat.le_of_ble_eq_true rfl) dMo_send_3 ⟨(Nat.le_of_ble_eq_true rfl), (Nat.le_of_ble_eq_true rfl)⟩) hP hD hS hA [] [0, 1, 2, 3, 4, 5, 6, 7, 8, 9, 10, 11, 12, 13, 14, 15, 16, 17, 18, 19, 20, 21, 22, 23, 24, 25, 26, 27, 28] rfl rfl rfl (by decide) (fun _ H locs _ hP hD hS => ?_)
  have hP : va_P D cls_ (mW h ad ca co M) H := hP
  have hD : va_D A (mW h ad ca co M) := hD
  refine k_if_ne (tgt := 13) hx hb (by omega) dMo_send_6 rfl (fun h6 => ?_) (fun hz => absurd hz (by omega))
  refine lv_iload_n hx hb dMo_send_13 rfl (lv_at hl 3 rfl) ?_
  refine k_if_lt (tgt := 24) hx hb (by omega) dMo_send_14 rfl ?_
  refine lv_iload_n hx hb dMo_send_17 rfl (lv_at hl 3 rfl) ?_
  refine lv_sipush (v := nI 255) hx hb dMo_send_18 (by decide) ?_
  refine k_icmp_le (tgt := 28) hx hb (by omega) (by omega) dMo_send_21 rfl (fun h21 => ?_) (fun hz => absurd hz (by omega))
  refine lv_aload_n hx hb dMo_send_28 rfl (lv_at hl 0 rfl) ?_
  refine lv_iload_n hx hb dMo_send_29 rfl (lv_at hl 1 rfl) ?_
  refine lv_iload_n hx hb dMo_send_30 rfl (lv_at hl 2 rfl) ?_
  refine lv_iconst (v := nI 3) hx hb dMo_send_31 (by decide) ?_
  refine kI (rV fx (c_Mo_bars l D ca h ad co M s₀ cn (by first | assumption | exact mOk.idle (by assumption) _ | exact mOk.clean (by assumption) _ | exact mOk.renew (by assumption) _ | exact (mOk.renew (by assumption) _).set 23 (show 3 < 6 by decide) | exact (mOk.renew (by assumption) _).set 23 (show 5 < 6 by decide)) (by omega) (by omega) 3) ⟨callB_of 3 hts (tb_gi tw_783) rfl rfl rfl (ht _ tw_5) (ht _ tw_780) (by decide +kernel) ⟨(Nat.le_of_ble_eq_true rfl), (Nat.le_of_ble_eq_true rfl)⟩, ht _ tw_782, ht _ tw_861⟩ hE hP hD 0 rfl rfl rfl [0, 1, 2, 3, 4, 5, 6, 7, 8, 9, 10, 11, 12, 13, 14, 15, 16, 17, 18, 19, 20, 21, 22, 23, 24, 25, 26, 27, 28] rfl rfl rfl hl.1 rfl (Nat.le_of_ble_eq_true rfl) dMo_send_32 ⟨(Nat.le_of_ble_eq_true rfl), (Nat.le_of_ble_eq_true rfl)⟩) hP hD hS hA [0, 1, 2, 3, 4, 5, 6, 7, 8, 9, 10, 11, 12, 13, 14, 15, 16, 17, 18, 19, 20, 21, 22, 23, 24, 25, 26, 27, 28] [] rfl rfl rfl (by decide) (fun _ H locs _ hP hD hS => ?_)
  have hP : va_P D cls_ (mW h ad ca co M) H := hP
  have hD : va_D A (mW h ad ca co M) := hD
  refine k_is (y := nI 0) (by rw [e3]) ?_
  refine va_put (D := D) (ci := 4) (v := .int (nI 0)) (ty := .int) (C := RMo) (T := TMo) (N := 29) hx hb ht inMo tyMo tyMo_ok nmMo hown hE.1 hP hD hS 0 rfl rfl 0 (by decide) (ht _ tw_587) (fun _ h => h) rfl (by decide +kernel) rfl rfl (Nat.le_of_ble_eq_true rfl) dMo_send_35 (fun H locs hP hD hS => ?_)
  have hP : va_P D cls_ (mW h ad ca 0 M) H := hP
  have hD : va_D A (mW h ad ca 0 M) := hD
  refine lv_aload_n hx hb dMo_send_38 rfl (lv_at hl 0 rfl) ?_
  refine va_get (D := D) (ci := 4) (v := .int (nI 0)) (C := RMo) (T := TMo) (N := 29) hx hb ht inMo hown hE.1 hP 0 rfl rfl 0 (by decide) (ht _ tw_587) (fun _ h => h) rfl dMo_send_39 ?_
  refine k_if_ne (tgt := 68) hx hb (by omega) dMo_send_42 rfl (fun hz => absurd hz (by omega)) (fun h42 => ?_)
  refine lv_aload_n hx hb dMo_send_45 rfl (lv_at hl 0 rfl) ?_
  refine lv_aload_n hx hb dMo_send_46 rfl (lv_at hl 0 rfl) ?_
  refine va_get (D := D) (ci := 4) (v := .ref (ad 23)) (C := RMo) (T := TMo) (N := 29) hx hb ht inMo hown hE.1 hP 0 rfl rfl 23 (by decide) (ht _ tw_610) (fun _ h => h) rfl dMo_send_47 ?_
  refine lv_iconst (v := nI 3) hx hb dMo_send_50 (by decide) ?_
  refine lv_iload_n hx hb dMo_send_51 rfl (lv_at hl 1 rfl) ?_
  refine k_imul hx hb dMo_send_52 ?_
  refine lv_iload_n hx hb dMo_send_53 rfl (lv_at hl 2 rfl) ?_
  refine k_iadd hx hb dMo_send_54 ?_
  refine k_iald hx hb hE.1 hP 23 0 (n := 6) (g := (M 23)) rfl rfl (i := ((3 * s₀) + cn)) (by omega) (by decide) dMo_send_55 ?_
  refine lv_iconst (v := nI 3) hx hb dMo_send_56 (by decide) ?_
  refine k_icmp_ne (tgt := 64) hx hb (by omega) (by omega) dMo_send_57 rfl (fun hz => absurd hz (by omega)) (fun h57 => ?_)
  refine lv_iconst (v := nI 0) hx hb dMo_send_60 (by decide) ?_
  refine lv_goto (tgt := 65) hx hb dMo_send_61 rfl ?_
  refine va_put (D := D) (ci := 4) (v := .int (nI 0)) (ty := .int) (C := RMo) (T := TMo) (N := 29) hx hb ht inMo tyMo tyMo_ok nmMo hown hE.1 hP hD hS 0 rfl rfl 0 (by decide) (ht _ tw_587) (fun _ h => h) rfl (by decide +kernel) rfl rfl (Nat.le_of_ble_eq_true rfl) dMo_send_65 (fun H locs hP hD hS => ?_)
  have hP : va_P D cls_ (mW h ad ca 0 M) H := hP
  have hD : va_D A (mW h ad ca 0 M) := hD
  refine lv_aload_n hx hb dMo_send_68 rfl (lv_at hl 0 rfl) ?_
  refine va_get (D := D) (ci := 4) (v := .int (nI 0)) (C := RMo) (T := TMo) (N := 29) hx hb ht inMo hown hE.1 hP 0 rfl rfl 0 (by decide) (ht _ tw_587) (fun _ h => h) rfl dMo_send_69 ?_
  refine k_if_le (tgt := 77) hx hb (by omega) dMo_send_72 rfl (fun h72 => ?_) (fun hz => absurd hz (by omega))
  refine lv_iconst (v := nI 3) hx hb dMo_send_77 (by decide) ?_
  refine lv_iload_n hx hb dMo_send_78 rfl (lv_at hl 1 rfl) ?_
  refine k_imul hx hb dMo_send_79 ?_
  refine lv_iload_n hx hb dMo_send_80 rfl (lv_at hl 2 rfl) ?_
  refine k_iadd hx hb dMo_send_81 ?_
  refine lv_istore hx hb dMo_send_82 hl (by decide) rfl (fun ls hl => ?_)
  have hl : lv_has ls 6 [(5, .int (nI ((3 * s₀) + cn))), (0, .ref h), (1, .int (nI s₀)), (2, .int (nI cn)), (3, .int (nI vl)), (4, .int (nI mo))] := hl
  refine lv_aload_n hx hb dMo_send_84 rfl (lv_at hl 1 rfl) ?_
  refine va_get (D := D) (ci := 4) (v := .ref (ad 24)) (C := RMo) (T := TMo) (N := 29) hx hb ht inMo hown hE.1 hP 0 rfl rfl 24 (by decide) (ht _ tw_611) (fun _ h => h) rfl dMo_send_85 ?_
  refine lv_iload hx hb dMo_send_88 (lv_at hl 0 rfl) ?_
  refine k_iald hx hb hE.1 hP 24 0 (n := 6) (g := (M 24)) rfl rfl (i := ((3 * s₀) + cn)) (by omega) (by decide) dMo_send_90 ?_
  refine lv_aload_n hx hb dMo_send_91 rfl (lv_at hl 1 rfl) ?_
  refine va_get (D := D) (ci := 4) (v := .ref (ad 25)) (C := RMo) (T := TMo) (N := 29) hx hb ht inMo hown hE.1 hP 0 rfl rfl 25 (by decide) (ht _ tw_612) (fun _ h => h) rfl dMo_send_92 ?_
  refine lv_iload hx hb dMo_send_95 (lv_at hl 0 rfl) ?_
  refine k_iald hx hb hE.1 hP 25 0 (n := 6) (g := (M 25)) rfl rfl (i := ((3 * s₀) + cn)) (by omega) (by decide) dMo_send_97 ?_
  refine kI (rS fx (c_Mo_less l D ca (M 24 ((3 * s₀) + cn)) (M 25 ((3 * s₀) + cn)) (by omega) (by omega)) ⟨callB_of 2 hts (tb_gi tw_717) rfl rfl rfl (ht _ tw_5) (ht _ tw_715) (by decide +kernel) ⟨(Nat.le_of_ble_eq_true rfl), (Nat.le_of_ble_eq_true rfl)⟩, ht _ tw_716⟩ hE hP hD [] rfl rfl rfl hl.1 rfl (Nat.le_of_ble_eq_true rfl) dMo_send_98 ⟨(Nat.le_of_ble_eq_true rfl), (Nat.le_of_ble_eq_true rfl)⟩) hP hD hS hA [] [0, 1, 2, 3, 4, 5, 6, 7, 8, 9, 10, 11, 12, 13, 14, 15, 16, 17, 18, 19, 20, 21, 22, 23, 24, 25, 26, 27, 28] rfl rfl rfl (by decide) (fun _ H locs _ hP hD hS => ?_)
  have hP : va_P D cls_ (mW h ad ca 0 M) H := hP
  have hD : va_D A (mW h ad ca 0 M) := hD
  refine lv_iconst (v := nI 2) hx hb dMo_send_101 (by decide) ?_
  refine k_icmp_ne (tgt := 107) hx hb (by omega) (by omega) dMo_send_102 rfl (fun h102 => ?_) (fun hz => absurd hz (by omega))
  refine lv_aload_n hx hb dMo_send_107 rfl (lv_at hl 1 rfl) ?_
  refine lv_iload_n hx hb dMo_send_108 rfl (lv_at hl 2 rfl) ?_
  refine lv_iconst (v := nI 5) hx hb dMo_send_109 (by decide) ?_
  refine lv_iload_n hx hb dMo_send_110 rfl (lv_at hl 3 rfl) ?_
  refine lv_aload_n hx hb dMo_send_111 rfl (lv_at hl 1 rfl) ?_
  refine va_get (D := D) (ci := 4) (v := .ref (ad 24)) (C := RMo) (T := TMo) (N := 29) hx hb ht inMo hown hE.1 hP 0 rfl rfl 24 (by decide) (ht _ tw_611) (fun _ h => h) rfl dMo_send_112 ?_
  refine lv_iload hx hb dMo_send_115 (lv_at hl 0 rfl) ?_
  refine k_iald hx hb hE.1 hP 24 0 (n := 6) (g := (M 24)) rfl rfl (i := ((3 * s₀) + cn)) (by omega) (by decide) dMo_send_117 ?_
  refine lv_aload_n hx hb dMo_send_118 rfl (lv_at hl 1 rfl) ?_
  refine va_get (D := D) (ci := 4) (v := .ref (ad 27)) (C := RMo) (T := TMo) (N := 29) hx hb ht inMo hown hE.1 hP 0 rfl rfl 27 (by decide) (ht _ tw_614) (fun _ h => h) rfl dMo_send_119 ?_
  refine lv_iload hx hb dMo_send_122 (lv_at hl 0 rfl) ?_
  refine k_iald hx hb hE.1 hP 27 0 (n := 6) (g := (M 27)) rfl rfl (i := ((3 * s₀) + cn)) (by omega) (by decide) dMo_send_124 ?_
  refine lv_iload hx hb dMo_send_125 (lv_at hl 5 rfl) ?_
  refine k_if_eq (tgt := 138) hx hb (by omega) dMo_send_127 rfl (fun h127 => ?_) (fun h127 => ?_)
  · refine lv_iload_n hx hb dMo_send_138 rfl (lv_at hl 4 rfl) ?_
    refine kV (rV fx (c_Mo_post l D ca h ad 0 M s₀ 5 cn (M 24 ((3 * s₀) + cn)) (M 27 ((3 * s₀) + cn)) vl (by first | assumption | exact mOk.idle (by assumption) _ | exact mOk.clean (by assumption) _ | exact mOk.renew (by assumption) _ | exact (mOk.renew (by assumption) _).set 23 (show 3 < 6 by decide) | exact (mOk.renew (by assumption) _).set 23 (show 5 < 6 by decide)) (by omega) (by omega) (by omega) (by omega) (by omega) (by omega)) ⟨callB_of 6 hts (tb_gi tw_748) rfl rfl rfl (ht _ tw_5) (ht _ tw_745) (by decide +kernel) ⟨(Nat.le_of_ble_eq_true rfl), (Nat.le_of_ble_eq_true rfl)⟩, ht _ tw_747, ht _ tw_858⟩ hE hP hD 0 rfl rfl rfl [0, 1, 2, 3, 4, 5, 6, 7, 8, 9, 10, 11, 12, 13, 14, 15, 16, 17, 18, 19, 20, 21, 22, 23, 24, 25, 26, 27, 28] rfl rfl rfl hl.1 rfl (Nat.le_of_ble_eq_true rfl) dMo_send_139 ⟨(Nat.le_of_ble_eq_true rfl), (Nat.le_of_ble_eq_true rfl)⟩) hP hD hS hA [0, 1, 2, 3, 4, 5, 6, 7, 8, 9, 10, 11, 12, 13, 14, 15, 16, 17, 18, 19, 20, 21, 22, 23, 24, 25, 26, 27, 28] [] rfl rfl rfl (by decide) (fun _ H locs _ hP hD hS => ?_)
    have hP : va_P D cls_ (mW h ad ca 0 (mPost M s₀ 5 cn (M 24 ((3 * s₀) + cn)) (M 27 ((3 * s₀) + cn)) vl)) H := hP
    have hD : va_D A (mW h ad ca 0 (mPost M s₀ 5 cn (M 24 ((3 * s₀) + cn)) (M 27 ((3 * s₀) + cn)) vl)) := hD
    have b8 : (mPost M s₀ 5 cn (M 24 ((3 * s₀) + cn)) (M 27 ((3 * s₀) + cn)) vl) 24 (3 * s₀ + cn) < 8 := (mOk.post hM s₀ (by decide) (by omega) (by omega) (by omega) (by omega)) 24 _
    refine lv_aload_n hx hb dMo_send_142 rfl (lv_at hl 1 rfl) ?_
    refine va_get (D := D) (ci := 4) (v := .ref (ad 24)) (C := RMo) (T := TMo) (N := 29) hx hb ht inMo hown hE.1 hP 0 rfl rfl 24 (by decide) (ht _ tw_611) (fun _ h => h) rfl dMo_send_143 ?_
    refine lv_iload hx hb dMo_send_146 (lv_at hl 0 rfl) ?_
    refine lv_aload_n hx hb dMo_send_148 rfl (lv_at hl 1 rfl) ?_
    refine va_get (D := D) (ci := 4) (v := .ref (ad 24)) (C := RMo) (T := TMo) (N := 29) hx hb ht inMo hown hE.1 hP 0 rfl rfl 24 (by decide) (ht _ tw_611) (fun _ h => h) rfl dMo_send_149 ?_
    refine lv_iload hx hb dMo_send_152 (lv_at hl 0 rfl) ?_
    refine k_iald hx hb hE.1 hP 24 0 (n := 6) (g := ((mPost M s₀ 5 cn (M 24 ((3 * s₀) + cn)) (M 27 ((3 * s₀) + cn)) vl) 24)) rfl rfl (i := ((3 * s₀) + cn)) (by omega) (by decide) dMo_send_154 ?_
    refine kI (rS fx (c_Mo_grown l D ca ((mPost M s₀ 5 cn (M 24 ((3 * s₀) + cn)) (M 27 ((3 * s₀) + cn)) vl) 24 ((3 * s₀) + cn)) (by omega)) ⟨callB_of 1 hts (tb_gi tw_736) rfl rfl rfl (ht _ tw_5) (ht _ tw_734) (by decide +kernel) ⟨(Nat.le_of_ble_eq_true rfl), (Nat.le_of_ble_eq_true rfl)⟩, ht _ tw_735⟩ hE hP hD [] rfl rfl rfl hl.1 rfl (Nat.le_of_ble_eq_true rfl) dMo_send_155 ⟨(Nat.le_of_ble_eq_true rfl), (Nat.le_of_ble_eq_true rfl)⟩) hP hD hS hA [] [0, 1, 2, 3, 4, 5, 6, 7, 8, 9, 10, 11, 12, 13, 14, 15, 16, 17, 18, 19, 20, 21, 22, 23, 24, 25, 26, 27, 28] rfl rfl rfl (by decide) (fun _ H locs _ hP hD hS => ?_)
    have hP : va_P D cls_ (mW h ad ca 0 (mPost M s₀ 5 cn (M 24 ((3 * s₀) + cn)) (M 27 ((3 * s₀) + cn)) vl)) H := hP
    have hD : va_D A (mW h ad ca 0 (mPost M s₀ 5 cn (M 24 ((3 * s₀) + cn)) (M 27 ((3 * s₀) + cn)) vl)) := hD
    refine k_iast hx hb hE.1 hP hD hS 24 0 (n := 6) (g := ((mPost M s₀ 5 cn (M 24 ((3 * s₀) + cn)) (M 27 ((3 * s₀) + cn)) vl) 24)) rfl rfl (i := ((3 * s₀) + cn)) (x := (af ((mPost M s₀ 5 cn (M 24 ((3 * s₀) + cn)) (M 27 ((3 * s₀) + cn)) vl) 24 ((3 * s₀) + cn)))) (by omega) (by decide) dMo_send_158 (fun H locs hP hD hS => ?_)
    rw [mo_set_24] at hP hD
    refine lv_iconst (v := nI 1) hx hb dMo_send_159 (by decide) ?_
    have e9 : (if mo = 0 then vl else vl + 256) = vl := if_pos (by omega)
    exact Co.retz hx hb hret hlk (by first | rfl | decide) dMo_send_160 hS hP hD () rfl trivial (by first | (rw [e9]; done) | (rw [e9]; rfl)) (Nat.le_of_ble_eq_true rfl) (Nat.le_of_ble_eq_true rfl)
  · refine lv_iload_n hx hb dMo_send_130 rfl (lv_at hl 4 rfl) ?_
    refine lv_sipush (v := nI 256) hx hb dMo_send_131 (by decide) ?_
    refine k_iadd hx hb dMo_send_134 ?_
    refine lv_goto (tgt := 139) hx hb dMo_send_135 rfl ?_
    refine kV (rV fx (c_Mo_post l D ca h ad 0 M s₀ 5 cn (M 24 ((3 * s₀) + cn)) (M 27 ((3 * s₀) + cn)) (vl + 256) (by first | assumption | exact mOk.idle (by assumption) _ | exact mOk.clean (by assumption) _ | exact mOk.renew (by assumption) _ | exact (mOk.renew (by assumption) _).set 23 (show 3 < 6 by decide) | exact (mOk.renew (by assumption) _).set 23 (show 5 < 6 by decide)) (by omega) (by omega) (by omega) (by omega) (by omega) (by omega)) ⟨callB_of 6 hts (tb_gi tw_748) rfl rfl rfl (ht _ tw_5) (ht _ tw_745) (by decide +kernel) ⟨(Nat.le_of_ble_eq_true rfl), (Nat.le_of_ble_eq_true rfl)⟩, ht _ tw_747, ht _ tw_858⟩ hE hP hD 0 rfl rfl rfl [0, 1, 2, 3, 4, 5, 6, 7, 8, 9, 10, 11, 12, 13, 14, 15, 16, 17, 18, 19, 20, 21, 22, 23, 24, 25, 26, 27, 28] rfl rfl rfl hl.1 rfl (Nat.le_of_ble_eq_true rfl) dMo_send_139 ⟨(Nat.le_of_ble_eq_true rfl), (Nat.le_of_ble_eq_true rfl)⟩) hP hD hS hA [0, 1, 2, 3, 4, 5, 6, 7, 8, 9, 10, 11, 12, 13, 14, 15, 16, 17, 18, 19, 20, 21, 22, 23, 24, 25, 26, 27, 28] [] rfl rfl rfl (by decide) (fun _ H locs _ hP hD hS => ?_)
    have hP : va_P D cls_ (mW h ad ca 0 (mPost M s₀ 5 cn (M 24 ((3 * s₀) + cn)) (M 27 ((3 * s₀) + cn)) (vl + 256))) H := hP
    have hD : va_D A (mW h ad ca 0 (mPost M s₀ 5 cn (M 24 ((3 * s₀) + cn)) (M 27 ((3 * s₀) + cn)) (vl + 256))) := hD
    have b8 : (mPost M s₀ 5 cn (M 24 ((3 * s₀) + cn)) (M 27 ((3 * s₀) + cn)) (vl + 256)) 24 (3 * s₀ + cn) < 8 := (mOk.post hM s₀ (by decide) (by omega) (by omega) (by omega) (by omega)) 24 _
    refine lv_aload_n hx hb dMo_send_142 rfl (lv_at hl 1 rfl) ?_
    refine va_get (D := D) (ci := 4) (v := .ref (ad 24)) (C := RMo) (T := TMo) (N := 29) hx hb ht inMo hown hE.1 hP 0 rfl rfl 24 (by decide) (ht _ tw_611) (fun _ h => h) rfl dMo_send_143 ?_
    refine lv_iload hx hb dMo_send_146 (lv_at hl 0 rfl) ?_
    refine lv_aload_n hx hb dMo_send_148 rfl (lv_at hl 1 rfl) ?_
    refine va_get (D := D) (ci := 4) (v := .ref (ad 24)) (C := RMo) (T := TMo) (N := 29) hx hb ht inMo hown hE.1 hP 0 rfl rfl 24 (by decide) (ht _ tw_611) (fun _ h => h) rfl dMo_send_149 ?_
    refine lv_iload hx hb dMo_send_152 (lv_at hl 0 rfl) ?_
    refine k_iald hx hb hE.1 hP 24 0 (n := 6) (g := ((mPost M s₀ 5 cn (M 24 ((3 * s₀) + cn)) (M 27 ((3 * s₀) + cn)) (vl + 256)) 24)) rfl rfl (i := ((3 * s₀) + cn)) (by omega) (by decide) dMo_send_154 ?_
    refine kI (rS fx (c_Mo_grown l D ca ((mPost M s₀ 5 cn (M 24 ((3 * s₀) + cn)) (M 27 ((3 * s₀) + cn)) (vl + 256)) 24 ((3 * s₀) + cn)) (by omega)) ⟨callB_of 1 hts (tb_gi tw_736) rfl rfl rfl (ht _ tw_5) (ht _ tw_734) (by decide +kernel) ⟨(Nat.le_of_ble_eq_true rfl), (Nat.le_of_ble_eq_true rfl)⟩, ht _ tw_735⟩ hE hP hD [] rfl rfl rfl hl.1 rfl (Nat.le_of_ble_eq_true rfl) dMo_send_155 ⟨(Nat.le_of_ble_eq_true rfl), (Nat.le_of_ble_eq_true rfl)⟩) hP hD hS hA [] [0, 1, 2, 3, 4, 5, 6, 7, 8, 9, 10, 11, 12, 13, 14, 15, 16, 17, 18, 19, 20, 21, 22, 23, 24, 25, 26, 27, 28] rfl rfl rfl (by decide) (fun _ H locs _ hP hD hS => ?_)
    have hP : va_P D cls_ (mW h ad ca 0 (mPost M s₀ 5 cn (M 24 ((3 * s₀) + cn)) (M 27 ((3 * s₀) + cn)) (vl + 256))) H := hP
    have hD : va_D A (mW h ad ca 0 (mPost M s₀ 5 cn (M 24 ((3 * s₀) + cn)) (M 27 ((3 * s₀) + cn)) (vl + 256))) := hD
    refine k_iast hx hb hE.1 hP hD hS 24 0 (n := 6) (g := ((mPost M s₀ 5 cn (M 24 ((3 * s₀) + cn)) (M 27 ((3 * s₀) + cn)) (vl + 256)) 24)) rfl rfl (i := ((3 * s₀) + cn)) (x := (af ((mPost M s₀ 5 cn (M 24 ((3 * s₀) + cn)) (M 27 ((3 * s₀) + cn)) (vl + 256)) 24 ((3 * s₀) + cn)))) (by omega) (by decide) dMo_send_158 (fun H locs hP hD hS => ?_)
    rw [mo_set_24] at hP hD
    refine lv_iconst (v := nI 1) hx hb dMo_send_159 (by decide) ?_
    have e9 : (if mo = 0 then vl else vl + 256) = vl + 256 := if_neg (by omega)
    exact Co.retz hx hb hret hlk (by first | rfl | decide) dMo_send_160 hS hP hD () rfl trivial (by first | (rw [e9]; done) | (rw [e9]; rfl)) (Nat.le_of_ble_eq_true rfl) (Nat.le_of_ble_eq_true rfl)
set_option maxHeartbeats 4000000 in
set_option maxRecDepth 100000 in
theorem c_Mo_sendNo (l : Launch) (D : va_G) (ca : Nat → ClassId) (h : Nat) (ad : Nat → Nat) (co : Nat) (M : Nat → Nat → Nat) (s₀ cn : Nat) (hM : mOk M) (hs : s₀ < 2) (hc : cn < 3) (vl mo : Nat) (hvl : vl < 256) (hmo : mo < 2) (hup : M 10 s₀ = 2 ∧ M 17 s₀ ≤ 9) (hst : M 23 (3 * s₀ + cn) = 3) (hwin : ds (M 25 (3 * s₀ + cn)) (M 24 (3 * s₀ + cn)) = 2) : Co (S := Unit) l yMo_send (Cond.code yMo_send cMo_send 6 (some FieldType.boolean) :: tb_) { frames := 5, cells := 0, slots := 0, locals := 160 } D ca [.ref h, .int (nI s₀), .int (nI cn), .int (nI vl), .int (nI mo)] (mW h ad ca co M) (fun _ => some (.int (nI 0))) (fun _ => True) (fun _ => (mW h ad ca 0 M)) 0 0 := by
  refine Co.of cMo_send 6 (some FieldType.boolean) (by decide) (Nat.le_of_ble_eq_true rfl) ?_
  intro p e s m args below meth c A ls fx hret hlk hin hE hP hD hS hA hl
  have hx := fx.1
  have hb := fx.2.1
  have hown : s.vm.findClass RMo = some m.cls := fx.2.2.2.1
  have hts := fx.2.2.2.2
  have ht : ∀ w ∈ tb_, w.before args s = true := fun w h => hts w (List.mem_cons_of_mem _ h)
  have e3 : (if M 10 s₀ = 2 ∧ M 17 s₀ ≤ 9 then 0 else 3) = 0 := if_pos hup
  have b1 : M 23 (3 * s₀ + cn) < 6 := hM 23 _
  have b4 : M 24 (3 * s₀ + cn) < 8 := hM 24 _
  have b5 : M 25 (3 * s₀ + cn) < 8 := hM 25 _
  have b7 : M 27 (3 * s₀ + cn) < 8 := hM 27 _
  have b9 := ds_lt (M 25 (3 * s₀ + cn)) (M 24 (3 * s₀ + cn))
  have hl : lv_has ls 6 [(0, .ref h), (1, .int (nI s₀)), (2, .int (nI cn)), (3, .int (nI vl)), (4, .int (nI mo))] := hl
  refine lv_aload_n hx hb dMo_send_0 rfl (lv_at hl 0 rfl) ?_
  refine lv_iload_n hx hb dMo_send_1 rfl (lv_at hl 1 rfl) ?_
  refine lv_iload_n hx hb dMo_send_2 rfl (lv_at hl 2 rfl) ?_
  refine kI (rS fx (c_Mo_channelOf l D ca s₀ cn (by omega) (by omega)) ⟨callB_of 2 hts (tb_gi tw_767) rfl rfl rfl (ht _ tw_5) (ht _ tw_765) (by decide +kernel) ⟨(Nat.le_of_ble_eq_true rfl), (Nat.le_of_ble_eq_true rfl)⟩, ht _ tw_766⟩ hE hP hD [] rfl rfl rfl hl.1 rfl (Nat.le_of_ble_eq_true rfl) dMo_send_3 ⟨(Nat.le_of_ble_eq_true rfl), (Nat.le_of_ble_eq_true rfl)⟩) hP hD hS hA [] [0, 1, 2, 3, 4, 5, 6, 7, 8, 9, 10, 11, 12, 13, 14, 15, 16, 17, 18, 19, 20, 21, 22, 23, 24, 25, 26, 27, 28] rfl rfl rfl (by decide) (fun _ H locs _ hP hD hS => ?_)
  have hP : va_P D cls_ (mW h ad ca co M) H := hP
  have hD : va_D A (mW h ad ca co M) := hD
  refine k_if_ne (tgt := 13) hx hb (by omega) dMo_send_6 rfl (fun h6 => ?_) (fun hz => absurd hz (by omega))
  refine lv_iload_n hx hb dMo_send_13 rfl (lv_at hl 3 rfl) ?_
  refine k_if_lt (tgt := 24) hx hb (by omega) dMo_send_14 rfl ?_
  refine lv_iload_n hx hb dMo_send_17 rfl (lv_at hl 3 rfl) ?_
  refine lv_sipush (v := nI 255) hx hb dMo_send_18 (by decide) ?_
  refine k_icmp_le (tgt := 28) hx hb (by omega) (by omega) dMo_send_21 rfl (fun h21 => ?_) (fun hz => absurd hz (by omega))
  refine lv_aload_n hx hb dMo_send_28 rfl (lv_at hl 0 rfl) ?_
  refine lv_iload_n hx hb dMo_send_29 rfl (lv_at hl 1 rfl) ?_
  refine lv_iload_n hx hb dMo_send_30 rfl (lv_at hl 2 rfl) ?_
  refine lv_iconst (v := nI 3) hx hb dMo_send_31 (by decide) ?_
  refine kI (rV fx (c_Mo_bars l D ca h ad co M s₀ cn (by first | assumption | exact mOk.idle (by assumption) _ | exact mOk.clean (by assumption) _ | exact mOk.renew (by assumption) _ | exact (mOk.renew (by assumption) _).set 23 (show 3 < 6 by decide) | exact (mOk.renew (by assumption) _).set 23 (show 5 < 6 by decide)) (by omega) (by omega) 3) ⟨callB_of 3 hts (tb_gi tw_783) rfl rfl rfl (ht _ tw_5) (ht _ tw_780) (by decide +kernel) ⟨(Nat.le_of_ble_eq_true rfl), (Nat.le_of_ble_eq_true rfl)⟩, ht _ tw_782, ht _ tw_861⟩ hE hP hD 0 rfl rfl rfl [0, 1, 2, 3, 4, 5, 6, 7, 8, 9, 10, 11, 12, 13, 14, 15, 16, 17, 18, 19, 20, 21, 22, 23, 24, 25, 26, 27, 28] rfl rfl rfl hl.1 rfl (Nat.le_of_ble_eq_true rfl) dMo_send_32 ⟨(Nat.le_of_ble_eq_true rfl), (Nat.le_of_ble_eq_true rfl)⟩) hP hD hS hA [0, 1, 2, 3, 4, 5, 6, 7, 8, 9, 10, 11, 12, 13, 14, 15, 16, 17, 18, 19, 20, 21, 22, 23, 24, 25, 26, 27, 28] [] rfl rfl rfl (by decide) (fun _ H locs _ hP hD hS => ?_)
  have hP : va_P D cls_ (mW h ad ca co M) H := hP
  have hD : va_D A (mW h ad ca co M) := hD
  refine k_is (y := nI 0) (by rw [e3]) ?_
  refine va_put (D := D) (ci := 4) (v := .int (nI 0)) (ty := .int) (C := RMo) (T := TMo) (N := 29) hx hb ht inMo tyMo tyMo_ok nmMo hown hE.1 hP hD hS 0 rfl rfl 0 (by decide) (ht _ tw_587) (fun _ h => h) rfl (by decide +kernel) rfl rfl (Nat.le_of_ble_eq_true rfl) dMo_send_35 (fun H locs hP hD hS => ?_)
  have hP : va_P D cls_ (mW h ad ca 0 M) H := hP
  have hD : va_D A (mW h ad ca 0 M) := hD
  refine lv_aload_n hx hb dMo_send_38 rfl (lv_at hl 0 rfl) ?_
  refine va_get (D := D) (ci := 4) (v := .int (nI 0)) (C := RMo) (T := TMo) (N := 29) hx hb ht inMo hown hE.1 hP 0 rfl rfl 0 (by decide) (ht _ tw_587) (fun _ h => h) rfl dMo_send_39 ?_
  refine k_if_ne (tgt := 68) hx hb (by omega) dMo_send_42 rfl (fun hz => absurd hz (by omega)) (fun h42 => ?_)
  refine lv_aload_n hx hb dMo_send_45 rfl (lv_at hl 0 rfl) ?_
  refine lv_aload_n hx hb dMo_send_46 rfl (lv_at hl 0 rfl) ?_
  refine va_get (D := D) (ci := 4) (v := .ref (ad 23)) (C := RMo) (T := TMo) (N := 29) hx hb ht inMo hown hE.1 hP 0 rfl rfl 23 (by decide) (ht _ tw_610) (fun _ h => h) rfl dMo_send_47 ?_
  refine lv_iconst (v := nI 3) hx hb dMo_send_50 (by decide) ?_
  refine lv_iload_n hx hb dMo_send_51 rfl (lv_at hl 1 rfl) ?_
  refine k_imul hx hb dMo_send_52 ?_
  refine lv_iload_n hx hb dMo_send_53 rfl (lv_at hl 2 rfl) ?_
  refine k_iadd hx hb dMo_send_54 ?_
  refine k_iald hx hb hE.1 hP 23 0 (n := 6) (g := (M 23)) rfl rfl (i := ((3 * s₀) + cn)) (by omega) (by decide) dMo_send_55 ?_
  refine lv_iconst (v := nI 3) hx hb dMo_send_56 (by decide) ?_
  refine k_icmp_ne (tgt := 64) hx hb (by omega) (by omega) dMo_send_57 rfl (fun hz => absurd hz (by omega)) (fun h57 => ?_)
  refine lv_iconst (v := nI 0) hx hb dMo_send_60 (by decide) ?_
  refine lv_goto (tgt := 65) hx hb dMo_send_61 rfl ?_
  refine va_put (D := D) (ci := 4) (v := .int (nI 0)) (ty := .int) (C := RMo) (T := TMo) (N := 29) hx hb ht inMo tyMo tyMo_ok nmMo hown hE.1 hP hD hS 0 rfl rfl 0 (by decide) (ht _ tw_587) (fun _ h => h) rfl (by decide +kernel) rfl rfl (Nat.le_of_ble_eq_true rfl) dMo_send_65 (fun H locs hP hD hS => ?_)
  have hP : va_P D cls_ (mW h ad ca 0 M) H := hP
  have hD : va_D A (mW h ad ca 0 M) := hD
  refine lv_aload_n hx hb dMo_send_68 rfl (lv_at hl 0 rfl) ?_
  refine va_get (D := D) (ci := 4) (v := .int (nI 0)) (C := RMo) (T := TMo) (N := 29) hx hb ht inMo hown hE.1 hP 0 rfl rfl 0 (by decide) (ht _ tw_587) (fun _ h => h) rfl dMo_send_69 ?_
  refine k_if_le (tgt := 77) hx hb (by omega) dMo_send_72 rfl (fun h72 => ?_) (fun hz => absurd hz (by omega))
  refine lv_iconst (v := nI 3) hx hb dMo_send_77 (by decide) ?_
  refine lv_iload_n hx hb dMo_send_78 rfl (lv_at hl 1 rfl) ?_
  refine k_imul hx hb dMo_send_79 ?_
  refine lv_iload_n hx hb dMo_send_80 rfl (lv_at hl 2 rfl) ?_
  refine k_iadd hx hb dMo_send_81 ?_
  refine lv_istore hx hb dMo_send_82 hl (by decide) rfl (fun ls hl => ?_)
  have hl : lv_has ls 6 [(5, .int (nI ((3 * s₀) + cn))), (0, .ref h), (1, .int (nI s₀)), (2, .int (nI cn)), (3, .int (nI vl)), (4, .int (nI mo))] := hl
  refine lv_aload_n hx hb dMo_send_84 rfl (lv_at hl 1 rfl) ?_
  refine va_get (D := D) (ci := 4) (v := .ref (ad 24)) (C := RMo) (T := TMo) (N := 29) hx hb ht inMo hown hE.1 hP 0 rfl rfl 24 (by decide) (ht _ tw_611) (fun _ h => h) rfl dMo_send_85 ?_
  refine lv_iload hx hb dMo_send_88 (lv_at hl 0 rfl) ?_
  refine k_iald hx hb hE.1 hP 24 0 (n := 6) (g := (M 24)) rfl rfl (i := ((3 * s₀) + cn)) (by omega) (by decide) dMo_send_90 ?_
  refine lv_aload_n hx hb dMo_send_91 rfl (lv_at hl 1 rfl) ?_
  refine va_get (D := D) (ci := 4) (v := .ref (ad 25)) (C := RMo) (T := TMo) (N := 29) hx hb ht inMo hown hE.1 hP 0 rfl rfl 25 (by decide) (ht _ tw_612) (fun _ h => h) rfl dMo_send_92 ?_
  refine lv_iload hx hb dMo_send_95 (lv_at hl 0 rfl) ?_
  refine k_iald hx hb hE.1 hP 25 0 (n := 6) (g := (M 25)) rfl rfl (i := ((3 * s₀) + cn)) (by omega) (by decide) dMo_send_97 ?_
  refine kI (rS fx (c_Mo_less l D ca (M 24 ((3 * s₀) + cn)) (M 25 ((3 * s₀) + cn)) (by omega) (by omega)) ⟨callB_of 2 hts (tb_gi tw_717) rfl rfl rfl (ht _ tw_5) (ht _ tw_715) (by decide +kernel) ⟨(Nat.le_of_ble_eq_true rfl), (Nat.le_of_ble_eq_true rfl)⟩, ht _ tw_716⟩ hE hP hD [] rfl rfl rfl hl.1 rfl (Nat.le_of_ble_eq_true rfl) dMo_send_98 ⟨(Nat.le_of_ble_eq_true rfl), (Nat.le_of_ble_eq_true rfl)⟩) hP hD hS hA [] [0, 1, 2, 3, 4, 5, 6, 7, 8, 9, 10, 11, 12, 13, 14, 15, 16, 17, 18, 19, 20, 21, 22, 23, 24, 25, 26, 27, 28] rfl rfl rfl (by decide) (fun _ H locs _ hP hD hS => ?_)
  have hP : va_P D cls_ (mW h ad ca 0 M) H := hP
  have hD : va_D A (mW h ad ca 0 M) := hD
  refine lv_iconst (v := nI 2) hx hb dMo_send_101 (by decide) ?_
  refine k_icmp_ne (tgt := 107) hx hb (by omega) (by omega) dMo_send_102 rfl (fun hz => absurd hz (by omega)) (fun h102 => ?_)
  refine lv_iconst (v := nI 0) hx hb dMo_send_105 (by decide) ?_
  exact Co.retz hx hb hret hlk (by first | rfl | decide) dMo_send_106 hS hP hD () rfl trivial rfl (Nat.le_of_ble_eq_true rfl) (Nat.le_of_ble_eq_true rfl)
set_option maxHeartbeats 4000000 in
set_option maxRecDepth 100000 in
theorem c_Mo_sendS (l : Launch) (D : va_G) (ca : Nat → ClassId) (h : Nat) (ad : Nat → Nat) (co : Nat) (M : Nat → Nat → Nat) (s₀ cn : Nat) (hM : mOk M) (hs : s₀ < 2) (hc : cn < 3) (vl mo : Nat) (hvl : vl < 256) (hmo : mo < 2) (hup : M 10 s₀ = 2 ∧ M 17 s₀ ≤ 9) (hst : ¬ M 23 (3 * s₀ + cn) = 3) : Co (S := Unit) l yMo_send (Cond.code yMo_send cMo_send 6 (some FieldType.boolean) :: tb_) { frames := 5, cells := 0, slots := 0, locals := 160 } D ca [.ref h, .int (nI s₀), .int (nI cn), .int (nI vl), .int (nI mo)] (mW h ad ca co M) (fun _ => some (.int (nI 0))) (fun _ => True) (fun _ => (mW h ad ca 3 M)) 0 0 := by
  refine Co.of cMo_send 6 (some FieldType.boolean) (by decide) (Nat.le_of_ble_eq_true rfl) ?_
  intro p e s m args below meth c A ls fx hret hlk hin hE hP hD hS hA hl
  have hx := fx.1
  have hb := fx.2.1
  have hown : s.vm.findClass RMo = some m.cls := fx.2.2.2.1
  have hts := fx.2.2.2.2
  have ht : ∀ w ∈ tb_, w.before args s = true := fun w h => hts w (List.mem_cons_of_mem _ h)
  have e3 : (if M 10 s₀ = 2 ∧ M 17 s₀ ≤ 9 then 0 else 3) = 0 := if_pos hup
  have b1 : M 23 (3 * s₀ + cn) < 6 := hM 23 _
  have hl : lv_has ls 6 [(0, .ref h), (1, .int (nI s₀)), (2, .int (nI cn)), (3, .int (nI vl)), (4, .int (nI mo))] := hl
  refine lv_aload_n hx hb dMo_send_0 rfl (lv_at hl 0 rfl) ?_
  refine lv_iload_n hx hb dMo_send_1 rfl (lv_at hl 1 rfl) ?_
  refine lv_iload_n hx hb dMo_send_2 rfl (lv_at hl 2 rfl) ?_
  refine kI (rS fx (c_Mo_channelOf l D ca s₀ cn (by omega) (by omega)) ⟨callB_of 2 hts (tb_gi tw_767) rfl rfl rfl (ht _ tw_5) (ht _ tw_765) (by decide +kernel) ⟨(Nat.le_of_ble_eq_true rfl), (Nat.le_of_ble_eq_true rfl)⟩, ht _ tw_766⟩ hE hP hD [] rfl rfl rfl hl.1 rfl (Nat.le_of_ble_eq_true rfl) dMo_send_3 ⟨(Nat.le_of_ble_eq_true rfl), (Nat.le_of_ble_eq_true rfl)⟩) hP hD hS hA [] [0, 1, 2, 3, 4, 5, 6, 7, 8, 9, 10, 11, 12, 13, 14, 15, 16, 17, 18, 19, 20, 21, 22, 23, 24, 25, 26, 27, 28] rfl rfl rfl (by decide) (fun _ H locs _ hP hD hS => ?_)
  have hP : va_P D cls_ (mW h ad ca co M) H := hP
  have hD : va_D A (mW h ad ca co M) := hD
  refine k_if_ne (tgt := 13) hx hb (by omega) dMo_send_6 rfl (fun h6 => ?_) (fun hz => absurd hz (by omega))
  refine lv_iload_n hx hb dMo_send_13 rfl (lv_at hl 3 rfl) ?_
  refine k_if_lt (tgt := 24) hx hb (by omega) dMo_send_14 rfl ?_
  refine lv_iload_n hx hb dMo_send_17 rfl (lv_at hl 3 rfl) ?_
  refine lv_sipush (v := nI 255) hx hb dMo_send_18 (by decide) ?_
  refine k_icmp_le (tgt := 28) hx hb (by omega) (by omega) dMo_send_21 rfl (fun h21 => ?_) (fun hz => absurd hz (by omega))
  refine lv_aload_n hx hb dMo_send_28 rfl (lv_at hl 0 rfl) ?_
  refine lv_iload_n hx hb dMo_send_29 rfl (lv_at hl 1 rfl) ?_
  refine lv_iload_n hx hb dMo_send_30 rfl (lv_at hl 2 rfl) ?_
  refine lv_iconst (v := nI 3) hx hb dMo_send_31 (by decide) ?_
  refine kI (rV fx (c_Mo_bars l D ca h ad co M s₀ cn (by first | assumption | exact mOk.idle (by assumption) _ | exact mOk.clean (by assumption) _ | exact mOk.renew (by assumption) _ | exact (mOk.renew (by assumption) _).set 23 (show 3 < 6 by decide) | exact (mOk.renew (by assumption) _).set 23 (show 5 < 6 by decide)) (by omega) (by omega) 3) ⟨callB_of 3 hts (tb_gi tw_783) rfl rfl rfl (ht _ tw_5) (ht _ tw_780) (by decide +kernel) ⟨(Nat.le_of_ble_eq_true rfl), (Nat.le_of_ble_eq_true rfl)⟩, ht _ tw_782, ht _ tw_861⟩ hE hP hD 0 rfl rfl rfl [0, 1, 2, 3, 4, 5, 6, 7, 8, 9, 10, 11, 12, 13, 14, 15, 16, 17, 18, 19, 20, 21, 22, 23, 24, 25, 26, 27, 28] rfl rfl rfl hl.1 rfl (Nat.le_of_ble_eq_true rfl) dMo_send_32 ⟨(Nat.le_of_ble_eq_true rfl), (Nat.le_of_ble_eq_true rfl)⟩) hP hD hS hA [0, 1, 2, 3, 4, 5, 6, 7, 8, 9, 10, 11, 12, 13, 14, 15, 16, 17, 18, 19, 20, 21, 22, 23, 24, 25, 26, 27, 28] [] rfl rfl rfl (by decide) (fun _ H locs _ hP hD hS => ?_)
  have hP : va_P D cls_ (mW h ad ca co M) H := hP
  have hD : va_D A (mW h ad ca co M) := hD
  refine k_is (y := nI 0) (by rw [e3]) ?_
  refine va_put (D := D) (ci := 4) (v := .int (nI 0)) (ty := .int) (C := RMo) (T := TMo) (N := 29) hx hb ht inMo tyMo tyMo_ok nmMo hown hE.1 hP hD hS 0 rfl rfl 0 (by decide) (ht _ tw_587) (fun _ h => h) rfl (by decide +kernel) rfl rfl (Nat.le_of_ble_eq_true rfl) dMo_send_35 (fun H locs hP hD hS => ?_)
  have hP : va_P D cls_ (mW h ad ca 0 M) H := hP
  have hD : va_D A (mW h ad ca 0 M) := hD
  refine lv_aload_n hx hb dMo_send_38 rfl (lv_at hl 0 rfl) ?_
  refine va_get (D := D) (ci := 4) (v := .int (nI 0)) (C := RMo) (T := TMo) (N := 29) hx hb ht inMo hown hE.1 hP 0 rfl rfl 0 (by decide) (ht _ tw_587) (fun _ h => h) rfl dMo_send_39 ?_
  refine k_if_ne (tgt := 68) hx hb (by omega) dMo_send_42 rfl (fun hz => absurd hz (by omega)) (fun h42 => ?_)
  refine lv_aload_n hx hb dMo_send_45 rfl (lv_at hl 0 rfl) ?_
  refine lv_aload_n hx hb dMo_send_46 rfl (lv_at hl 0 rfl) ?_
  refine va_get (D := D) (ci := 4) (v := .ref (ad 23)) (C := RMo) (T := TMo) (N := 29) hx hb ht inMo hown hE.1 hP 0 rfl rfl 23 (by decide) (ht _ tw_610) (fun _ h => h) rfl dMo_send_47 ?_
  refine lv_iconst (v := nI 3) hx hb dMo_send_50 (by decide) ?_
  refine lv_iload_n hx hb dMo_send_51 rfl (lv_at hl 1 rfl) ?_
  refine k_imul hx hb dMo_send_52 ?_
  refine lv_iload_n hx hb dMo_send_53 rfl (lv_at hl 2 rfl) ?_
  refine k_iadd hx hb dMo_send_54 ?_
  refine k_iald hx hb hE.1 hP 23 0 (n := 6) (g := (M 23)) rfl rfl (i := ((3 * s₀) + cn)) (by omega) (by decide) dMo_send_55 ?_
  refine lv_iconst (v := nI 3) hx hb dMo_send_56 (by decide) ?_
  refine k_icmp_ne (tgt := 64) hx hb (by omega) (by omega) dMo_send_57 rfl (fun h57 => ?_) (fun hz => absurd hz (by omega))
  refine lv_iconst (v := nI 3) hx hb dMo_send_64 (by decide) ?_
  refine va_put (D := D) (ci := 4) (v := .int (nI 3)) (ty := .int) (C := RMo) (T := TMo) (N := 29) hx hb ht inMo tyMo tyMo_ok nmMo hown hE.1 hP hD hS 0 rfl rfl 0 (by decide) (ht _ tw_587) (fun _ h => h) rfl (by decide +kernel) rfl rfl (Nat.le_of_ble_eq_true rfl) dMo_send_65 (fun H locs hP hD hS => ?_)
  have hP : va_P D cls_ (mW h ad ca 3 M) H := hP
  have hD : va_D A (mW h ad ca 3 M) := hD
  refine lv_aload_n hx hb dMo_send_68 rfl (lv_at hl 0 rfl) ?_
  refine va_get (D := D) (ci := 4) (v := .int (nI 3)) (C := RMo) (T := TMo) (N := 29) hx hb ht inMo hown hE.1 hP 0 rfl rfl 0 (by decide) (ht _ tw_587) (fun _ h => h) rfl dMo_send_69 ?_
  refine k_if_le (tgt := 77) hx hb (by omega) dMo_send_72 rfl (fun hz => absurd hz (by omega)) (fun h72 => ?_)
  refine lv_iconst (v := nI 0) hx hb dMo_send_75 (by decide) ?_
  exact Co.retz hx hb hret hlk (by first | rfl | decide) dMo_send_76 hS hP hD () rfl trivial rfl (Nat.le_of_ble_eq_true rfl) (Nat.le_of_ble_eq_true rfl)
set_option maxHeartbeats 4000000 in
set_option maxRecDepth 100000 in
theorem c_Mo_sendU (l : Launch) (D : va_G) (ca : Nat → ClassId) (h : Nat) (ad : Nat → Nat) (co : Nat) (M : Nat → Nat → Nat) (s₀ cn : Nat) (hM : mOk M) (hs : s₀ < 2) (hc : cn < 3) (vl mo : Nat) (hvl : vl < 256) (hmo : mo < 2) (hup : ¬ (M 10 s₀ = 2 ∧ M 17 s₀ ≤ 9)) : Co (S := Unit) l yMo_send (Cond.code yMo_send cMo_send 6 (some FieldType.boolean) :: tb_) { frames := 5, cells := 0, slots := 0, locals := 160 } D ca [.ref h, .int (nI s₀), .int (nI cn), .int (nI vl), .int (nI mo)] (mW h ad ca co M) (fun _ => some (.int (nI 0))) (fun _ => True) (fun _ => (mW h ad ca 3 M)) 0 0 := by
  refine Co.of cMo_send 6 (some FieldType.boolean) (by decide) (Nat.le_of_ble_eq_true rfl) ?_
  intro p e s m args below meth c A ls fx hret hlk hin hE hP hD hS hA hl
  have hx := fx.1
  have hb := fx.2.1
  have hown : s.vm.findClass RMo = some m.cls := fx.2.2.2.1
  have hts := fx.2.2.2.2
  have ht : ∀ w ∈ tb_, w.before args s = true := fun w h => hts w (List.mem_cons_of_mem _ h)
  have e3 : (if M 10 s₀ = 2 ∧ M 17 s₀ ≤ 9 then 0 else 3) = 3 := if_neg hup
  have hl : lv_has ls 6 [(0, .ref h), (1, .int (nI s₀)), (2, .int (nI cn)), (3, .int (nI vl)), (4, .int (nI mo))] := hl
  refine lv_aload_n hx hb dMo_send_0 rfl (lv_at hl 0 rfl) ?_
  refine lv_iload_n hx hb dMo_send_1 rfl (lv_at hl 1 rfl) ?_
  refine lv_iload_n hx hb dMo_send_2 rfl (lv_at hl 2 rfl) ?_
  refine kI (rS fx (c_Mo_channelOf l D ca s₀ cn (by omega) (by omega)) ⟨callB_of 2 hts (tb_gi tw_767) rfl rfl rfl (ht _ tw_5) (ht _ tw_765) (by decide +kernel) ⟨(Nat.le_of_ble_eq_true rfl), (Nat.le_of_ble_eq_true rfl)⟩, ht _ tw_766⟩ hE hP hD [] rfl rfl rfl hl.1 rfl (Nat.le_of_ble_eq_true rfl) dMo_send_3 ⟨(Nat.le_of_ble_eq_true rfl), (Nat.le_of_ble_eq_true rfl)⟩) hP hD hS hA [] [0, 1, 2, 3, 4, 5, 6, 7, 8, 9, 10, 11, 12, 13, 14, 15, 16, 17, 18, 19, 20, 21, 22, 23, 24, 25, 26, 27, 28] rfl rfl rfl (by decide) (fun _ H locs _ hP hD hS => ?_)
  have hP : va_P D cls_ (mW h ad ca co M) H := hP
  have hD : va_D A (mW h ad ca co M) := hD
  refine k_if_ne (tgt := 13) hx hb (by omega) dMo_send_6 rfl (fun h6 => ?_) (fun hz => absurd hz (by omega))
  refine lv_iload_n hx hb dMo_send_13 rfl (lv_at hl 3 rfl) ?_
  refine k_if_lt (tgt := 24) hx hb (by omega) dMo_send_14 rfl ?_
  refine lv_iload_n hx hb dMo_send_17 rfl (lv_at hl 3 rfl) ?_
  refine lv_sipush (v := nI 255) hx hb dMo_send_18 (by decide) ?_
  refine k_icmp_le (tgt := 28) hx hb (by omega) (by omega) dMo_send_21 rfl (fun h21 => ?_) (fun hz => absurd hz (by omega))
  refine lv_aload_n hx hb dMo_send_28 rfl (lv_at hl 0 rfl) ?_
  refine lv_iload_n hx hb dMo_send_29 rfl (lv_at hl 1 rfl) ?_
  refine lv_iload_n hx hb dMo_send_30 rfl (lv_at hl 2 rfl) ?_
  refine lv_iconst (v := nI 3) hx hb dMo_send_31 (by decide) ?_
  refine kI (rV fx (c_Mo_bars l D ca h ad co M s₀ cn (by first | assumption | exact mOk.idle (by assumption) _ | exact mOk.clean (by assumption) _ | exact mOk.renew (by assumption) _ | exact (mOk.renew (by assumption) _).set 23 (show 3 < 6 by decide) | exact (mOk.renew (by assumption) _).set 23 (show 5 < 6 by decide)) (by omega) (by omega) 3) ⟨callB_of 3 hts (tb_gi tw_783) rfl rfl rfl (ht _ tw_5) (ht _ tw_780) (by decide +kernel) ⟨(Nat.le_of_ble_eq_true rfl), (Nat.le_of_ble_eq_true rfl)⟩, ht _ tw_782, ht _ tw_861⟩ hE hP hD 0 rfl rfl rfl [0, 1, 2, 3, 4, 5, 6, 7, 8, 9, 10, 11, 12, 13, 14, 15, 16, 17, 18, 19, 20, 21, 22, 23, 24, 25, 26, 27, 28] rfl rfl rfl hl.1 rfl (Nat.le_of_ble_eq_true rfl) dMo_send_32 ⟨(Nat.le_of_ble_eq_true rfl), (Nat.le_of_ble_eq_true rfl)⟩) hP hD hS hA [0, 1, 2, 3, 4, 5, 6, 7, 8, 9, 10, 11, 12, 13, 14, 15, 16, 17, 18, 19, 20, 21, 22, 23, 24, 25, 26, 27, 28] [] rfl rfl rfl (by decide) (fun _ H locs _ hP hD hS => ?_)
  have hP : va_P D cls_ (mW h ad ca co M) H := hP
  have hD : va_D A (mW h ad ca co M) := hD
  refine k_is (y := nI 3) (by rw [e3]) ?_
  refine va_put (D := D) (ci := 4) (v := .int (nI 3)) (ty := .int) (C := RMo) (T := TMo) (N := 29) hx hb ht inMo tyMo tyMo_ok nmMo hown hE.1 hP hD hS 0 rfl rfl 0 (by decide) (ht _ tw_587) (fun _ h => h) rfl (by decide +kernel) rfl rfl (Nat.le_of_ble_eq_true rfl) dMo_send_35 (fun H locs hP hD hS => ?_)
  have hP : va_P D cls_ (mW h ad ca 3 M) H := hP
  have hD : va_D A (mW h ad ca 3 M) := hD
  refine lv_aload_n hx hb dMo_send_38 rfl (lv_at hl 0 rfl) ?_
  refine va_get (D := D) (ci := 4) (v := .int (nI 3)) (C := RMo) (T := TMo) (N := 29) hx hb ht inMo hown hE.1 hP 0 rfl rfl 0 (by decide) (ht _ tw_587) (fun _ h => h) rfl dMo_send_39 ?_
  refine k_if_ne (tgt := 68) hx hb (by omega) dMo_send_42 rfl (fun h42 => ?_) (fun hz => absurd hz (by omega))
  refine lv_aload_n hx hb dMo_send_68 rfl (lv_at hl 0 rfl) ?_
  refine va_get (D := D) (ci := 4) (v := .int (nI 3)) (C := RMo) (T := TMo) (N := 29) hx hb ht inMo hown hE.1 hP 0 rfl rfl 0 (by decide) (ht _ tw_587) (fun _ h => h) rfl dMo_send_69 ?_
  refine k_if_le (tgt := 77) hx hb (by omega) dMo_send_72 rfl (fun hz => absurd hz (by omega)) (fun h72 => ?_)
  refine lv_iconst (v := nI 0) hx hb dMo_send_75 (by decide) ?_
  exact Co.retz hx hb hret hlk (by first | rfl | decide) dMo_send_76 hS hP hD () rfl trivial rfl (Nat.le_of_ble_eq_true rfl) (Nat.le_of_ble_eq_true rfl)
set_option maxHeartbeats 4000000 in
set_option maxRecDepth 100000 in
theorem c_Mo_sendV (l : Launch) (D : va_G) (ca : Nat → ClassId) (h : Nat) (ad : Nat → Nat) (co : Nat) (M : Nat → Nat → Nat) (s₀ cn : Nat) (hM : mOk M) (hs : s₀ < 2) (hc : cn < 3) (v₁ : Int32) (mo : Nat) (hv : v₁ < 0 ∨ nI 255 < v₁) : Co (S := Unit) l yMo_send (Cond.code yMo_send cMo_send 6 (some FieldType.boolean) :: tb_) { frames := 5, cells := 0, slots := 0, locals := 160 } D ca [.ref h, .int (nI s₀), .int (nI cn), .int v₁, .int (nI mo)] (mW h ad ca co M) (fun _ => some (.int (nI 0))) (fun _ => True) (fun _ => (mW h ad ca 2 M)) 0 0 := by
  refine Co.of cMo_send 6 (some FieldType.boolean) (by decide) (Nat.le_of_ble_eq_true rfl) ?_
  intro p e s m args below meth c A ls fx hret hlk hin hE hP hD hS hA hl
  have hx := fx.1
  have hb := fx.2.1
  have hown : s.vm.findClass RMo = some m.cls := fx.2.2.2.1
  have hts := fx.2.2.2.2
  have ht : ∀ w ∈ tb_, w.before args s = true := fun w h => hts w (List.mem_cons_of_mem _ h)
  have hl : lv_has ls 6 [(0, .ref h), (1, .int (nI s₀)), (2, .int (nI cn)), (3, .int v₁), (4, .int (nI mo))] := hl
  refine lv_aload_n hx hb dMo_send_0 rfl (lv_at hl 0 rfl) ?_
  refine lv_iload_n hx hb dMo_send_1 rfl (lv_at hl 1 rfl) ?_
  refine lv_iload_n hx hb dMo_send_2 rfl (lv_at hl 2 rfl) ?_
  refine kI (rS fx (c_Mo_channelOf l D ca s₀ cn (by omega) (by omega)) ⟨callB_of 2 hts (tb_gi tw_767) rfl rfl rfl (ht _ tw_5) (ht _ tw_765) (by decide +kernel) ⟨(Nat.le_of_ble_eq_true rfl), (Nat.le_of_ble_eq_true rfl)⟩, ht _ tw_766⟩ hE hP hD [] rfl rfl rfl hl.1 rfl (Nat.le_of_ble_eq_true rfl) dMo_send_3 ⟨(Nat.le_of_ble_eq_true rfl), (Nat.le_of_ble_eq_true rfl)⟩) hP hD hS hA [] [0, 1, 2, 3, 4, 5, 6, 7, 8, 9, 10, 11, 12, 13, 14, 15, 16, 17, 18, 19, 20, 21, 22, 23, 24, 25, 26, 27, 28] rfl rfl rfl (by decide) (fun _ H locs _ hP hD hS => ?_)
  have hP : va_P D cls_ (mW h ad ca co M) H := hP
  have hD : va_D A (mW h ad ca co M) := hD
  refine k_if_ne (tgt := 13) hx hb (by omega) dMo_send_6 rfl (fun h6 => ?_) (fun hz => absurd hz (by omega))
  refine lv_iload_n hx hb dMo_send_13 rfl (lv_at hl 3 rfl) ?_
  refine lv_if_lt (tgt := 24) hx hb dMo_send_14 rfl (fun h14 => ?_) (fun h14 => ?_)
  · refine lv_iconst (v := nI 2) hx hb dMo_send_24 (by decide) ?_
    refine lv_goto (tgt := 35) hx hb dMo_send_25 rfl ?_
    refine va_put (D := D) (ci := 4) (v := .int (nI 2)) (ty := .int) (C := RMo) (T := TMo) (N := 29) hx hb ht inMo tyMo tyMo_ok nmMo hown hE.1 hP hD hS 0 rfl rfl 0 (by decide) (ht _ tw_587) (fun _ h => h) rfl (by decide +kernel) rfl rfl (Nat.le_of_ble_eq_true rfl) dMo_send_35 (fun H locs hP hD hS => ?_)
    have hP : va_P D cls_ (mW h ad ca 2 M) H := hP
    have hD : va_D A (mW h ad ca 2 M) := hD
    refine lv_aload_n hx hb dMo_send_38 rfl (lv_at hl 0 rfl) ?_
    refine va_get (D := D) (ci := 4) (v := .int (nI 2)) (C := RMo) (T := TMo) (N := 29) hx hb ht inMo hown hE.1 hP 0 rfl rfl 0 (by decide) (ht _ tw_587) (fun _ h => h) rfl dMo_send_39 ?_
    refine k_if_ne (tgt := 68) hx hb (by omega) dMo_send_42 rfl (fun h42 => ?_) (fun hz => absurd hz (by omega))
    refine lv_aload_n hx hb dMo_send_68 rfl (lv_at hl 0 rfl) ?_
    refine va_get (D := D) (ci := 4) (v := .int (nI 2)) (C := RMo) (T := TMo) (N := 29) hx hb ht inMo hown hE.1 hP 0 rfl rfl 0 (by decide) (ht _ tw_587) (fun _ h => h) rfl dMo_send_69 ?_
    refine k_if_le (tgt := 77) hx hb (by omega) dMo_send_72 rfl (fun hz => absurd hz (by omega)) (fun h72 => ?_)
    refine lv_iconst (v := nI 0) hx hb dMo_send_75 (by decide) ?_
    exact Co.retz hx hb hret hlk (by first | rfl | decide) dMo_send_76 hS hP hD () rfl trivial rfl (Nat.le_of_ble_eq_true rfl) (Nat.le_of_ble_eq_true rfl)
  · refine lv_iload_n hx hb dMo_send_17 rfl (lv_at hl 3 rfl) ?_
    refine lv_sipush (v := nI 255) hx hb dMo_send_18 (by decide) ?_
    refine lv_icmp_le (tgt := 28) hx hb dMo_send_21 rfl (fun hz => absurd hz (Int32.not_le.mpr (hv.resolve_left h14))) (fun h21 => ?_)
    refine lv_iconst (v := nI 2) hx hb dMo_send_24 (by decide) ?_
    refine lv_goto (tgt := 35) hx hb dMo_send_25 rfl ?_
    refine va_put (D := D) (ci := 4) (v := .int (nI 2)) (ty := .int) (C := RMo) (T := TMo) (N := 29) hx hb ht inMo tyMo tyMo_ok nmMo hown hE.1 hP hD hS 0 rfl rfl 0 (by decide) (ht _ tw_587) (fun _ h => h) rfl (by decide +kernel) rfl rfl (Nat.le_of_ble_eq_true rfl) dMo_send_35 (fun H locs hP hD hS => ?_)
    have hP : va_P D cls_ (mW h ad ca 2 M) H := hP
    have hD : va_D A (mW h ad ca 2 M) := hD
    refine lv_aload_n hx hb dMo_send_38 rfl (lv_at hl 0 rfl) ?_
    refine va_get (D := D) (ci := 4) (v := .int (nI 2)) (C := RMo) (T := TMo) (N := 29) hx hb ht inMo hown hE.1 hP 0 rfl rfl 0 (by decide) (ht _ tw_587) (fun _ h => h) rfl dMo_send_39 ?_
    refine k_if_ne (tgt := 68) hx hb (by omega) dMo_send_42 rfl (fun h42 => ?_) (fun hz => absurd hz (by omega))
    refine lv_aload_n hx hb dMo_send_68 rfl (lv_at hl 0 rfl) ?_
    refine va_get (D := D) (ci := 4) (v := .int (nI 2)) (C := RMo) (T := TMo) (N := 29) hx hb ht inMo hown hE.1 hP 0 rfl rfl 0 (by decide) (ht _ tw_587) (fun _ h => h) rfl dMo_send_69 ?_
    refine k_if_le (tgt := 77) hx hb (by omega) dMo_send_72 rfl (fun hz => absurd hz (by omega)) (fun h72 => ?_)
    refine lv_iconst (v := nI 0) hx hb dMo_send_75 (by decide) ?_
    exact Co.retz hx hb hret hlk (by first | rfl | decide) dMo_send_76 hS hP hD () rfl trivial rfl (Nat.le_of_ble_eq_true rfl) (Nat.le_of_ble_eq_true rfl)
set_option maxHeartbeats 4000000 in
set_option maxRecDepth 100000 in
theorem c_Mo_sendX (l : Launch) (D : va_G) (ca : Nat → ClassId) (h : Nat) (ad : Nat → Nat) (co : Nat) (M : Nat → Nat → Nat) (x₀ : Int32) (hx0 : ¬ x₀ = 0) (hx1 : ¬ x₀ = nI 1) (y₀ v₁ : Int32) (mo : Nat) : Co (S := Unit) l yMo_send (Cond.code yMo_send cMo_send 6 (some FieldType.boolean) :: tb_) { frames := 5, cells := 0, slots := 0, locals := 160 } D ca [.ref h, .int x₀, .int y₀, .int v₁, .int (nI mo)] (mW h ad ca co M) (fun _ => some (.int (nI 0))) (fun _ => True) (fun _ => (mW h ad ca 1 M)) 0 0 := by
  refine Co.of cMo_send 6 (some FieldType.boolean) (by decide) (Nat.le_of_ble_eq_true rfl) ?_
  intro p e s m args below meth c A ls fx hret hlk hin hE hP hD hS hA hl
  have hx := fx.1
  have hb := fx.2.1
  have hown : s.vm.findClass RMo = some m.cls := fx.2.2.2.1
  have hts := fx.2.2.2.2
  have ht : ∀ w ∈ tb_, w.before args s = true := fun w h => hts w (List.mem_cons_of_mem _ h)
  have hl : lv_has ls 6 [(0, .ref h), (1, .int x₀), (2, .int y₀), (3, .int v₁), (4, .int (nI mo))] := hl
  refine lv_aload_n hx hb dMo_send_0 rfl (lv_at hl 0 rfl) ?_
  refine lv_iload_n hx hb dMo_send_1 rfl (lv_at hl 1 rfl) ?_
  refine lv_iload_n hx hb dMo_send_2 rfl (lv_at hl 2 rfl) ?_
  refine kI (rS fx (c_Mo_channelOfX l D ca x₀ hx0 hx1 y₀) ⟨callB_of 2 hts (tb_gi tw_767) rfl rfl rfl (ht _ tw_5) (ht _ tw_765) (by decide +kernel) ⟨(Nat.le_of_ble_eq_true rfl), (Nat.le_of_ble_eq_true rfl)⟩, ht _ tw_766⟩ hE hP hD [] rfl rfl rfl hl.1 rfl (Nat.le_of_ble_eq_true rfl) dMo_send_3 ⟨(Nat.le_of_ble_eq_true rfl), (Nat.le_of_ble_eq_true rfl)⟩) hP hD hS hA [] [0, 1, 2, 3, 4, 5, 6, 7, 8, 9, 10, 11, 12, 13, 14, 15, 16, 17, 18, 19, 20, 21, 22, 23, 24, 25, 26, 27, 28] rfl rfl rfl (by decide) (fun _ H locs _ hP hD hS => ?_)
  have hP : va_P D cls_ (mW h ad ca co M) H := hP
  have hD : va_D A (mW h ad ca co M) := hD
  refine k_if_ne (tgt := 13) hx hb (by omega) dMo_send_6 rfl (fun hz => absurd hz (by omega)) (fun h6 => ?_)
  refine lv_iconst (v := nI 1) hx hb dMo_send_9 (by decide) ?_
  refine lv_goto (tgt := 35) hx hb dMo_send_10 rfl ?_
  refine va_put (D := D) (ci := 4) (v := .int (nI 1)) (ty := .int) (C := RMo) (T := TMo) (N := 29) hx hb ht inMo tyMo tyMo_ok nmMo hown hE.1 hP hD hS 0 rfl rfl 0 (by decide) (ht _ tw_587) (fun _ h => h) rfl (by decide +kernel) rfl rfl (Nat.le_of_ble_eq_true rfl) dMo_send_35 (fun H locs hP hD hS => ?_)
  have hP : va_P D cls_ (mW h ad ca 1 M) H := hP
  have hD : va_D A (mW h ad ca 1 M) := hD
  refine lv_aload_n hx hb dMo_send_38 rfl (lv_at hl 0 rfl) ?_
  refine va_get (D := D) (ci := 4) (v := .int (nI 1)) (C := RMo) (T := TMo) (N := 29) hx hb ht inMo hown hE.1 hP 0 rfl rfl 0 (by decide) (ht _ tw_587) (fun _ h => h) rfl dMo_send_39 ?_
  refine k_if_ne (tgt := 68) hx hb (by omega) dMo_send_42 rfl (fun h42 => ?_) (fun hz => absurd hz (by omega))
  refine lv_aload_n hx hb dMo_send_68 rfl (lv_at hl 0 rfl) ?_
  refine va_get (D := D) (ci := 4) (v := .int (nI 1)) (C := RMo) (T := TMo) (N := 29) hx hb ht inMo hown hE.1 hP 0 rfl rfl 0 (by decide) (ht _ tw_587) (fun _ h => h) rfl dMo_send_69 ?_
  refine k_if_le (tgt := 77) hx hb (by omega) dMo_send_72 rfl (fun hz => absurd hz (by omega)) (fun h72 => ?_)
  refine lv_iconst (v := nI 0) hx hb dMo_send_75 (by decide) ?_
  exact Co.retz hx hb hret hlk (by first | rfl | decide) dMo_send_76 hS hP hD () rfl trivial rfl (Nat.le_of_ble_eq_true rfl) (Nat.le_of_ble_eq_true rfl)
set_option maxHeartbeats 4000000 in
set_option maxRecDepth 100000 in
theorem c_Mo_sendC (l : Launch) (D : va_G) (ca : Nat → ClassId) (h : Nat) (ad : Nat → Nat) (co : Nat) (M : Nat → Nat → Nat) (s₀ : Nat) (hs : s₀ < 2) (y₀ : Int32) (hy0 : y₀ < 0 ∨ nI 3 ≤ y₀) (v₁ : Int32) (mo : Nat) : Co (S := Unit) l yMo_send (Cond.code yMo_send cMo_send 6 (some FieldType.boolean) :: tb_) { frames := 5, cells := 0, slots := 0, locals := 160 } D ca [.ref h, .int (nI s₀), .int y₀, .int v₁, .int (nI mo)] (mW h ad ca co M) (fun _ => some (.int (nI 0))) (fun _ => True) (fun _ => (mW h ad ca 1 M)) 0 0 := by
  refine Co.of cMo_send 6 (some FieldType.boolean) (by decide) (Nat.le_of_ble_eq_true rfl) ?_
  intro p e s m args below meth c A ls fx hret hlk hin hE hP hD hS hA hl
  have hx := fx.1
  have hb := fx.2.1
  have hown : s.vm.findClass RMo = some m.cls := fx.2.2.2.1
  have hts := fx.2.2.2.2
  have ht : ∀ w ∈ tb_, w.before args s = true := fun w h => hts w (List.mem_cons_of_mem _ h)
  have hl : lv_has ls 6 [(0, .ref h), (1, .int (nI s₀)), (2, .int y₀), (3, .int v₁), (4, .int (nI mo))] := hl
  refine lv_aload_n hx hb dMo_send_0 rfl (lv_at hl 0 rfl) ?_
  refine lv_iload_n hx hb dMo_send_1 rfl (lv_at hl 1 rfl) ?_
  refine lv_iload_n hx hb dMo_send_2 rfl (lv_at hl 2 rfl) ?_
  refine kI (rS fx (c_Mo_channelOfC l D ca s₀ (by omega) y₀ hy0) ⟨callB_of 2 hts (tb_gi tw_767) rfl rfl rfl (ht _ tw_5) (ht _ tw_765) (by decide +kernel) ⟨(Nat.le_of_ble_eq_true rfl), (Nat.le_of_ble_eq_true rfl)⟩, ht _ tw_766⟩ hE hP hD [] rfl rfl rfl hl.1 rfl (Nat.le_of_ble_eq_true rfl) dMo_send_3 ⟨(Nat.le_of_ble_eq_true rfl), (Nat.le_of_ble_eq_true rfl)⟩) hP hD hS hA [] [0, 1, 2, 3, 4, 5, 6, 7, 8, 9, 10, 11, 12, 13, 14, 15, 16, 17, 18, 19, 20, 21, 22, 23, 24, 25, 26, 27, 28] rfl rfl rfl (by decide) (fun _ H locs _ hP hD hS => ?_)
  have hP : va_P D cls_ (mW h ad ca co M) H := hP
  have hD : va_D A (mW h ad ca co M) := hD
  refine k_if_ne (tgt := 13) hx hb (by omega) dMo_send_6 rfl (fun hz => absurd hz (by omega)) (fun h6 => ?_)
  refine lv_iconst (v := nI 1) hx hb dMo_send_9 (by decide) ?_
  refine lv_goto (tgt := 35) hx hb dMo_send_10 rfl ?_
  refine va_put (D := D) (ci := 4) (v := .int (nI 1)) (ty := .int) (C := RMo) (T := TMo) (N := 29) hx hb ht inMo tyMo tyMo_ok nmMo hown hE.1 hP hD hS 0 rfl rfl 0 (by decide) (ht _ tw_587) (fun _ h => h) rfl (by decide +kernel) rfl rfl (Nat.le_of_ble_eq_true rfl) dMo_send_35 (fun H locs hP hD hS => ?_)
  have hP : va_P D cls_ (mW h ad ca 1 M) H := hP
  have hD : va_D A (mW h ad ca 1 M) := hD
  refine lv_aload_n hx hb dMo_send_38 rfl (lv_at hl 0 rfl) ?_
  refine va_get (D := D) (ci := 4) (v := .int (nI 1)) (C := RMo) (T := TMo) (N := 29) hx hb ht inMo hown hE.1 hP 0 rfl rfl 0 (by decide) (ht _ tw_587) (fun _ h => h) rfl dMo_send_39 ?_
  refine k_if_ne (tgt := 68) hx hb (by omega) dMo_send_42 rfl (fun h42 => ?_) (fun hz => absurd hz (by omega))
  refine lv_aload_n hx hb dMo_send_68 rfl (lv_at hl 0 rfl) ?_
  refine va_get (D := D) (ci := 4) (v := .int (nI 1)) (C := RMo) (T := TMo) (N := 29) hx hb ht inMo hown hE.1 hP 0 rfl rfl 0 (by decide) (ht _ tw_587) (fun _ h => h) rfl dMo_send_69 ?_
  refine k_if_le (tgt := 77) hx hb (by omega) dMo_send_72 rfl (fun hz => absurd hz (by omega)) (fun h72 => ?_)
  refine lv_iconst (v := nI 0) hx hb dMo_send_75 (by decide) ?_
  exact Co.retz hx hb hret hlk (by first | rfl | decide) dMo_send_76 hS hP hD () rfl trivial rfl (Nat.le_of_ble_eq_true rfl) (Nat.le_of_ble_eq_true rfl)
set_option maxHeartbeats 4000000 in
set_option maxRecDepth 100000 in
theorem c_Mo_receive (l : Launch) (D : va_G) (ca : Nat → ClassId) (h : Nat) (ad : Nat → Nat) (co : Nat) (M : Nat → Nat → Nat) (s₀ cn : Nat) (hM : mOk M) (hs : s₀ < 2) (hc : cn < 3) (hup : M 10 s₀ = 2 ∧ M 17 s₀ ≤ 9) (hst : M 23 (3 * s₀ + cn) = 3) (hne : M 26 (3 * s₀ + cn) ≠ M 27 (3 * s₀ + cn)) : Co (S := Unit) l yMo_receive (Cond.code yMo_receive cMo_receive 5 (some FieldType.int) :: tb_) { frames := 5, cells := 0, slots := 0, locals := 160 } D ca [.ref h, .int (nI s₀), .int (nI cn)] (mW h ad ca co M) (fun _ => some (.int (nI (M 28 (2 * (3 * s₀ + cn)))))) (fun _ => True) (fun _ => (mW h ad ca 0 (mRecv M s₀ cn))) 0 0 := by
  refine Co.of cMo_receive 5 (some FieldType.int) (by decide) (Nat.le_of_ble_eq_true rfl) ?_
  intro p e s m args below meth c A ls fx hret hlk hin hE hP hD hS hA hl
  have hx := fx.1
  have hb := fx.2.1
  have hown : s.vm.findClass RMo = some m.cls := fx.2.2.2.1
  have hts := fx.2.2.2.2
  have ht : ∀ w ∈ tb_, w.before args s = true := fun w h => hts w (List.mem_cons_of_mem _ h)
  have e3 : (if M 10 s₀ = 2 ∧ M 17 s₀ ≤ 9 then 0 else 2) = 0 := if_pos hup
  have b1 : M 23 (3 * s₀ + cn) < 6 := hM 23 _
  have b6 : M 26 (3 * s₀ + cn) < 8 := hM 26 _
  have b7 : M 27 (3 * s₀ + cn) < 8 := hM 27 _
  have b8 := af_lt (M 27 (3 * s₀ + cn))
  have hl : lv_has ls 5 [(0, .ref h), (1, .int (nI s₀)), (2, .int (nI cn))] := hl
  refine lv_aload_n hx hb dMo_receive_0 rfl (lv_at hl 0 rfl) ?_
  refine lv_aload_n hx hb dMo_receive_1 rfl (lv_at hl 0 rfl) ?_
  refine lv_iload_n hx hb dMo_receive_2 rfl (lv_at hl 1 rfl) ?_
  refine lv_iload_n hx hb dMo_receive_3 rfl (lv_at hl 2 rfl) ?_
  refine lv_iconst (v := nI 2) hx hb dMo_receive_4 (by decide) ?_
  refine kI (rV fx (c_Mo_bars l D ca h ad co M s₀ cn (by first | assumption | exact mOk.idle (by assumption) _ | exact mOk.clean (by assumption) _ | exact mOk.renew (by assumption) _ | exact (mOk.renew (by assumption) _).set 23 (show 3 < 6 by decide) | exact (mOk.renew (by assumption) _).set 23 (show 5 < 6 by decide)) (by omega) (by omega) 2) ⟨callB_of 3 hts (tb_gi tw_783) rfl rfl rfl (ht _ tw_5) (ht _ tw_780) (by decide +kernel) ⟨(Nat.le_of_ble_eq_true rfl), (Nat.le_of_ble_eq_true rfl)⟩, ht _ tw_782, ht _ tw_861⟩ hE hP hD 0 rfl rfl rfl [0, 1, 2, 3, 4, 5, 6, 7, 8, 9, 10, 11, 12, 13, 14, 15, 16, 17, 18, 19, 20, 21, 22, 23, 24, 25, 26, 27, 28] rfl rfl rfl hl.1 rfl (Nat.le_of_ble_eq_true rfl) dMo_receive_5 ⟨(Nat.le_of_ble_eq_true rfl), (Nat.le_of_ble_eq_true rfl)⟩) hP hD hS hA [0, 1, 2, 3, 4, 5, 6, 7, 8, 9, 10, 11, 12, 13, 14, 15, 16, 17, 18, 19, 20, 21, 22, 23, 24, 25, 26, 27, 28] [] rfl rfl rfl (by decide) (fun _ H locs _ hP hD hS => ?_)
  have hP : va_P D cls_ (mW h ad ca co M) H := hP
  have hD : va_D A (mW h ad ca co M) := hD
  refine k_is (y := nI 0) (by rw [e3]) ?_
  refine va_put (D := D) (ci := 4) (v := .int (nI 0)) (ty := .int) (C := RMo) (T := TMo) (N := 29) hx hb ht inMo tyMo tyMo_ok nmMo hown hE.1 hP hD hS 0 rfl rfl 0 (by decide) (ht _ tw_587) (fun _ h => h) rfl (by decide +kernel) rfl rfl (Nat.le_of_ble_eq_true rfl) dMo_receive_8 (fun H locs hP hD hS => ?_)
  have hP : va_P D cls_ (mW h ad ca 0 M) H := hP
  have hD : va_D A (mW h ad ca 0 M) := hD
  refine lv_aload_n hx hb dMo_receive_11 rfl (lv_at hl 0 rfl) ?_
  refine va_get (D := D) (ci := 4) (v := .int (nI 0)) (C := RMo) (T := TMo) (N := 29) hx hb ht inMo hown hE.1 hP 0 rfl rfl 0 (by decide) (ht _ tw_587) (fun _ h => h) rfl dMo_receive_12 ?_
  refine k_if_ne (tgt := 68) hx hb (by omega) dMo_receive_15 rfl (fun hz => absurd hz (by omega)) (fun h15 => ?_)
  refine lv_aload_n hx hb dMo_receive_18 rfl (lv_at hl 0 rfl) ?_
  refine lv_aload_n hx hb dMo_receive_19 rfl (lv_at hl 0 rfl) ?_
  refine va_get (D := D) (ci := 4) (v := .ref (ad 23)) (C := RMo) (T := TMo) (N := 29) hx hb ht inMo hown hE.1 hP 0 rfl rfl 23 (by decide) (ht _ tw_610) (fun _ h => h) rfl dMo_receive_20 ?_
  refine lv_iconst (v := nI 3) hx hb dMo_receive_23 (by decide) ?_
  refine lv_iload_n hx hb dMo_receive_24 rfl (lv_at hl 1 rfl) ?_
  refine k_imul hx hb dMo_receive_25 ?_
  refine lv_iload_n hx hb dMo_receive_26 rfl (lv_at hl 2 rfl) ?_
  refine k_iadd hx hb dMo_receive_27 ?_
  refine k_iald hx hb hE.1 hP 23 0 (n := 6) (g := (M 23)) rfl rfl (i := ((3 * s₀) + cn)) (by omega) (by decide) dMo_receive_28 ?_
  refine lv_iconst (v := nI 3) hx hb dMo_receive_29 (by decide) ?_
  refine k_icmp_eq (tgt := 37) hx hb (by omega) (by omega) dMo_receive_30 rfl (fun h30 => ?_) (fun hz => absurd hz (by omega))
  refine lv_aload_n hx hb dMo_receive_37 rfl (lv_at hl 0 rfl) ?_
  refine va_get (D := D) (ci := 4) (v := .ref (ad 26)) (C := RMo) (T := TMo) (N := 29) hx hb ht inMo hown hE.1 hP 0 rfl rfl 26 (by decide) (ht _ tw_613) (fun _ h => h) rfl dMo_receive_38 ?_
  refine lv_iconst (v := nI 3) hx hb dMo_receive_41 (by decide) ?_
  refine lv_iload_n hx hb dMo_receive_42 rfl (lv_at hl 1 rfl) ?_
  refine k_imul hx hb dMo_receive_43 ?_
  refine lv_iload_n hx hb dMo_receive_44 rfl (lv_at hl 2 rfl) ?_
  refine k_iadd hx hb dMo_receive_45 ?_
  refine k_iald hx hb hE.1 hP 26 0 (n := 6) (g := (M 26)) rfl rfl (i := ((3 * s₀) + cn)) (by omega) (by decide) dMo_receive_46 ?_
  refine lv_aload_n hx hb dMo_receive_47 rfl (lv_at hl 0 rfl) ?_
  refine va_get (D := D) (ci := 4) (v := .ref (ad 27)) (C := RMo) (T := TMo) (N := 29) hx hb ht inMo hown hE.1 hP 0 rfl rfl 27 (by decide) (ht _ tw_614) (fun _ h => h) rfl dMo_receive_48 ?_
  refine lv_iconst (v := nI 3) hx hb dMo_receive_51 (by decide) ?_
  refine lv_iload_n hx hb dMo_receive_52 rfl (lv_at hl 1 rfl) ?_
  refine k_imul hx hb dMo_receive_53 ?_
  refine lv_iload_n hx hb dMo_receive_54 rfl (lv_at hl 2 rfl) ?_
  refine k_iadd hx hb dMo_receive_55 ?_
  refine k_iald hx hb hE.1 hP 27 0 (n := 6) (g := (M 27)) rfl rfl (i := ((3 * s₀) + cn)) (by omega) (by decide) dMo_receive_56 ?_
  refine k_icmp_ne (tgt := 64) hx hb (by omega) (by omega) dMo_receive_57 rfl (fun h57 => ?_) (fun hz => absurd hz (by omega))
  refine lv_iconst (v := nI 0) hx hb dMo_receive_64 (by decide) ?_
  refine va_put (D := D) (ci := 4) (v := .int (nI 0)) (ty := .int) (C := RMo) (T := TMo) (N := 29) hx hb ht inMo tyMo tyMo_ok nmMo hown hE.1 hP hD hS 0 rfl rfl 0 (by decide) (ht _ tw_587) (fun _ h => h) rfl (by decide +kernel) rfl rfl (Nat.le_of_ble_eq_true rfl) dMo_receive_65 (fun H locs hP hD hS => ?_)
  have hP : va_P D cls_ (mW h ad ca 0 M) H := hP
  have hD : va_D A (mW h ad ca 0 M) := hD
  refine lv_aload_n hx hb dMo_receive_68 rfl (lv_at hl 0 rfl) ?_
  refine va_get (D := D) (ci := 4) (v := .int (nI 0)) (C := RMo) (T := TMo) (N := 29) hx hb ht inMo hown hE.1 hP 0 rfl rfl 0 (by decide) (ht _ tw_587) (fun _ h => h) rfl dMo_receive_69 ?_
  refine k_if_le (tgt := 77) hx hb (by omega) dMo_receive_72 rfl (fun h72 => ?_) (fun hz => absurd hz (by omega))
  refine lv_iconst (v := nI 3) hx hb dMo_receive_77 (by decide) ?_
  refine lv_iload_n hx hb dMo_receive_78 rfl (lv_at hl 1 rfl) ?_
  refine k_imul hx hb dMo_receive_79 ?_
  refine lv_iload_n hx hb dMo_receive_80 rfl (lv_at hl 2 rfl) ?_
  refine k_iadd hx hb dMo_receive_81 ?_
  refine lv_istore_n hx hb dMo_receive_82 rfl hl (by decide) rfl (fun ls hl => ?_)
  have hl : lv_has ls 5 [(3, .int (nI ((3 * s₀) + cn))), (0, .ref h), (1, .int (nI s₀)), (2, .int (nI cn))] := hl
  refine lv_aload_n hx hb dMo_receive_83 rfl (lv_at hl 1 rfl) ?_
  refine va_get (D := D) (ci := 4) (v := .ref (ad 28)) (C := RMo) (T := TMo) (N := 29) hx hb ht inMo hown hE.1 hP 0 rfl rfl 28 (by decide) (ht _ tw_615) (fun _ h => h) rfl dMo_receive_84 ?_
  refine lv_iconst (v := nI 2) hx hb dMo_receive_87 (by decide) ?_
  refine lv_iload_n hx hb dMo_receive_88 rfl (lv_at hl 0 rfl) ?_
  refine k_imul hx hb dMo_receive_89 ?_
  refine k_iald hx hb hE.1 hP 28 0 (n := 12) (g := (M 28)) rfl rfl (i := (2 * ((3 * s₀) + cn))) (by omega) (by decide) dMo_receive_90 ?_
  refine lv_istore hx hb dMo_receive_91 hl (by decide) rfl (fun ls hl => ?_)
  have hl : lv_has ls 5 [(4, .int (nI (M 28 (2 * ((3 * s₀) + cn))))), (3, .int (nI ((3 * s₀) + cn))), (0, .ref h), (1, .int (nI s₀)), (2, .int (nI cn))] := hl
  refine lv_aload_n hx hb dMo_receive_93 rfl (lv_at hl 2 rfl) ?_
  refine va_get (D := D) (ci := 4) (v := .ref (ad 28)) (C := RMo) (T := TMo) (N := 29) hx hb ht inMo hown hE.1 hP 0 rfl rfl 28 (by decide) (ht _ tw_615) (fun _ h => h) rfl dMo_receive_94 ?_
  refine lv_iconst (v := nI 2) hx hb dMo_receive_97 (by decide) ?_
  refine lv_iload_n hx hb dMo_receive_98 rfl (lv_at hl 1 rfl) ?_
  refine k_imul hx hb dMo_receive_99 ?_
  refine lv_aload_n hx hb dMo_receive_100 rfl (lv_at hl 2 rfl) ?_
  refine va_get (D := D) (ci := 4) (v := .ref (ad 28)) (C := RMo) (T := TMo) (N := 29) hx hb ht inMo hown hE.1 hP 0 rfl rfl 28 (by decide) (ht _ tw_615) (fun _ h => h) rfl dMo_receive_101 ?_
  refine lv_iconst (v := nI 2) hx hb dMo_receive_104 (by decide) ?_
  refine lv_iload_n hx hb dMo_receive_105 rfl (lv_at hl 1 rfl) ?_
  refine k_imul hx hb dMo_receive_106 ?_
  refine lv_iconst (v := nI 1) hx hb dMo_receive_107 (by decide) ?_
  refine k_iadd hx hb dMo_receive_108 ?_
  refine k_iald hx hb hE.1 hP 28 0 (n := 12) (g := (M 28)) rfl rfl (i := ((2 * ((3 * s₀) + cn)) + 1)) (by omega) (by decide) dMo_receive_109 ?_
  refine k_iast hx hb hE.1 hP hD hS 28 0 (n := 12) (g := (M 28)) rfl rfl (i := (2 * ((3 * s₀) + cn))) (x := (M 28 ((2 * ((3 * s₀) + cn)) + 1))) (by omega) (by decide) dMo_receive_110 (fun H locs hP hD hS => ?_)
  rw [mo_set_28] at hP hD
  refine lv_aload_n hx hb dMo_receive_111 rfl (lv_at hl 2 rfl) ?_
  refine va_get (D := D) (ci := 4) (v := .ref (ad 27)) (C := RMo) (T := TMo) (N := 29) hx hb ht inMo hown hE.1 hP 0 rfl rfl 27 (by decide) (ht _ tw_614) (fun _ h => h) rfl dMo_receive_112 ?_
  refine lv_iload_n hx hb dMo_receive_115 rfl (lv_at hl 1 rfl) ?_
  refine lv_aload_n hx hb dMo_receive_116 rfl (lv_at hl 2 rfl) ?_
  refine va_get (D := D) (ci := 4) (v := .ref (ad 27)) (C := RMo) (T := TMo) (N := 29) hx hb ht inMo hown hE.1 hP 0 rfl rfl 27 (by decide) (ht _ tw_614) (fun _ h => h) rfl dMo_receive_117 ?_
  refine lv_iload_n hx hb dMo_receive_120 rfl (lv_at hl 1 rfl) ?_
  refine k_iald hx hb hE.1 hP 27 0 (n := 6) (g := (M 27)) rfl rfl (i := ((3 * s₀) + cn)) (by omega) (by decide) dMo_receive_121 ?_
  refine kI (rS fx (c_Mo_grown l D ca (M 27 ((3 * s₀) + cn)) (by omega)) ⟨callB_of 1 hts (tb_gi tw_736) rfl rfl rfl (ht _ tw_5) (ht _ tw_734) (by decide +kernel) ⟨(Nat.le_of_ble_eq_true rfl), (Nat.le_of_ble_eq_true rfl)⟩, ht _ tw_735⟩ hE hP hD [] rfl rfl rfl hl.1 rfl (Nat.le_of_ble_eq_true rfl) dMo_receive_122 ⟨(Nat.le_of_ble_eq_true rfl), (Nat.le_of_ble_eq_true rfl)⟩) hP hD hS hA [] [0, 1, 2, 3, 4, 5, 6, 7, 8, 9, 10, 11, 12, 13, 14, 15, 16, 17, 18, 19, 20, 21, 22, 23, 24, 25, 26, 27, 28] rfl rfl rfl (by decide) (fun _ H locs _ hP hD hS => ?_)
  have hP : va_P D cls_ (mW h ad ca 0 (mS M 28 (2 * ((3 * s₀) + cn)) (M 28 ((2 * ((3 * s₀) + cn)) + 1)))) H := hP
  have hD : va_D A (mW h ad ca 0 (mS M 28 (2 * ((3 * s₀) + cn)) (M 28 ((2 * ((3 * s₀) + cn)) + 1)))) := hD
  refine k_iast hx hb hE.1 hP hD hS 27 0 (n := 6) (g := ((mS M 28 (2 * ((3 * s₀) + cn)) (M 28 ((2 * ((3 * s₀) + cn)) + 1))) 27)) rfl rfl (i := ((3 * s₀) + cn)) (x := (af (M 27 ((3 * s₀) + cn)))) (by omega) (by decide) dMo_receive_125 (fun H locs hP hD hS => ?_)
  rw [mo_set_27] at hP hD
  have hM9 : mOk (mS (mS M 28 (2 * ((3 * s₀) + cn)) (M 28 ((2 * ((3 * s₀) + cn)) + 1))) 27 ((3 * s₀) + cn) (af (M 27 ((3 * s₀) + cn)))) := (hM.set 28 (hM 28 _)).set 27 (af_lt _)
  refine lv_aload_n hx hb dMo_receive_126 rfl (lv_at hl 2 rfl) ?_
  refine lv_iload_n hx hb dMo_receive_127 rfl (lv_at hl 3 rfl) ?_
  refine lv_bipush (v := nI 6) hx hb dMo_receive_128 (by decide) ?_
  refine lv_iload_n hx hb dMo_receive_130 rfl (lv_at hl 4 rfl) ?_
  refine lv_iconst (v := nI 0) hx hb dMo_receive_131 (by decide) ?_
  refine lv_aload_n hx hb dMo_receive_132 rfl (lv_at hl 2 rfl) ?_
  refine va_get (D := D) (ci := 4) (v := .ref (ad 27)) (C := RMo) (T := TMo) (N := 29) hx hb ht inMo hown hE.1 hP 0 rfl rfl 27 (by decide) (ht _ tw_614) (fun _ h => h) rfl dMo_receive_133 ?_
  refine lv_iload_n hx hb dMo_receive_136 rfl (lv_at hl 1 rfl) ?_
  refine k_iald hx hb hE.1 hP 27 0 (n := 6) (g := ((mS (mS M 28 (2 * ((3 * s₀) + cn)) (M 28 ((2 * ((3 * s₀) + cn)) + 1))) 27 ((3 * s₀) + cn) (af (M 27 ((3 * s₀) + cn)))) 27)) rfl rfl (i := ((3 * s₀) + cn)) (by omega) (by decide) dMo_receive_137 ?_
  refine k_is (y := nI (af (M 27 (3 * s₀ + cn)))) (by rw [mS_same, va_up_self]) ?_
  refine lv_iconst (v := nI 0) hx hb dMo_receive_138 (by decide) ?_
  refine kV (rV fx (c_Mo_post l D ca h ad 0 (mS (mS M 28 (2 * ((3 * s₀) + cn)) (M 28 ((2 * ((3 * s₀) + cn)) + 1))) 27 ((3 * s₀) + cn) (af (M 27 ((3 * s₀) + cn)))) s₀ 6 cn 0 (af (M 27 (3 * s₀ + cn))) 0 (by first | assumption | exact mOk.idle (by assumption) _ | exact mOk.clean (by assumption) _ | exact mOk.renew (by assumption) _ | exact (mOk.renew (by assumption) _).set 23 (show 3 < 6 by decide) | exact (mOk.renew (by assumption) _).set 23 (show 5 < 6 by decide)) (by omega) (by omega) (by omega) (by omega) (by omega) (by omega)) ⟨callB_of 6 hts (tb_gi tw_748) rfl rfl rfl (ht _ tw_5) (ht _ tw_745) (by decide +kernel) ⟨(Nat.le_of_ble_eq_true rfl), (Nat.le_of_ble_eq_true rfl)⟩, ht _ tw_747, ht _ tw_858⟩ hE hP hD 0 rfl rfl rfl [0, 1, 2, 3, 4, 5, 6, 7, 8, 9, 10, 11, 12, 13, 14, 15, 16, 17, 18, 19, 20, 21, 22, 23, 24, 25, 26, 27, 28] rfl rfl rfl hl.1 rfl (Nat.le_of_ble_eq_true rfl) dMo_receive_139 ⟨(Nat.le_of_ble_eq_true rfl), (Nat.le_of_ble_eq_true rfl)⟩) hP hD hS hA [0, 1, 2, 3, 4, 5, 6, 7, 8, 9, 10, 11, 12, 13, 14, 15, 16, 17, 18, 19, 20, 21, 22, 23, 24, 25, 26, 27, 28] [] rfl rfl rfl (by decide) (fun _ H locs _ hP hD hS => ?_)
  have hP : va_P D cls_ (mW h ad ca 0 (mPost (mS (mS M 28 (2 * ((3 * s₀) + cn)) (M 28 ((2 * ((3 * s₀) + cn)) + 1))) 27 ((3 * s₀) + cn) (af (M 27 ((3 * s₀) + cn)))) s₀ 6 cn 0 (af (M 27 (3 * s₀ + cn))) 0)) H := hP
  have hD : va_D A (mW h ad ca 0 (mPost (mS (mS M 28 (2 * ((3 * s₀) + cn)) (M 28 ((2 * ((3 * s₀) + cn)) + 1))) 27 ((3 * s₀) + cn) (af (M 27 ((3 * s₀) + cn)))) s₀ 6 cn 0 (af (M 27 (3 * s₀ + cn))) 0)) := hD
  refine lv_iload hx hb dMo_receive_142 (lv_at hl 0 rfl) ?_
  exact Co.reti hx hb hret hlk dMo_receive_144 hS hP hD () rfl trivial rfl (Nat.le_of_ble_eq_true rfl) (Nat.le_of_ble_eq_true rfl)
set_option maxHeartbeats 4000000 in
set_option maxRecDepth 100000 in
theorem c_Mo_receiveE (l : Launch) (D : va_G) (ca : Nat → ClassId) (h : Nat) (ad : Nat → Nat) (co : Nat) (M : Nat → Nat → Nat) (s₀ cn : Nat) (hM : mOk M) (hs : s₀ < 2) (hc : cn < 3) (hup : M 10 s₀ = 2 ∧ M 17 s₀ ≤ 9) (hst : M 23 (3 * s₀ + cn) = 3) (hne : M 26 (3 * s₀ + cn) = M 27 (3 * s₀ + cn)) : Co (S := Unit) l yMo_receive (Cond.code yMo_receive cMo_receive 5 (some FieldType.int) :: tb_) { frames := 5, cells := 0, slots := 0, locals := 160 } D ca [.ref h, .int (nI s₀), .int (nI cn)] (mW h ad ca co M) (fun _ => some (.int (nI 0))) (fun _ => True) (fun _ => (mW h ad ca 3 M)) 0 0 := by
  refine Co.of cMo_receive 5 (some FieldType.int) (by decide) (Nat.le_of_ble_eq_true rfl) ?_
  intro p e s m args below meth c A ls fx hret hlk hin hE hP hD hS hA hl
  have hx := fx.1
  have hb := fx.2.1
  have hown : s.vm.findClass RMo = some m.cls := fx.2.2.2.1
  have hts := fx.2.2.2.2
  have ht : ∀ w ∈ tb_, w.before args s = true := fun w h => hts w (List.mem_cons_of_mem _ h)
  have e3 : (if M 10 s₀ = 2 ∧ M 17 s₀ ≤ 9 then 0 else 2) = 0 := if_pos hup
  have b1 : M 23 (3 * s₀ + cn) < 6 := hM 23 _
  have b6 : M 26 (3 * s₀ + cn) < 8 := hM 26 _
  have b7 : M 27 (3 * s₀ + cn) < 8 := hM 27 _
  have b8 := af_lt (M 27 (3 * s₀ + cn))
  have hl : lv_has ls 5 [(0, .ref h), (1, .int (nI s₀)), (2, .int (nI cn))] := hl
  refine lv_aload_n hx hb dMo_receive_0 rfl (lv_at hl 0 rfl) ?_
  refine lv_aload_n hx hb dMo_receive_1 rfl (lv_at hl 0 rfl) ?_
  refine lv_iload_n hx hb dMo_receive_2 rfl (lv_at hl 1 rfl) ?_
  refine lv_iload_n hx hb dMo_receive_3 rfl (lv_at hl 2 rfl) ?_
  refine lv_iconst (v := nI 2) hx hb dMo_receive_4 (by decide) ?_
  refine kI (rV fx (c_Mo_bars l D ca h ad co M s₀ cn (by first | assumption | exact mOk.idle (by assumption) _ | exact mOk.clean (by assumption) _ | exact mOk.renew (by assumption) _ | exact (mOk.renew (by assumption) _).set 23 (show 3 < 6 by decide) | exact (mOk.renew (by assumption) _).set 23 (show 5 < 6 by decide)) (by omega) (by omega) 2) ⟨callB_of 3 hts (tb_gi tw_783) rfl rfl rfl (ht _ tw_5) (ht _ tw_780) (by decide +kernel) ⟨(Nat.le_of_ble_eq_true rfl), (Nat.le_of_ble_eq_true rfl)⟩, ht _ tw_782, ht _ tw_861⟩ hE hP hD 0 rfl rfl rfl [0, 1, 2, 3, 4, 5, 6, 7, 8, 9, 10, 11, 12, 13, 14, 15, 16, 17, 18, 19, 20, 21, 22, 23, 24, 25, 26, 27, 28] rfl rfl rfl hl.1 rfl (Nat.le_of_ble_eq_true rfl) dMo_receive_5 ⟨(Nat.le_of_ble_eq_true rfl), (Nat.le_of_ble_eq_true rfl)⟩) hP hD hS hA [0, 1, 2, 3, 4, 5, 6, 7, 8, 9, 10, 11, 12, 13, 14, 15, 16, 17, 18, 19, 20, 21, 22, 23, 24, 25, 26, 27, 28] [] rfl rfl rfl (by decide) (fun _ H locs _ hP hD hS => ?_)
  have hP : va_P D cls_ (mW h ad ca co M) H := hP
  have hD : va_D A (mW h ad ca co M) := hD
  refine k_is (y := nI 0) (by rw [e3]) ?_
  refine va_put (D := D) (ci := 4) (v := .int (nI 0)) (ty := .int) (C := RMo) (T := TMo) (N := 29) hx hb ht inMo tyMo tyMo_ok nmMo hown hE.1 hP hD hS 0 rfl rfl 0 (by decide) (ht _ tw_587) (fun _ h => h) rfl (by decide +kernel) rfl rfl (Nat.le_of_ble_eq_true rfl) dMo_receive_8 (fun H locs hP hD hS => ?_)
  have hP : va_P D cls_ (mW h ad ca 0 M) H := hP
  have hD : va_D A (mW h ad ca 0 M) := hD
  refine lv_aload_n hx hb dMo_receive_11 rfl (lv_at hl 0 rfl) ?_
  refine va_get (D := D) (ci := 4) (v := .int (nI 0)) (C := RMo) (T := TMo) (N := 29) hx hb ht inMo hown hE.1 hP 0 rfl rfl 0 (by decide) (ht _ tw_587) (fun _ h => h) rfl dMo_receive_12 ?_
  refine k_if_ne (tgt := 68) hx hb (by omega) dMo_receive_15 rfl (fun hz => absurd hz (by omega)) (fun h15 => ?_)
  refine lv_aload_n hx hb dMo_receive_18 rfl (lv_at hl 0 rfl) ?_
  refine lv_aload_n hx hb dMo_receive_19 rfl (lv_at hl 0 rfl) ?_
  refine va_get (D := D) (ci := 4) (v := .ref (ad 23)) (C := RMo) (T := TMo) (N := 29) hx hb ht inMo hown hE.1 hP 0 rfl rfl 23 (by decide) (ht _ tw_610) (fun _ h => h) rfl dMo_receive_20 ?_
  refine lv_iconst (v := nI 3) hx hb dMo_receive_23 (by decide) ?_
  refine lv_iload_n hx hb dMo_receive_24 rfl (lv_at hl 1 rfl) ?_
  refine k_imul hx hb dMo_receive_25 ?_
  refine lv_iload_n hx hb dMo_receive_26 rfl (lv_at hl 2 rfl) ?_
  refine k_iadd hx hb dMo_receive_27 ?_
  refine k_iald hx hb hE.1 hP 23 0 (n := 6) (g := (M 23)) rfl rfl (i := ((3 * s₀) + cn)) (by omega) (by decide) dMo_receive_28 ?_
  refine lv_iconst (v := nI 3) hx hb dMo_receive_29 (by decide) ?_
  refine k_icmp_eq (tgt := 37) hx hb (by omega) (by omega) dMo_receive_30 rfl (fun h30 => ?_) (fun hz => absurd hz (by omega))
  refine lv_aload_n hx hb dMo_receive_37 rfl (lv_at hl 0 rfl) ?_
  refine va_get (D := D) (ci := 4) (v := .ref (ad 26)) (C := RMo) (T := TMo) (N := 29) hx hb ht inMo hown hE.1 hP 0 rfl rfl 26 (by decide) (ht _ tw_613) (fun _ h => h) rfl dMo_receive_38 ?_
  refine lv_iconst (v := nI 3) hx hb dMo_receive_41 (by decide) ?_
  refine lv_iload_n hx hb dMo_receive_42 rfl (lv_at hl 1 rfl) ?_
  refine k_imul hx hb dMo_receive_43 ?_
  refine lv_iload_n hx hb dMo_receive_44 rfl (lv_at hl 2 rfl) ?_
  refine k_iadd hx hb dMo_receive_45 ?_
  refine k_iald hx hb hE.1 hP 26 0 (n := 6) (g := (M 26)) rfl rfl (i := ((3 * s₀) + cn)) (by omega) (by decide) dMo_receive_46 ?_
  refine lv_aload_n hx hb dMo_receive_47 rfl (lv_at hl 0 rfl) ?_
  refine va_get (D := D) (ci := 4) (v := .ref (ad 27)) (C := RMo) (T := TMo) (N := 29) hx hb ht inMo hown hE.1 hP 0 rfl rfl 27 (by decide) (ht _ tw_614) (fun _ h => h) rfl dMo_receive_48 ?_
  refine lv_iconst (v := nI 3) hx hb dMo_receive_51 (by decide) ?_
  refine lv_iload_n hx hb dMo_receive_52 rfl (lv_at hl 1 rfl) ?_
  refine k_imul hx hb dMo_receive_53 ?_
  refine lv_iload_n hx hb dMo_receive_54 rfl (lv_at hl 2 rfl) ?_
  refine k_iadd hx hb dMo_receive_55 ?_
  refine k_iald hx hb hE.1 hP 27 0 (n := 6) (g := (M 27)) rfl rfl (i := ((3 * s₀) + cn)) (by omega) (by decide) dMo_receive_56 ?_
  refine k_icmp_ne (tgt := 64) hx hb (by omega) (by omega) dMo_receive_57 rfl (fun hz => absurd hz (by omega)) (fun h57 => ?_)
  refine lv_iconst (v := nI 3) hx hb dMo_receive_60 (by decide) ?_
  refine lv_goto (tgt := 65) hx hb dMo_receive_61 rfl ?_
  refine va_put (D := D) (ci := 4) (v := .int (nI 3)) (ty := .int) (C := RMo) (T := TMo) (N := 29) hx hb ht inMo tyMo tyMo_ok nmMo hown hE.1 hP hD hS 0 rfl rfl 0 (by decide) (ht _ tw_587) (fun _ h => h) rfl (by decide +kernel) rfl rfl (Nat.le_of_ble_eq_true rfl) dMo_receive_65 (fun H locs hP hD hS => ?_)
  have hP : va_P D cls_ (mW h ad ca 3 M) H := hP
  have hD : va_D A (mW h ad ca 3 M) := hD
  refine lv_aload_n hx hb dMo_receive_68 rfl (lv_at hl 0 rfl) ?_
  refine va_get (D := D) (ci := 4) (v := .int (nI 3)) (C := RMo) (T := TMo) (N := 29) hx hb ht inMo hown hE.1 hP 0 rfl rfl 0 (by decide) (ht _ tw_587) (fun _ h => h) rfl dMo_receive_69 ?_
  refine k_if_le (tgt := 77) hx hb (by omega) dMo_receive_72 rfl (fun hz => absurd hz (by omega)) (fun h72 => ?_)
  refine lv_iconst (v := nI 0) hx hb dMo_receive_75 (by decide) ?_
  exact Co.reti hx hb hret hlk dMo_receive_76 hS hP hD () rfl trivial rfl (Nat.le_of_ble_eq_true rfl) (Nat.le_of_ble_eq_true rfl)
set_option maxHeartbeats 4000000 in
set_option maxRecDepth 100000 in
theorem c_Mo_receiveS (l : Launch) (D : va_G) (ca : Nat → ClassId) (h : Nat) (ad : Nat → Nat) (co : Nat) (M : Nat → Nat → Nat) (s₀ cn : Nat) (hM : mOk M) (hs : s₀ < 2) (hc : cn < 3) (hup : M 10 s₀ = 2 ∧ M 17 s₀ ≤ 9) (hst : ¬ M 23 (3 * s₀ + cn) = 3) : Co (S := Unit) l yMo_receive (Cond.code yMo_receive cMo_receive 5 (some FieldType.int) :: tb_) { frames := 5, cells := 0, slots := 0, locals := 160 } D ca [.ref h, .int (nI s₀), .int (nI cn)] (mW h ad ca co M) (fun _ => some (.int (nI 0))) (fun _ => True) (fun _ => (mW h ad ca 2 M)) 0 0 := by
  refine Co.of cMo_receive 5 (some FieldType.int) (by decide) (Nat.le_of_ble_eq_true rfl) ?_
  intro p e s m args below meth c A ls fx hret hlk hin hE hP hD hS hA hl
  have hx := fx.1
  have hb := fx.2.1
  have hown : s.vm.findClass RMo = some m.cls := fx.2.2.2.1
  have hts := fx.2.2.2.2
  have ht : ∀ w ∈ tb_, w.before args s = true := fun w h => hts w (List.mem_cons_of_mem _ h)
  have e3 : (if M 10 s₀ = 2 ∧ M 17 s₀ ≤ 9 then 0 else 2) = 0 := if_pos hup
  have b1 : M 23 (3 * s₀ + cn) < 6 := hM 23 _
  have hl : lv_has ls 5 [(0, .ref h), (1, .int (nI s₀)), (2, .int (nI cn))] := hl
  refine lv_aload_n hx hb dMo_receive_0 rfl (lv_at hl 0 rfl) ?_
  refine lv_aload_n hx hb dMo_receive_1 rfl (lv_at hl 0 rfl) ?_
  refine lv_iload_n hx hb dMo_receive_2 rfl (lv_at hl 1 rfl) ?_
  refine lv_iload_n hx hb dMo_receive_3 rfl (lv_at hl 2 rfl) ?_
  refine lv_iconst (v := nI 2) hx hb dMo_receive_4 (by decide) ?_
  refine kI (rV fx (c_Mo_bars l D ca h ad co M s₀ cn (by first | assumption | exact mOk.idle (by assumption) _ | exact mOk.clean (by assumption) _ | exact mOk.renew (by assumption) _ | exact (mOk.renew (by assumption) _).set 23 (show 3 < 6 by decide) | exact (mOk.renew (by assumption) _).set 23 (show 5 < 6 by decide)) (by omega) (by omega) 2) ⟨callB_of 3 hts (tb_gi tw_783) rfl rfl rfl (ht _ tw_5) (ht _ tw_780) (by decide +kernel) ⟨(Nat.le_of_ble_eq_true rfl), (Nat.le_of_ble_eq_true rfl)⟩, ht _ tw_782, ht _ tw_861⟩ hE hP hD 0 rfl rfl rfl [0, 1, 2, 3, 4, 5, 6, 7, 8, 9, 10, 11, 12, 13, 14, 15, 16, 17, 18, 19, 20, 21, 22, 23, 24, 25, 26, 27, 28] rfl rfl rfl hl.1 rfl (Nat.le_of_ble_eq_true rfl) dMo_receive_5 ⟨(Nat.le_of_ble_eq_true rfl), (Nat.le_of_ble_eq_true rfl)⟩) hP hD hS hA [0, 1, 2, 3, 4, 5, 6, 7, 8, 9, 10, 11, 12, 13, 14, 15, 16, 17, 18, 19, 20, 21, 22, 23, 24, 25, 26, 27, 28] [] rfl rfl rfl (by decide) (fun _ H locs _ hP hD hS => ?_)
  have hP : va_P D cls_ (mW h ad ca co M) H := hP
  have hD : va_D A (mW h ad ca co M) := hD
  refine k_is (y := nI 0) (by rw [e3]) ?_
  refine va_put (D := D) (ci := 4) (v := .int (nI 0)) (ty := .int) (C := RMo) (T := TMo) (N := 29) hx hb ht inMo tyMo tyMo_ok nmMo hown hE.1 hP hD hS 0 rfl rfl 0 (by decide) (ht _ tw_587) (fun _ h => h) rfl (by decide +kernel) rfl rfl (Nat.le_of_ble_eq_true rfl) dMo_receive_8 (fun H locs hP hD hS => ?_)
  have hP : va_P D cls_ (mW h ad ca 0 M) H := hP
  have hD : va_D A (mW h ad ca 0 M) := hD
  refine lv_aload_n hx hb dMo_receive_11 rfl (lv_at hl 0 rfl) ?_
  refine va_get (D := D) (ci := 4) (v := .int (nI 0)) (C := RMo) (T := TMo) (N := 29) hx hb ht inMo hown hE.1 hP 0 rfl rfl 0 (by decide) (ht _ tw_587) (fun _ h => h) rfl dMo_receive_12 ?_
  refine k_if_ne (tgt := 68) hx hb (by omega) dMo_receive_15 rfl (fun hz => absurd hz (by omega)) (fun h15 => ?_)
  refine lv_aload_n hx hb dMo_receive_18 rfl (lv_at hl 0 rfl) ?_
  refine lv_aload_n hx hb dMo_receive_19 rfl (lv_at hl 0 rfl) ?_
  refine va_get (D := D) (ci := 4) (v := .ref (ad 23)) (C := RMo) (T := TMo) (N := 29) hx hb ht inMo hown hE.1 hP 0 rfl rfl 23 (by decide) (ht _ tw_610) (fun _ h => h) rfl dMo_receive_20 ?_
  refine lv_iconst (v := nI 3) hx hb dMo_receive_23 (by decide) ?_
  refine lv_iload_n hx hb dMo_receive_24 rfl (lv_at hl 1 rfl) ?_
  refine k_imul hx hb dMo_receive_25 ?_
  refine lv_iload_n hx hb dMo_receive_26 rfl (lv_at hl 2 rfl) ?_
  refine k_iadd hx hb dMo_receive_27 ?_
  refine k_iald hx hb hE.1 hP 23 0 (n := 6) (g := (M 23)) rfl rfl (i := ((3 * s₀) + cn)) (by omega) (by decide) dMo_receive_28 ?_
  refine lv_iconst (v := nI 3) hx hb dMo_receive_29 (by decide) ?_
  refine k_icmp_eq (tgt := 37) hx hb (by omega) (by omega) dMo_receive_30 rfl (fun hz => absurd hz (by omega)) (fun h30 => ?_)
  refine lv_iconst (v := nI 2) hx hb dMo_receive_33 (by decide) ?_
  refine lv_goto (tgt := 65) hx hb dMo_receive_34 rfl ?_
  refine va_put (D := D) (ci := 4) (v := .int (nI 2)) (ty := .int) (C := RMo) (T := TMo) (N := 29) hx hb ht inMo tyMo tyMo_ok nmMo hown hE.1 hP hD hS 0 rfl rfl 0 (by decide) (ht _ tw_587) (fun _ h => h) rfl (by decide +kernel) rfl rfl (Nat.le_of_ble_eq_true rfl) dMo_receive_65 (fun H locs hP hD hS => ?_)
  have hP : va_P D cls_ (mW h ad ca 2 M) H := hP
  have hD : va_D A (mW h ad ca 2 M) := hD
  refine lv_aload_n hx hb dMo_receive_68 rfl (lv_at hl 0 rfl) ?_
  refine va_get (D := D) (ci := 4) (v := .int (nI 2)) (C := RMo) (T := TMo) (N := 29) hx hb ht inMo hown hE.1 hP 0 rfl rfl 0 (by decide) (ht _ tw_587) (fun _ h => h) rfl dMo_receive_69 ?_
  refine k_if_le (tgt := 77) hx hb (by omega) dMo_receive_72 rfl (fun hz => absurd hz (by omega)) (fun h72 => ?_)
  refine lv_iconst (v := nI 0) hx hb dMo_receive_75 (by decide) ?_
  exact Co.reti hx hb hret hlk dMo_receive_76 hS hP hD () rfl trivial rfl (Nat.le_of_ble_eq_true rfl) (Nat.le_of_ble_eq_true rfl)
set_option maxHeartbeats 4000000 in
set_option maxRecDepth 100000 in
theorem c_Mo_receiveU (l : Launch) (D : va_G) (ca : Nat → ClassId) (h : Nat) (ad : Nat → Nat) (co : Nat) (M : Nat → Nat → Nat) (s₀ cn : Nat) (hM : mOk M) (hs : s₀ < 2) (hc : cn < 3) (hup : ¬ (M 10 s₀ = 2 ∧ M 17 s₀ ≤ 9)) : Co (S := Unit) l yMo_receive (Cond.code yMo_receive cMo_receive 5 (some FieldType.int) :: tb_) { frames := 5, cells := 0, slots := 0, locals := 160 } D ca [.ref h, .int (nI s₀), .int (nI cn)] (mW h ad ca co M) (fun _ => some (.int (nI 0))) (fun _ => True) (fun _ => (mW h ad ca 2 M)) 0 0 := by
  refine Co.of cMo_receive 5 (some FieldType.int) (by decide) (Nat.le_of_ble_eq_true rfl) ?_
  intro p e s m args below meth c A ls fx hret hlk hin hE hP hD hS hA hl
  have hx := fx.1
  have hb := fx.2.1
  have hown : s.vm.findClass RMo = some m.cls := fx.2.2.2.1
  have hts := fx.2.2.2.2
  have ht : ∀ w ∈ tb_, w.before args s = true := fun w h => hts w (List.mem_cons_of_mem _ h)
  have e3 : (if M 10 s₀ = 2 ∧ M 17 s₀ ≤ 9 then 0 else 2) = 2 := if_neg hup
  have hl : lv_has ls 5 [(0, .ref h), (1, .int (nI s₀)), (2, .int (nI cn))] := hl
  refine lv_aload_n hx hb dMo_receive_0 rfl (lv_at hl 0 rfl) ?_
  refine lv_aload_n hx hb dMo_receive_1 rfl (lv_at hl 0 rfl) ?_
  refine lv_iload_n hx hb dMo_receive_2 rfl (lv_at hl 1 rfl) ?_
  refine lv_iload_n hx hb dMo_receive_3 rfl (lv_at hl 2 rfl) ?_
  refine lv_iconst (v := nI 2) hx hb dMo_receive_4 (by decide) ?_
  refine kI (rV fx (c_Mo_bars l D ca h ad co M s₀ cn (by first | assumption | exact mOk.idle (by assumption) _ | exact mOk.clean (by assumption) _ | exact mOk.renew (by assumption) _ | exact (mOk.renew (by assumption) _).set 23 (show 3 < 6 by decide) | exact (mOk.renew (by assumption) _).set 23 (show 5 < 6 by decide)) (by omega) (by omega) 2) ⟨callB_of 3 hts (tb_gi tw_783) rfl rfl rfl (ht _ tw_5) (ht _ tw_780) (by decide +kernel) ⟨(Nat.le_of_ble_eq_true rfl), (Nat.le_of_ble_eq_true rfl)⟩, ht _ tw_782, ht _ tw_861⟩ hE hP hD 0 rfl rfl rfl [0, 1, 2, 3, 4, 5, 6, 7, 8, 9, 10, 11, 12, 13, 14, 15, 16, 17, 18, 19, 20, 21, 22, 23, 24, 25, 26, 27, 28] rfl rfl rfl hl.1 rfl (Nat.le_of_ble_eq_true rfl) dMo_receive_5 ⟨(Nat.le_of_ble_eq_true rfl), (Nat.le_of_ble_eq_true rfl)⟩) hP hD hS hA [0, 1, 2, 3, 4, 5, 6, 7, 8, 9, 10, 11, 12, 13, 14, 15, 16, 17, 18, 19, 20, 21, 22, 23, 24, 25, 26, 27, 28] [] rfl rfl rfl (by decide) (fun _ H locs _ hP hD hS => ?_)
  have hP : va_P D cls_ (mW h ad ca co M) H := hP
  have hD : va_D A (mW h ad ca co M) := hD
  refine k_is (y := nI 2) (by rw [e3]) ?_
  refine va_put (D := D) (ci := 4) (v := .int (nI 2)) (ty := .int) (C := RMo) (T := TMo) (N := 29) hx hb ht inMo tyMo tyMo_ok nmMo hown hE.1 hP hD hS 0 rfl rfl 0 (by decide) (ht _ tw_587) (fun _ h => h) rfl (by decide +kernel) rfl rfl (Nat.le_of_ble_eq_true rfl) dMo_receive_8 (fun H locs hP hD hS => ?_)
  have hP : va_P D cls_ (mW h ad ca 2 M) H := hP
  have hD : va_D A (mW h ad ca 2 M) := hD
  refine lv_aload_n hx hb dMo_receive_11 rfl (lv_at hl 0 rfl) ?_
  refine va_get (D := D) (ci := 4) (v := .int (nI 2)) (C := RMo) (T := TMo) (N := 29) hx hb ht inMo hown hE.1 hP 0 rfl rfl 0 (by decide) (ht _ tw_587) (fun _ h => h) rfl dMo_receive_12 ?_
  refine k_if_ne (tgt := 68) hx hb (by omega) dMo_receive_15 rfl (fun h15 => ?_) (fun hz => absurd hz (by omega))
  refine lv_aload_n hx hb dMo_receive_68 rfl (lv_at hl 0 rfl) ?_
  refine va_get (D := D) (ci := 4) (v := .int (nI 2)) (C := RMo) (T := TMo) (N := 29) hx hb ht inMo hown hE.1 hP 0 rfl rfl 0 (by decide) (ht _ tw_587) (fun _ h => h) rfl dMo_receive_69 ?_
  refine k_if_le (tgt := 77) hx hb (by omega) dMo_receive_72 rfl (fun hz => absurd hz (by omega)) (fun h72 => ?_)
  refine lv_iconst (v := nI 0) hx hb dMo_receive_75 (by decide) ?_
  exact Co.reti hx hb hret hlk dMo_receive_76 hS hP hD () rfl trivial rfl (Nat.le_of_ble_eq_true rfl) (Nat.le_of_ble_eq_true rfl)
set_option maxHeartbeats 4000000 in
set_option maxRecDepth 100000 in
theorem c_Mo_receiveX (l : Launch) (D : va_G) (ca : Nat → ClassId) (h : Nat) (ad : Nat → Nat) (co : Nat) (M : Nat → Nat → Nat) (x₀ : Int32) (hx0 : ¬ x₀ = 0) (hx1 : ¬ x₀ = nI 1) (y₀ : Int32) : Co (S := Unit) l yMo_receive (Cond.code yMo_receive cMo_receive 5 (some FieldType.int) :: tb_) { frames := 5, cells := 0, slots := 0, locals := 160 } D ca [.ref h, .int x₀, .int y₀] (mW h ad ca co M) (fun _ => some (.int (nI 0))) (fun _ => True) (fun _ => (mW h ad ca 1 M)) 0 0 := by
  refine Co.of cMo_receive 5 (some FieldType.int) (by decide) (Nat.le_of_ble_eq_true rfl) ?_
  intro p e s m args below meth c A ls fx hret hlk hin hE hP hD hS hA hl
  have hx := fx.1
  have hb := fx.2.1
  have hown : s.vm.findClass RMo = some m.cls := fx.2.2.2.1
  have hts := fx.2.2.2.2
  have ht : ∀ w ∈ tb_, w.before args s = true := fun w h => hts w (List.mem_cons_of_mem _ h)
  have hl : lv_has ls 5 [(0, .ref h), (1, .int x₀), (2, .int y₀)] := hl
  refine lv_aload_n hx hb dMo_receive_0 rfl (lv_at hl 0 rfl) ?_
  refine lv_aload_n hx hb dMo_receive_1 rfl (lv_at hl 0 rfl) ?_
  refine lv_iload_n hx hb dMo_receive_2 rfl (lv_at hl 1 rfl) ?_
  refine lv_iload_n hx hb dMo_receive_3 rfl (lv_at hl 2 rfl) ?_
  refine lv_iconst (v := nI 2) hx hb dMo_receive_4 (by decide) ?_
  refine kI (rV fx (c_Mo_barsX l D ca h ad co M x₀ hx0 hx1 y₀ 2) ⟨callB_of 3 hts (tb_gi tw_783) rfl rfl rfl (ht _ tw_5) (ht _ tw_780) (by decide +kernel) ⟨(Nat.le_of_ble_eq_true rfl), (Nat.le_of_ble_eq_true rfl)⟩, ht _ tw_782, ht _ tw_861⟩ hE hP hD 0 rfl rfl rfl [0, 1, 2, 3, 4, 5, 6, 7, 8, 9, 10, 11, 12, 13, 14, 15, 16, 17, 18, 19, 20, 21, 22, 23, 24, 25, 26, 27, 28] rfl rfl rfl hl.1 rfl (Nat.le_of_ble_eq_true rfl) dMo_receive_5 ⟨(Nat.le_of_ble_eq_true rfl), (Nat.le_of_ble_eq_true rfl)⟩) hP hD hS hA [0, 1, 2, 3, 4, 5, 6, 7, 8, 9, 10, 11, 12, 13, 14, 15, 16, 17, 18, 19, 20, 21, 22, 23, 24, 25, 26, 27, 28] [] rfl rfl rfl (by decide) (fun _ H locs _ hP hD hS => ?_)
  have hP : va_P D cls_ (mW h ad ca co M) H := hP
  have hD : va_D A (mW h ad ca co M) := hD
  refine va_put (D := D) (ci := 4) (v := .int (nI 1)) (ty := .int) (C := RMo) (T := TMo) (N := 29) hx hb ht inMo tyMo tyMo_ok nmMo hown hE.1 hP hD hS 0 rfl rfl 0 (by decide) (ht _ tw_587) (fun _ h => h) rfl (by decide +kernel) rfl rfl (Nat.le_of_ble_eq_true rfl) dMo_receive_8 (fun H locs hP hD hS => ?_)
  have hP : va_P D cls_ (mW h ad ca 1 M) H := hP
  have hD : va_D A (mW h ad ca 1 M) := hD
  refine lv_aload_n hx hb dMo_receive_11 rfl (lv_at hl 0 rfl) ?_
  refine va_get (D := D) (ci := 4) (v := .int (nI 1)) (C := RMo) (T := TMo) (N := 29) hx hb ht inMo hown hE.1 hP 0 rfl rfl 0 (by decide) (ht _ tw_587) (fun _ h => h) rfl dMo_receive_12 ?_
  refine k_if_ne (tgt := 68) hx hb (by omega) dMo_receive_15 rfl (fun h15 => ?_) (fun hz => absurd hz (by omega))
  refine lv_aload_n hx hb dMo_receive_68 rfl (lv_at hl 0 rfl) ?_
  refine va_get (D := D) (ci := 4) (v := .int (nI 1)) (C := RMo) (T := TMo) (N := 29) hx hb ht inMo hown hE.1 hP 0 rfl rfl 0 (by decide) (ht _ tw_587) (fun _ h => h) rfl dMo_receive_69 ?_
  refine k_if_le (tgt := 77) hx hb (by omega) dMo_receive_72 rfl (fun hz => absurd hz (by omega)) (fun h72 => ?_)
  refine lv_iconst (v := nI 0) hx hb dMo_receive_75 (by decide) ?_
  exact Co.reti hx hb hret hlk dMo_receive_76 hS hP hD () rfl trivial rfl (Nat.le_of_ble_eq_true rfl) (Nat.le_of_ble_eq_true rfl)
set_option maxHeartbeats 4000000 in
set_option maxRecDepth 100000 in
theorem c_Mo_receiveC (l : Launch) (D : va_G) (ca : Nat → ClassId) (h : Nat) (ad : Nat → Nat) (co : Nat) (M : Nat → Nat → Nat) (s₀ : Nat) (hs : s₀ < 2) (y₀ : Int32) (hy0 : y₀ < 0 ∨ nI 3 ≤ y₀) : Co (S := Unit) l yMo_receive (Cond.code yMo_receive cMo_receive 5 (some FieldType.int) :: tb_) { frames := 5, cells := 0, slots := 0, locals := 160 } D ca [.ref h, .int (nI s₀), .int y₀] (mW h ad ca co M) (fun _ => some (.int (nI 0))) (fun _ => True) (fun _ => (mW h ad ca 1 M)) 0 0 := by
  refine Co.of cMo_receive 5 (some FieldType.int) (by decide) (Nat.le_of_ble_eq_true rfl) ?_
  intro p e s m args below meth c A ls fx hret hlk hin hE hP hD hS hA hl
  have hx := fx.1
  have hb := fx.2.1
  have hown : s.vm.findClass RMo = some m.cls := fx.2.2.2.1
  have hts := fx.2.2.2.2
  have ht : ∀ w ∈ tb_, w.before args s = true := fun w h => hts w (List.mem_cons_of_mem _ h)
  have hl : lv_has ls 5 [(0, .ref h), (1, .int (nI s₀)), (2, .int y₀)] := hl
  refine lv_aload_n hx hb dMo_receive_0 rfl (lv_at hl 0 rfl) ?_
  refine lv_aload_n hx hb dMo_receive_1 rfl (lv_at hl 0 rfl) ?_
  refine lv_iload_n hx hb dMo_receive_2 rfl (lv_at hl 1 rfl) ?_
  refine lv_iload_n hx hb dMo_receive_3 rfl (lv_at hl 2 rfl) ?_
  refine lv_iconst (v := nI 2) hx hb dMo_receive_4 (by decide) ?_
  refine kI (rV fx (c_Mo_barsC l D ca h ad co M s₀ (by omega) y₀ hy0 2) ⟨callB_of 3 hts (tb_gi tw_783) rfl rfl rfl (ht _ tw_5) (ht _ tw_780) (by decide +kernel) ⟨(Nat.le_of_ble_eq_true rfl), (Nat.le_of_ble_eq_true rfl)⟩, ht _ tw_782, ht _ tw_861⟩ hE hP hD 0 rfl rfl rfl [0, 1, 2, 3, 4, 5, 6, 7, 8, 9, 10, 11, 12, 13, 14, 15, 16, 17, 18, 19, 20, 21, 22, 23, 24, 25, 26, 27, 28] rfl rfl rfl hl.1 rfl (Nat.le_of_ble_eq_true rfl) dMo_receive_5 ⟨(Nat.le_of_ble_eq_true rfl), (Nat.le_of_ble_eq_true rfl)⟩) hP hD hS hA [0, 1, 2, 3, 4, 5, 6, 7, 8, 9, 10, 11, 12, 13, 14, 15, 16, 17, 18, 19, 20, 21, 22, 23, 24, 25, 26, 27, 28] [] rfl rfl rfl (by decide) (fun _ H locs _ hP hD hS => ?_)
  have hP : va_P D cls_ (mW h ad ca co M) H := hP
  have hD : va_D A (mW h ad ca co M) := hD
  refine va_put (D := D) (ci := 4) (v := .int (nI 1)) (ty := .int) (C := RMo) (T := TMo) (N := 29) hx hb ht inMo tyMo tyMo_ok nmMo hown hE.1 hP hD hS 0 rfl rfl 0 (by decide) (ht _ tw_587) (fun _ h => h) rfl (by decide +kernel) rfl rfl (Nat.le_of_ble_eq_true rfl) dMo_receive_8 (fun H locs hP hD hS => ?_)
  have hP : va_P D cls_ (mW h ad ca 1 M) H := hP
  have hD : va_D A (mW h ad ca 1 M) := hD
  refine lv_aload_n hx hb dMo_receive_11 rfl (lv_at hl 0 rfl) ?_
  refine va_get (D := D) (ci := 4) (v := .int (nI 1)) (C := RMo) (T := TMo) (N := 29) hx hb ht inMo hown hE.1 hP 0 rfl rfl 0 (by decide) (ht _ tw_587) (fun _ h => h) rfl dMo_receive_12 ?_
  refine k_if_ne (tgt := 68) hx hb (by omega) dMo_receive_15 rfl (fun h15 => ?_) (fun hz => absurd hz (by omega))
  refine lv_aload_n hx hb dMo_receive_68 rfl (lv_at hl 0 rfl) ?_
  refine va_get (D := D) (ci := 4) (v := .int (nI 1)) (C := RMo) (T := TMo) (N := 29) hx hb ht inMo hown hE.1 hP 0 rfl rfl 0 (by decide) (ht _ tw_587) (fun _ h => h) rfl dMo_receive_69 ?_
  refine k_if_le (tgt := 77) hx hb (by omega) dMo_receive_72 rfl (fun hz => absurd hz (by omega)) (fun h72 => ?_)
  refine lv_iconst (v := nI 0) hx hb dMo_receive_75 (by decide) ?_
  exact Co.reti hx hb hret hlk dMo_receive_76 hS hP hD () rfl trivial rfl (Nat.le_of_ble_eq_true rfl) (Nat.le_of_ble_eq_true rfl)
