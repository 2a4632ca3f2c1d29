set_option maxHeartbeats 4000000 in
set_option maxRecDepth 100000 in
theorem c_Cl_link (l : Launch) (D : va_G) (ca : Nat → ClassId) (x ss : Nat) (fs : Nat → Option Nat) (s₀ : Nat) (hs0 : s₀ < 2) (h ln pe ou cs lk sn ac ex tr rj : Nat) (oua : Nat) (O : Rw_) (lna : Nat) (Ln : Rw_) (hfs : fs s₀ = some h) (w₀ : Nat) (hw0 : w₀ < 8) (hrj : rj < 2) : Co (S := Unit) l yCl_link (Cond.code yCl_link cCl_link 4 (some FieldType.int) :: tb_) { frames := 1, cells := 0, slots := 0, locals := 32 } D ca [.ref x, .int (nI s₀), .int (nI w₀)] [(x, .inr (3, [.ref ss])), (ss, .inl (ca 2, 2, .inr (.inr (.inr (.inr fs))))), (h, .inr (2, [.ref ln, .ref pe, .ref ou, .ref cs, .int (nI lk), .int (nI sn), .int (nI ac), .int (nI ex), .int (nI tr), .int (nI rj)])), (ou, .inr (0, [.ref oua, .int (nI O.2)])), (oua, .inl (ca 0, 16, .inl (fun j => nI (O.1 j)))), (ln, .inr (0, [.ref lna, .int (nI Ln.2)])), (lna, .inl (ca 0, 12, .inl (fun j => nI (Ln.1 j))))] (fun _ => some (.int (nI (sel8 w₀ lk sn ac ex tr rj O.2 Ln.2)))) (fun _ => True) (fun _ => [(x, .inr (3, [.ref ss])), (ss, .inl (ca 2, 2, .inr (.inr (.inr (.inr fs))))), (h, .inr (2, [.ref ln, .ref pe, .ref ou, .ref cs, .int (nI lk), .int (nI sn), .int (nI ac), .int (nI ex), .int (nI tr), .int (nI rj)])), (ou, .inr (0, [.ref oua, .int (nI O.2)])), (oua, .inl (ca 0, 16, .inl (fun j => nI (O.1 j)))), (ln, .inr (0, [.ref lna, .int (nI Ln.2)])), (lna, .inl (ca 0, 12, .inl (fun j => nI (Ln.1 j))))]) 0 0 := by
  refine Co.of cCl_link 4 (some FieldType.int) (by decide) (Nat.le_of_ble_eq_true rfl) ?_
  intro p e s m args below meth c A ls fx hret hlk hin hE hP hD hS hA hl
  have hx := fx.1
  have hb := fx.2.1
  have hown : s.vm.findClass RCl = some m.cls := fx.2.2.2.1
  have hts := fx.2.2.2.2
  have ht : ∀ w ∈ tb_, w.before args s = true := fun w h => hts w (List.mem_cons_of_mem _ h)
  have hl : lv_has ls 4 [(0, .ref x), (1, .int (nI s₀)), (2, .int (nI w₀))] := hl
  refine lv_aload_n hx hb dCl_link_0 rfl (lv_at hl 0 rfl) ?_
  refine lv_iload_n hx hb dCl_link_1 rfl (lv_at hl 1 rfl) ?_
  refine kA (rV fx (c_Cl_stationAt l D ca x ss fs s₀ hs0 h hfs) ⟨callB_of 1 hts (tb_gi tw_143) rfl rfl rfl (ht _ tw_1) (ht _ tw_140) (by decide +kernel) ⟨(Nat.le_of_ble_eq_true rfl), (Nat.le_of_ble_eq_true rfl)⟩, ht _ tw_142, ht _ tw_826⟩ hE hP hD 0 rfl rfl rfl [0, 1] rfl rfl rfl hl.1 rfl (Nat.le_of_ble_eq_true rfl) dCl_link_2 ⟨(Nat.le_of_ble_eq_true rfl), (Nat.le_of_ble_eq_true rfl)⟩) hP hD hS hA [0, 1] [2, 3, 4, 5, 6] rfl rfl rfl (by decide) (fun _ H locs _ hP hD hS => ?_)
  have hP : va_P D cls_ [(h, .inr (2, [.ref ln, .ref pe, .ref ou, .ref cs, .int (nI lk), .int (nI sn), .int (nI ac), .int (nI ex), .int (nI tr), .int (nI rj)])), (ou, .inr (0, [.ref oua, .int (nI O.2)])), (oua, .inl (ca 0, 16, .inl (fun j => nI (O.1 j)))), (ln, .inr (0, [.ref lna, .int (nI Ln.2)])), (lna, .inl (ca 0, 12, .inl (fun j => nI (Ln.1 j)))), (x, .inr (3, [.ref ss])), (ss, .inl (ca 2, 2, .inr (.inr (.inr (.inr fs)))))] H := hP
  have hD : va_D A [(h, .inr (2, [.ref ln, .ref pe, .ref ou, .ref cs, .int (nI lk), .int (nI sn), .int (nI ac), .int (nI ex), .int (nI tr), .int (nI rj)])), (ou, .inr (0, [.ref oua, .int (nI O.2)])), (oua, .inl (ca 0, 16, .inl (fun j => nI (O.1 j)))), (ln, .inr (0, [.ref lna, .int (nI Ln.2)])), (lna, .inl (ca 0, 12, .inl (fun j => nI (Ln.1 j)))), (x, .inr (3, [.ref ss])), (ss, .inl (ca 2, 2, .inr (.inr (.inr (.inr fs)))))] := hD
  refine lv_astore_n hx hb dCl_link_5 rfl hl (by decide) rfl (fun ls hl => ?_)
  have hl : lv_has ls 4 [(3, .ref h), (0, .ref x), (1, .int (nI s₀)), (2, .int (nI w₀))] := hl
  refine lv_iload_n hx hb dCl_link_6 rfl (lv_at hl 3 rfl) ?_
  rcases (show w₀ = 0 ∨ w₀ = 1 ∨ w₀ = 2 ∨ w₀ = 3 ∨ w₀ = 4 ∨ w₀ = 5 ∨ w₀ = 6 ∨ w₀ = 7 ∨ (w₀ < 0 ∨ 7 < w₀) by omega) with h7 | h7 | h7 | h7 | h7 | h7 | h7 | h7 | h7
  · refine k_tab (tgt := 52) hx hb 0 h7 dCl_link_7 (by decide) (by decide) rfl rfl ?_
    refine lv_aload_n hx hb dCl_link_52 rfl (lv_at hl 0 rfl) ?_
    refine va_getN (D := D) (ci := 2) (v := .int (nI lk)) (host := "ChannelledLink") (C := RSt) (T := TSt) (N := 10) hx hb ht inSt hown hE.1 hP 0 rfl rfl 4 (by decide) (hE.nestU tw_96 rfl) (fun _ h => h) rfl dCl_link_53 ?_
    have hP : va_P D cls_ [(x, .inr (3, [.ref ss])), (ss, .inl (ca 2, 2, .inr (.inr (.inr (.inr fs))))), (h, .inr (2, [.ref ln, .ref pe, .ref ou, .ref cs, .int (nI lk), .int (nI sn), .int (nI ac), .int (nI ex), .int (nI tr), .int (nI rj)])), (ou, .inr (0, [.ref oua, .int (nI O.2)])), (oua, .inl (ca 0, 16, .inl (fun j => nI (O.1 j)))), (ln, .inr (0, [.ref lna, .int (nI Ln.2)])), (lna, .inl (ca 0, 12, .inl (fun j => nI (Ln.1 j))))] H := hP.sub [5, 6, 0, 1, 2, 3, 4] rfl
    have hD : va_D A [(x, .inr (3, [.ref ss])), (ss, .inl (ca 2, 2, .inr (.inr (.inr (.inr fs))))), (h, .inr (2, [.ref ln, .ref pe, .ref ou, .ref cs, .int (nI lk), .int (nI sn), .int (nI ac), .int (nI ex), .int (nI tr), .int (nI rj)])), (ou, .inr (0, [.ref oua, .int (nI O.2)])), (oua, .inl (ca 0, 16, .inl (fun j => nI (O.1 j)))), (ln, .inr (0, [.ref lna, .int (nI Ln.2)])), (lna, .inl (ca 0, 12, .inl (fun j => nI (Ln.1 j))))] := hD.sub [5, 6, 0, 1, 2, 3, 4] rfl rfl
    exact Co.reti hx hb hret hlk dCl_link_56 hS hP hD () (by rw [sel8, if_pos (by omega)]) trivial rfl (Nat.le_of_ble_eq_true rfl) (Nat.le_of_ble_eq_true rfl)
  · refine k_tab (tgt := 57) hx hb 1 h7 dCl_link_7 (by decide) (by decide) rfl rfl ?_
    refine lv_aload_n hx hb dCl_link_57 rfl (lv_at hl 0 rfl) ?_
    refine va_getN (D := D) (ci := 2) (v := .int (nI sn)) (host := "ChannelledLink") (C := RSt) (T := TSt) (N := 10) hx hb ht inSt hown hE.1 hP 0 rfl rfl 5 (by decide) (hE.nestU tw_98 rfl) (fun _ h => h) rfl dCl_link_58 ?_
    have hP : va_P D cls_ [(x, .inr (3, [.ref ss])), (ss, .inl (ca 2, 2, .inr (.inr (.inr (.inr fs))))), (h, .inr (2, [.ref ln, .ref pe, .ref ou, .ref cs, .int (nI lk), .int (nI sn), .int (nI ac), .int (nI ex), .int (nI tr), .int (nI rj)])), (ou, .inr (0, [.ref oua, .int (nI O.2)])), (oua, .inl (ca 0, 16, .inl (fun j => nI (O.1 j)))), (ln, .inr (0, [.ref lna, .int (nI Ln.2)])), (lna, .inl (ca 0, 12, .inl (fun j => nI (Ln.1 j))))] H := hP.sub [5, 6, 0, 1, 2, 3, 4] rfl
    have hD : va_D A [(x, .inr (3, [.ref ss])), (ss, .inl (ca 2, 2, .inr (.inr (.inr (.inr fs))))), (h, .inr (2, [.ref ln, .ref pe, .ref ou, .ref cs, .int (nI lk), .int (nI sn), .int (nI ac), .int (nI ex), .int (nI tr), .int (nI rj)])), (ou, .inr (0, [.ref oua, .int (nI O.2)])), (oua, .inl (ca 0, 16, .inl (fun j => nI (O.1 j)))), (ln, .inr (0, [.ref lna, .int (nI Ln.2)])), (lna, .inl (ca 0, 12, .inl (fun j => nI (Ln.1 j))))] := hD.sub [5, 6, 0, 1, 2, 3, 4] rfl rfl
    exact Co.reti hx hb hret hlk dCl_link_61 hS hP hD () (by rw [sel8, if_neg (by omega), if_pos (by omega)]) trivial rfl (Nat.le_of_ble_eq_true rfl) (Nat.le_of_ble_eq_true rfl)
  · refine k_tab (tgt := 62) hx hb 2 h7 dCl_link_7 (by decide) (by decide) rfl rfl ?_
    refine lv_aload_n hx hb dCl_link_62 rfl (lv_at hl 0 rfl) ?_
    refine va_getN (D := D) (ci := 2) (v := .int (nI ac)) (host := "ChannelledLink") (C := RSt) (T := TSt) (N := 10) hx hb ht inSt hown hE.1 hP 0 rfl rfl 6 (by decide) (hE.nestU tw_100 rfl) (fun _ h => h) rfl dCl_link_63 ?_
    have hP : va_P D cls_ [(x, .inr (3, [.ref ss])), (ss, .inl (ca 2, 2, .inr (.inr (.inr (.inr fs))))), (h, .inr (2, [.ref ln, .ref pe, .ref ou, .ref cs, .int (nI lk), .int (nI sn), .int (nI ac), .int (nI ex), .int (nI tr), .int (nI rj)])), (ou, .inr (0, [.ref oua, .int (nI O.2)])), (oua, .inl (ca 0, 16, .inl (fun j => nI (O.1 j)))), (ln, .inr (0, [.ref lna, .int (nI Ln.2)])), (lna, .inl (ca 0, 12, .inl (fun j => nI (Ln.1 j))))] H := hP.sub [5, 6, 0, 1, 2, 3, 4] rfl
    have hD : va_D A [(x, .inr (3, [.ref ss])), (ss, .inl (ca 2, 2, .inr (.inr (.inr (.inr fs))))), (h, .inr (2, [.ref ln, .ref pe, .ref ou, .ref cs, .int (nI lk), .int (nI sn), .int (nI ac), .int (nI ex), .int (nI tr), .int (nI rj)])), (ou, .inr (0, [.ref oua, .int (nI O.2)])), (oua, .inl (ca 0, 16, .inl (fun j => nI (O.1 j)))), (ln, .inr (0, [.ref lna, .int (nI Ln.2)])), (lna, .inl (ca 0, 12, .inl (fun j => nI (Ln.1 j))))] := hD.sub [5, 6, 0, 1, 2, 3, 4] rfl rfl
    exact Co.reti hx hb hret hlk dCl_link_66 hS hP hD () (by rw [sel8, if_neg (by omega), if_neg (by omega), if_pos (by omega)]) trivial rfl (Nat.le_of_ble_eq_true rfl) (Nat.le_of_ble_eq_true rfl)
  · refine k_tab (tgt := 67) hx hb 3 h7 dCl_link_7 (by decide) (by decide) rfl rfl ?_
    refine lv_aload_n hx hb dCl_link_67 rfl (lv_at hl 0 rfl) ?_
    refine va_getN (D := D) (ci := 2) (v := .int (nI ex)) (host := "ChannelledLink") (C := RSt) (T := TSt) (N := 10) hx hb ht inSt hown hE.1 hP 0 rfl rfl 7 (by decide) (hE.nestU tw_102 rfl) (fun _ h => h) rfl dCl_link_68 ?_
    have hP : va_P D cls_ [(x, .inr (3, [.ref ss])), (ss, .inl (ca 2, 2, .inr (.inr (.inr (.inr fs))))), (h, .inr (2, [.ref ln, .ref pe, .ref ou, .ref cs, .int (nI lk), .int (nI sn), .int (nI ac), .int (nI ex), .int (nI tr), .int (nI rj)])), (ou, .inr (0, [.ref oua, .int (nI O.2)])), (oua, .inl (ca 0, 16, .inl (fun j => nI (O.1 j)))), (ln, .inr (0, [.ref lna, .int (nI Ln.2)])), (lna, .inl (ca 0, 12, .inl (fun j => nI (Ln.1 j))))] H := hP.sub [5, 6, 0, 1, 2, 3, 4] rfl
    have hD : va_D A [(x, .inr (3, [.ref ss])), (ss, .inl (ca 2, 2, .inr (.inr (.inr (.inr fs))))), (h, .inr (2, [.ref ln, .ref pe, .ref ou, .ref cs, .int (nI lk), .int (nI sn), .int (nI ac), .int (nI ex), .int (nI tr), .int (nI rj)])), (ou, .inr (0, [.ref oua, .int (nI O.2)])), (oua, .inl (ca 0, 16, .inl (fun j => nI (O.1 j)))), (ln, .inr (0, [.ref lna, .int (nI Ln.2)])), (lna, .inl (ca 0, 12, .inl (fun j => nI (Ln.1 j))))] := hD.sub [5, 6, 0, 1, 2, 3, 4] rfl rfl
    exact Co.reti hx hb hret hlk dCl_link_71 hS hP hD () (by rw [sel8, if_neg (by omega), if_neg (by omega), if_neg (by omega), if_pos (by omega)]) trivial rfl (Nat.le_of_ble_eq_true rfl) (Nat.le_of_ble_eq_true rfl)
  · refine k_tab (tgt := 72) hx hb 4 h7 dCl_link_7 (by decide) (by decide) rfl rfl ?_
    refine lv_aload_n hx hb dCl_link_72 rfl (lv_at hl 0 rfl) ?_
    refine va_getN (D := D) (ci := 2) (v := .int (nI tr)) (host := "ChannelledLink") (C := RSt) (T := TSt) (N := 10) hx hb ht inSt hown hE.1 hP 0 rfl rfl 8 (by decide) (hE.nestU tw_104 rfl) (fun _ h => h) rfl dCl_link_73 ?_
    have hP : va_P D cls_ [(x, .inr (3, [.ref ss])), (ss, .inl (ca 2, 2, .inr (.inr (.inr (.inr fs))))), (h, .inr (2, [.ref ln, .ref pe, .ref ou, .ref cs, .int (nI lk), .int (nI sn), .int (nI ac), .int (nI ex), .int (nI tr), .int (nI rj)])), (ou, .inr (0, [.ref oua, .int (nI O.2)])), (oua, .inl (ca 0, 16, .inl (fun j => nI (O.1 j)))), (ln, .inr (0, [.ref lna, .int (nI Ln.2)])), (lna, .inl (ca 0, 12, .inl (fun j => nI (Ln.1 j))))] H := hP.sub [5, 6, 0, 1, 2, 3, 4] rfl
    have hD : va_D A [(x, .inr (3, [.ref ss])), (ss, .inl (ca 2, 2, .inr (.inr (.inr (.inr fs))))), (h, .inr (2, [.ref ln, .ref pe, .ref ou, .ref cs, .int (nI lk), .int (nI sn), .int (nI ac), .int (nI ex), .int (nI tr), .int (nI rj)])), (ou, .inr (0, [.ref oua, .int (nI O.2)])), (oua, .inl (ca 0, 16, .inl (fun j => nI (O.1 j)))), (ln, .inr (0, [.ref lna, .int (nI Ln.2)])), (lna, .inl (ca 0, 12, .inl (fun j => nI (Ln.1 j))))] := hD.sub [5, 6, 0, 1, 2, 3, 4] rfl rfl
    exact Co.reti hx hb hret hlk dCl_link_76 hS hP hD () (by rw [sel8, if_neg (by omega), if_neg (by omega), if_neg (by omega), if_neg (by omega), if_pos (by omega)]) trivial rfl (Nat.le_of_ble_eq_true rfl) (Nat.le_of_ble_eq_true rfl)
  · refine k_tab (tgt := 77) hx hb 5 h7 dCl_link_7 (by decide) (by decide) rfl rfl ?_
    refine lv_aload_n hx hb dCl_link_77 rfl (lv_at hl 0 rfl) ?_
    refine va_getN (D := D) (ci := 2) (v := .int (nI rj)) (host := "ChannelledLink") (C := RSt) (T := TSt) (N := 10) hx hb ht inSt hown hE.1 hP 0 rfl rfl 9 (by decide) (hE.nestU tw_106 rfl) (fun _ h => h) rfl dCl_link_78 ?_
    refine k_if_eq (tgt := 88) hx hb (by omega) dCl_link_81 rfl (fun h81 => ?_) (fun h81 => ?_)
    · refine lv_iconst (v := nI 0) hx hb dCl_link_88 (by decide) ?_
      have hP : va_P D cls_ [(x, .inr (3, [.ref ss])), (ss, .inl (ca 2, 2, .inr (.inr (.inr (.inr fs))))), (h, .inr (2, [.ref ln, .ref pe, .ref ou, .ref cs, .int (nI lk), .int (nI sn), .int (nI ac), .int (nI ex), .int (nI tr), .int (nI rj)])), (ou, .inr (0, [.ref oua, .int (nI O.2)])), (oua, .inl (ca 0, 16, .inl (fun j => nI (O.1 j)))), (ln, .inr (0, [.ref lna, .int (nI Ln.2)])), (lna, .inl (ca 0, 12, .inl (fun j => nI (Ln.1 j))))] H := hP.sub [5, 6, 0, 1, 2, 3, 4] rfl
      have hD : va_D A [(x, .inr (3, [.ref ss])), (ss, .inl (ca 2, 2, .inr (.inr (.inr (.inr fs))))), (h, .inr (2, [.ref ln, .ref pe, .ref ou, .ref cs, .int (nI lk), .int (nI sn), .int (nI ac), .int (nI ex), .int (nI tr), .int (nI rj)])), (ou, .inr (0, [.ref oua, .int (nI O.2)])), (oua, .inl (ca 0, 16, .inl (fun j => nI (O.1 j)))), (ln, .inr (0, [.ref lna, .int (nI Ln.2)])), (lna, .inl (ca 0, 12, .inl (fun j => nI (Ln.1 j))))] := hD.sub [5, 6, 0, 1, 2, 3, 4] rfl rfl
      exact Co.reti hx hb hret hlk dCl_link_89 hS hP hD () (by rw [sel8, if_neg (by omega), if_neg (by omega), if_neg (by omega), if_neg (by omega), if_neg (by omega), if_pos (by omega), show rj = 0 by omega]) trivial rfl (Nat.le_of_ble_eq_true rfl) (Nat.le_of_ble_eq_true rfl)
    · refine lv_iconst (v := nI 1) hx hb dCl_link_84 (by decide) ?_
      refine lv_goto (tgt := 89) hx hb dCl_link_85 rfl ?_
      have hP : va_P D cls_ [(x, .inr (3, [.ref ss])), (ss, .inl (ca 2, 2, .inr (.inr (.inr (.inr fs))))), (h, .inr (2, [.ref ln, .ref pe, .ref ou, .ref cs, .int (nI lk), .int (nI sn), .int (nI ac), .int (nI ex), .int (nI tr), .int (nI rj)])), (ou, .inr (0, [.ref oua, .int (nI O.2)])), (oua, .inl (ca 0, 16, .inl (fun j => nI (O.1 j)))), (ln, .inr (0, [.ref lna, .int (nI Ln.2)])), (lna, .inl (ca 0, 12, .inl (fun j => nI (Ln.1 j))))] H := hP.sub [5, 6, 0, 1, 2, 3, 4] rfl
      have hD : va_D A [(x, .inr (3, [.ref ss])), (ss, .inl (ca 2, 2, .inr (.inr (.inr (.inr fs))))), (h, .inr (2, [.ref ln, .ref pe, .ref ou, .ref cs, .int (nI lk), .int (nI sn), .int (nI ac), .int (nI ex), .int (nI tr), .int (nI rj)])), (ou, .inr (0, [.ref oua, .int (nI O.2)])), (oua, .inl (ca 0, 16, .inl (fun j => nI (O.1 j)))), (ln, .inr (0, [.ref lna, .int (nI Ln.2)])), (lna, .inl (ca 0, 12, .inl (fun j => nI (Ln.1 j))))] := hD.sub [5, 6, 0, 1, 2, 3, 4] rfl rfl
      exact Co.reti hx hb hret hlk dCl_link_89 hS hP hD () (by rw [sel8, if_neg (by omega), if_neg (by omega), if_neg (by omega), if_neg (by omega), if_neg (by omega), if_pos (by omega), show rj = 1 by omega]) trivial rfl (Nat.le_of_ble_eq_true rfl) (Nat.le_of_ble_eq_true rfl)
  · refine k_tab (tgt := 90) hx hb 6 h7 dCl_link_7 (by decide) (by decide) rfl rfl ?_
    refine lv_aload_n hx hb dCl_link_90 rfl (lv_at hl 0 rfl) ?_
    refine va_getN (D := D) (ci := 2) (v := .ref ou) (host := "ChannelledLink") (C := RSt) (T := TSt) (N := 10) hx hb ht inSt hown hE.1 hP 0 rfl rfl 2 (by decide) (hE.nestU tw_92 rfl) (fun _ h => h) rfl dCl_link_91 ?_
    refine va_getN (D := D) (ci := 0) (v := .int (nI O.2)) (host := "ChannelledLink") (C := RRw) (T := TRw) (N := 2) hx hb ht inRw hown hE.1 hP 1 rfl rfl 1 (by decide) (hE.nestU tw_35 rfl) (fun _ h => h) rfl dCl_link_94 ?_
    have hP : va_P D cls_ [(x, .inr (3, [.ref ss])), (ss, .inl (ca 2, 2, .inr (.inr (.inr (.inr fs))))), (h, .inr (2, [.ref ln, .ref pe, .ref ou, .ref cs, .int (nI lk), .int (nI sn), .int (nI ac), .int (nI ex), .int (nI tr), .int (nI rj)])), (ou, .inr (0, [.ref oua, .int (nI O.2)])), (oua, .inl (ca 0, 16, .inl (fun j => nI (O.1 j)))), (ln, .inr (0, [.ref lna, .int (nI Ln.2)])), (lna, .inl (ca 0, 12, .inl (fun j => nI (Ln.1 j))))] H := hP.sub [5, 6, 0, 1, 2, 3, 4] rfl
    have hD : va_D A [(x, .inr (3, [.ref ss])), (ss, .inl (ca 2, 2, .inr (.inr (.inr (.inr fs))))), (h, .inr (2, [.ref ln, .ref pe, .ref ou, .ref cs, .int (nI lk), .int (nI sn), .int (nI ac), .int (nI ex), .int (nI tr), .int (nI rj)])), (ou, .inr (0, [.ref oua, .int (nI O.2)])), (oua, .inl (ca 0, 16, .inl (fun j => nI (O.1 j)))), (ln, .inr (0, [.ref lna, .int (nI Ln.2)])), (lna, .inl (ca 0, 12, .inl (fun j => nI (Ln.1 j))))] := hD.sub [5, 6, 0, 1, 2, 3, 4] rfl rfl
    exact Co.reti hx hb hret hlk dCl_link_97 hS hP hD () (by rw [sel8, if_neg (by omega), if_neg (by omega), if_neg (by omega), if_neg (by omega), if_neg (by omega), if_neg (by omega), if_pos (by omega)]) trivial rfl (Nat.le_of_ble_eq_true rfl) (Nat.le_of_ble_eq_true rfl)
  · refine k_tab (tgt := 98) hx hb 7 h7 dCl_link_7 (by decide) (by decide) rfl rfl ?_
    refine lv_aload_n hx hb dCl_link_98 rfl (lv_at hl 0 rfl) ?_
    refine va_getN (D := D) (ci := 2) (v := .ref ln) (host := "ChannelledLink") (C := RSt) (T := TSt) (N := 10) hx hb ht inSt hown hE.1 hP 0 rfl rfl 0 (by decide) (hE.nestU tw_89 rfl) (fun _ h => h) rfl dCl_link_99 ?_
    refine va_getN (D := D) (ci := 0) (v := .int (nI Ln.2)) (host := "ChannelledLink") (C := RRw) (T := TRw) (N := 2) hx hb ht inRw hown hE.1 hP 3 rfl rfl 1 (by decide) (hE.nestU tw_35 rfl) (fun _ h => h) rfl dCl_link_102 ?_
    have hP : va_P D cls_ [(x, .inr (3, [.ref ss])), (ss, .inl (ca 2, 2, .inr (.inr (.inr (.inr fs))))), (h, .inr (2, [.ref ln, .ref pe, .ref ou, .ref cs, .int (nI lk), .int (nI sn), .int (nI ac), .int (nI ex), .int (nI tr), .int (nI rj)])), (ou, .inr (0, [.ref oua, .int (nI O.2)])), (oua, .inl (ca 0, 16, .inl (fun j => nI (O.1 j)))), (ln, .inr (0, [.ref lna, .int (nI Ln.2)])), (lna, .inl (ca 0, 12, .inl (fun j => nI (Ln.1 j))))] H := hP.sub [5, 6, 0, 1, 2, 3, 4] rfl
    have hD : va_D A [(x, .inr (3, [.ref ss])), (ss, .inl (ca 2, 2, .inr (.inr (.inr (.inr fs))))), (h, .inr (2, [.ref ln, .ref pe, .ref ou, .ref cs, .int (nI lk), .int (nI sn), .int (nI ac), .int (nI ex), .int (nI tr), .int (nI rj)])), (ou, .inr (0, [.ref oua, .int (nI O.2)])), (oua, .inl (ca 0, 16, .inl (fun j => nI (O.1 j)))), (ln, .inr (0, [.ref lna, .int (nI Ln.2)])), (lna, .inl (ca 0, 12, .inl (fun j => nI (Ln.1 j))))] := hD.sub [5, 6, 0, 1, 2, 3, 4] rfl rfl
    exact Co.reti hx hb hret hlk dCl_link_105 hS hP hD () (by rw [sel8, if_neg (by omega), if_neg (by omega), if_neg (by omega), if_neg (by omega), if_neg (by omega), if_neg (by omega), if_neg (by omega)]) trivial rfl (Nat.le_of_ble_eq_true rfl) (Nat.le_of_ble_eq_true rfl)
  · exfalso; omega
set_option maxHeartbeats 4000000 in
set_option maxRecDepth 100000 in
theorem c_Cl_linkX (l : Launch) (D : va_G) (ca : Nat → ClassId) (x ss : Nat) (fs : Nat → Option Nat) (s₀ : Nat) (hs0 : s₀ < 2) (h ln pe ou cs lk sn ac ex tr rj : Nat) (oua : Nat) (O : Rw_) (lna : Nat) (Ln : Rw_) (hfs : fs s₀ = some h) (w₁ : Int32) (hw1 : w₁.toInt < 0 ∨ 7 < w₁.toInt) : Co (S := Unit) l yCl_link (Cond.code yCl_link cCl_link 4 (some FieldType.int) :: tb_) { frames := 1, cells := 0, slots := 0, locals := 32 } D ca [.ref x, .int (nI s₀), .int w₁] [(x, .inr (3, [.ref ss])), (ss, .inl (ca 2, 2, .inr (.inr (.inr (.inr fs))))), (h, .inr (2, [.ref ln, .ref pe, .ref ou, .ref cs, .int (nI lk), .int (nI sn), .int (nI ac), .int (nI ex), .int (nI tr), .int (nI rj)])), (ou, .inr (0, [.ref oua, .int (nI O.2)])), (oua, .inl (ca 0, 16, .inl (fun j => nI (O.1 j)))), (ln, .inr (0, [.ref lna, .int (nI Ln.2)])), (lna, .inl (ca 0, 12, .inl (fun j => nI (Ln.1 j))))] (fun _ => some (.int (-1))) (fun _ => True) (fun _ => [(x, .inr (3, [.ref ss])), (ss, .inl (ca 2, 2, .inr (.inr (.inr (.inr fs))))), (h, .inr (2, [.ref ln, .ref pe, .ref ou, .ref cs, .int (nI lk), .int (nI sn), .int (nI ac), .int (nI ex), .int (nI tr), .int (nI rj)])), (ou, .inr (0, [.ref oua, .int (nI O.2)])), (oua, .inl (ca 0, 16, .inl (fun j => nI (O.1 j)))), (ln, .inr (0, [.ref lna, .int (nI Ln.2)])), (lna, .inl (ca 0, 12, .inl (fun j => nI (Ln.1 j))))]) 0 0 := by
  refine Co.of cCl_link 4 (some FieldType.int) (by decide) (Nat.le_of_ble_eq_true rfl) ?_
  intro p e s m args below meth c A ls fx hret hlk hin hE hP hD hS hA hl
  have hx := fx.1
  have hb := fx.2.1
  have hown : s.vm.findClass RCl = some m.cls := fx.2.2.2.1
  have hts := fx.2.2.2.2
  have ht : ∀ w ∈ tb_, w.before args s = true := fun w h => hts w (List.mem_cons_of_mem _ h)
  have hl : lv_has ls 4 [(0, .ref x), (1, .int (nI s₀)), (2, .int w₁)] := hl
  refine lv_aload_n hx hb dCl_link_0 rfl (lv_at hl 0 rfl) ?_
  refine lv_iload_n hx hb dCl_link_1 rfl (lv_at hl 1 rfl) ?_
  refine kA (rV fx (c_Cl_stationAt l D ca x ss fs s₀ hs0 h hfs) ⟨callB_of 1 hts (tb_gi tw_143) rfl rfl rfl (ht _ tw_1) (ht _ tw_140) (by decide +kernel) ⟨(Nat.le_of_ble_eq_true rfl), (Nat.le_of_ble_eq_true rfl)⟩, ht _ tw_142, ht _ tw_826⟩ hE hP hD 0 rfl rfl rfl [0, 1] rfl rfl rfl hl.1 rfl (Nat.le_of_ble_eq_true rfl) dCl_link_2 ⟨(Nat.le_of_ble_eq_true rfl), (Nat.le_of_ble_eq_true rfl)⟩) hP hD hS hA [0, 1] [2, 3, 4, 5, 6] rfl rfl rfl (by decide) (fun _ H locs _ hP hD hS => ?_)
  have hP : va_P D cls_ [(h, .inr (2, [.ref ln, .ref pe, .ref ou, .ref cs, .int (nI lk), .int (nI sn), .int (nI ac), .int (nI ex), .int (nI tr), .int (nI rj)])), (ou, .inr (0, [.ref oua, .int (nI O.2)])), (oua, .inl (ca 0, 16, .inl (fun j => nI (O.1 j)))), (ln, .inr (0, [.ref lna, .int (nI Ln.2)])), (lna, .inl (ca 0, 12, .inl (fun j => nI (Ln.1 j)))), (x, .inr (3, [.ref ss])), (ss, .inl (ca 2, 2, .inr (.inr (.inr (.inr fs)))))] H := hP
  have hD : va_D A [(h, .inr (2, [.ref ln, .ref pe, .ref ou, .ref cs, .int (nI lk), .int (nI sn), .int (nI ac), .int (nI ex), .int (nI tr), .int (nI rj)])), (ou, .inr (0, [.ref oua, .int (nI O.2)])), (oua, .inl (ca 0, 16, .inl (fun j => nI (O.1 j)))), (ln, .inr (0, [.ref lna, .int (nI Ln.2)])), (lna, .inl (ca 0, 12, .inl (fun j => nI (Ln.1 j)))), (x, .inr (3, [.ref ss])), (ss, .inl (ca 2, 2, .inr (.inr (.inr (.inr fs)))))] := hD
  refine lv_astore_n hx hb dCl_link_5 rfl hl (by decide) rfl (fun ls hl => ?_)
  have hl : lv_has ls 4 [(3, .ref h), (0, .ref x), (1, .int (nI s₀)), (2, .int w₁)] := hl
  refine lv_iload_n hx hb dCl_link_6 rfl (lv_at hl 3 rfl) ?_
  refine lv_tableOut (tgt := 106) hx hb dCl_link_7 hw1 rfl ?_
  refine lv_iconst (v := (-1)) hx hb dCl_link_106 (by decide) ?_
  have hP : va_P D cls_ [(x, .inr (3, [.ref ss])), (ss, .inl (ca 2, 2, .inr (.inr (.inr (.inr fs))))), (h, .inr (2, [.ref ln, .ref pe, .ref ou, .ref cs, .int (nI lk), .int (nI sn), .int (nI ac), .int (nI ex), .int (nI tr), .int (nI rj)])), (ou, .inr (0, [.ref oua, .int (nI O.2)])), (oua, .inl (ca 0, 16, .inl (fun j => nI (O.1 j)))), (ln, .inr (0, [.ref lna, .int (nI Ln.2)])), (lna, .inl (ca 0, 12, .inl (fun j => nI (Ln.1 j))))] H := hP.sub [5, 6, 0, 1, 2, 3, 4] rfl
  have hD : va_D A [(x, .inr (3, [.ref ss])), (ss, .inl (ca 2, 2, .inr (.inr (.inr (.inr fs))))), (h, .inr (2, [.ref ln, .ref pe, .ref ou, .ref cs, .int (nI lk), .int (nI sn), .int (nI ac), .int (nI ex), .int (nI tr), .int (nI rj)])), (ou, .inr (0, [.ref oua, .int (nI O.2)])), (oua, .inl (ca 0, 16, .inl (fun j => nI (O.1 j)))), (ln, .inr (0, [.ref lna, .int (nI Ln.2)])), (lna, .inl (ca 0, 12, .inl (fun j => nI (Ln.1 j))))] := hD.sub [5, 6, 0, 1, 2, 3, 4] rfl rfl
  exact Co.reti hx hb hret hlk dCl_link_107 hS hP hD () rfl trivial rfl (Nat.le_of_ble_eq_true rfl) (Nat.le_of_ble_eq_true rfl)
set_option maxHeartbeats 4000000 in
set_option maxRecDepth 100000 in
theorem c_Cl_channel (l : Launch) (D : va_G) (ca : Nat → ClassId) (x ss : Nat) (fs : Nat → Option Nat) (s₀ : Nat) (hs0 : s₀ < 2) (h ln pe ou cs lk sn ac ex tr rj : Nat) (fc : Nat → Option Nat) (q d da y st nx pa du ta : Nat) (r : Rw_) (cn : Nat) (hcn : cn < 3) (hq : fc cn = some q) (hfs : fs s₀ = some h) (w₀ : Nat) (hw0 : w₀ < 5) : Co (S := Unit) l yCl_channel (Cond.code yCl_channel cCl_channel 5 (some FieldType.int) :: tb_) { frames := 3, cells := 0, slots := 0, locals := 96 } D ca [.ref x, .int (nI s₀), .int (nI cn), .int (nI w₀)] [(x, .inr (3, [.ref ss])), (ss, .inl (ca 2, 2, .inr (.inr (.inr (.inr fs))))), (h, .inr (2, [.ref ln, .ref pe, .ref ou, .ref cs, .int (nI lk), .int (nI sn), .int (nI ac), .int (nI ex), .int (nI tr), .int (nI rj)])), (cs, .inl (ca 3, 3, .inr (.inr (.inr (.inr fc))))), (q, .inr (1, [.int (nI y), .ref d, .int (nI st), .int (nI nx), .int (nI pa), .int (nI du), .int (nI ta)])), (d, .inr (0, [.ref da, .int (nI r.2)])), (da, .inl (ca 0, 2, .inl (fun j => nI (r.1 j))))] (fun _ => some (.int (nI (sel5 w₀ st nx pa du ta)))) (fun _ => True) (fun _ => [(x, .inr (3, [.ref ss])), (ss, .inl (ca 2, 2, .inr (.inr (.inr (.inr fs))))), (h, .inr (2, [.ref ln, .ref pe, .ref ou, .ref cs, .int (nI lk), .int (nI sn), .int (nI ac), .int (nI ex), .int (nI tr), .int (nI rj)])), (cs, .inl (ca 3, 3, .inr (.inr (.inr (.inr fc))))), (q, .inr (1, [.int (nI y), .ref d, .int (nI st), .int (nI nx), .int (nI pa), .int (nI du), .int (nI ta)])), (d, .inr (0, [.ref da, .int (nI r.2)])), (da, .inl (ca 0, 2, .inl (fun j => nI (r.1 j))))]) 0 0 := by
  refine Co.of cCl_channel 5 (some FieldType.int) (by decide) (Nat.le_of_ble_eq_true rfl) ?_
  intro p e s m args below meth c A ls fx hret hlk hin hE hP hD hS hA hl
  have hx := fx.1
  have hb := fx.2.1
  have hown : s.vm.findClass RCl = some m.cls := fx.2.2.2.1
  have hts := fx.2.2.2.2
  have ht : ∀ w ∈ tb_, w.before args s = true := fun w h => hts w (List.mem_cons_of_mem _ h)
  have hl : lv_has ls 5 [(0, .ref x), (1, .int (nI s₀)), (2, .int (nI cn)), (3, .int (nI w₀))] := hl
  refine lv_aload_n hx hb dCl_channel_0 rfl (lv_at hl 0 rfl) ?_
  refine lv_iload_n hx hb dCl_channel_1 rfl (lv_at hl 1 rfl) ?_
  refine kA (rV fx (c_Cl_stationAt l D ca x ss fs s₀ hs0 h hfs) ⟨callB_of 1 hts (tb_gi tw_143) rfl rfl rfl (ht _ tw_1) (ht _ tw_140) (by decide +kernel) ⟨(Nat.le_of_ble_eq_true rfl), (Nat.le_of_ble_eq_true rfl)⟩, ht _ tw_142, ht _ tw_826⟩ hE hP hD 0 rfl rfl rfl [0, 1] rfl rfl rfl hl.1 rfl (Nat.le_of_ble_eq_true rfl) dCl_channel_2 ⟨(Nat.le_of_ble_eq_true rfl), (Nat.le_of_ble_eq_true rfl)⟩) hP hD hS hA [0, 1] [2, 3, 4, 5, 6] rfl rfl rfl (by decide) (fun _ H locs _ hP hD hS => ?_)
  have hP : va_P D cls_ [(h, .inr (2, [.ref ln, .ref pe, .ref ou, .ref cs, .int (nI lk), .int (nI sn), .int (nI ac), .int (nI ex), .int (nI tr), .int (nI rj)])), (cs, .inl (ca 3, 3, .inr (.inr (.inr (.inr fc))))), (q, .inr (1, [.int (nI y), .ref d, .int (nI st), .int (nI nx), .int (nI pa), .int (nI du), .int (nI ta)])), (d, .inr (0, [.ref da, .int (nI r.2)])), (da, .inl (ca 0, 2, .inl (fun j => nI (r.1 j)))), (x, .inr (3, [.ref ss])), (ss, .inl (ca 2, 2, .inr (.inr (.inr (.inr fs)))))] H := hP
  have hD : va_D A [(h, .inr (2, [.ref ln, .ref pe, .ref ou, .ref cs, .int (nI lk), .int (nI sn), .int (nI ac), .int (nI ex), .int (nI tr), .int (nI rj)])), (cs, .inl (ca 3, 3, .inr (.inr (.inr (.inr fc))))), (q, .inr (1, [.int (nI y), .ref d, .int (nI st), .int (nI nx), .int (nI pa), .int (nI du), .int (nI ta)])), (d, .inr (0, [.ref da, .int (nI r.2)])), (da, .inl (ca 0, 2, .inl (fun j => nI (r.1 j)))), (x, .inr (3, [.ref ss])), (ss, .inl (ca 2, 2, .inr (.inr (.inr (.inr fs)))))] := hD
  refine lv_iload_n hx hb dCl_channel_5 rfl (lv_at hl 2 rfl) ?_
  refine kA (rS fx (c_Cl_channelAt l D ca h ln pe ou cs lk sn ac ex tr rj fc cn q (by omega) hq) ⟨callB_of 2 hts (tb_gi tw_474) rfl rfl rfl (ht _ tw_1) (ht _ tw_472) (by decide +kernel) ⟨(Nat.le_of_ble_eq_true rfl), (Nat.le_of_ble_eq_true rfl)⟩, ht _ tw_473⟩ hE hP hD [0, 1] rfl rfl rfl hl.1 rfl (Nat.le_of_ble_eq_true rfl) dCl_channel_6 ⟨(Nat.le_of_ble_eq_true rfl), (Nat.le_of_ble_eq_true rfl)⟩) hP hD hS hA [0, 1] [2, 3, 4, 5, 6] rfl rfl rfl (by decide) (fun _ H locs _ hP hD hS => ?_)
  have hP : va_P D cls_ [(q, .inr (1, [.int (nI y), .ref d, .int (nI st), .int (nI nx), .int (nI pa), .int (nI du), .int (nI ta)])), (d, .inr (0, [.ref da, .int (nI r.2)])), (da, .inl (ca 0, 2, .inl (fun j => nI (r.1 j)))), (x, .inr (3, [.ref ss])), (ss, .inl (ca 2, 2, .inr (.inr (.inr (.inr fs))))), (h, .inr (2, [.ref ln, .ref pe, .ref ou, .ref cs, .int (nI lk), .int (nI sn), .int (nI ac), .int (nI ex), .int (nI tr), .int (nI rj)])), (cs, .inl (ca 3, 3, .inr (.inr (.inr (.inr fc)))))] H := hP
  have hD : va_D A [(q, .inr (1, [.int (nI y), .ref d, .int (nI st), .int (nI nx), .int (nI pa), .int (nI du), .int (nI ta)])), (d, .inr (0, [.ref da, .int (nI r.2)])), (da, .inl (ca 0, 2, .inl (fun j => nI (r.1 j)))), (x, .inr (3, [.ref ss])), (ss, .inl (ca 2, 2, .inr (.inr (.inr (.inr fs))))), (h, .inr (2, [.ref ln, .ref pe, .ref ou, .ref cs, .int (nI lk), .int (nI sn), .int (nI ac), .int (nI ex), .int (nI tr), .int (nI rj)])), (cs, .inl (ca 3, 3, .inr (.inr (.inr (.inr fc)))))] := hD
  refine lv_astore hx hb dCl_channel_9 hl (by decide) rfl (fun ls hl => ?_)
  have hl : lv_has ls 5 [(4, .ref q), (0, .ref x), (1, .int (nI s₀)), (2, .int (nI cn)), (3, .int (nI w₀))] := hl
  refine lv_iload_n hx hb dCl_channel_11 rfl (lv_at hl 4 rfl) ?_
  rcases (show w₀ = 0 ∨ w₀ = 1 ∨ w₀ = 2 ∨ w₀ = 3 ∨ w₀ = 4 ∨ (w₀ < 0 ∨ 4 < w₀) by omega) with h12 | h12 | h12 | h12 | h12 | h12
  · refine k_tab (tgt := 48) hx hb 0 h12 dCl_channel_12 (by decide) (by decide) rfl rfl ?_
    refine lv_aload hx hb dCl_channel_48 (lv_at hl 0 rfl) ?_
    refine va_getN (D := D) (ci := 1) (v := .int (nI st)) (host := "ChannelledLink") (C := RCh) (T := TCh) (N := 7) hx hb ht inCh hown hE.1 hP 0 rfl rfl 2 (by decide) (hE.nestU tw_64 rfl) (fun _ h => h) rfl dCl_channel_50 ?_
    have hP : va_P D cls_ [(x, .inr (3, [.ref ss])), (ss, .inl (ca 2, 2, .inr (.inr (.inr (.inr fs))))), (h, .inr (2, [.ref ln, .ref pe, .ref ou, .ref cs, .int (nI lk), .int (nI sn), .int (nI ac), .int (nI ex), .int (nI tr), .int (nI rj)])), (cs, .inl (ca 3, 3, .inr (.inr (.inr (.inr fc))))), (q, .inr (1, [.int (nI y), .ref d, .int (nI st), .int (nI nx), .int (nI pa), .int (nI du), .int (nI ta)])), (d, .inr (0, [.ref da, .int (nI r.2)])), (da, .inl (ca 0, 2, .inl (fun j => nI (r.1 j))))] H := hP.sub [3, 4, 5, 6, 0, 1, 2] rfl
    have hD : va_D A [(x, .inr (3, [.ref ss])), (ss, .inl (ca 2, 2, .inr (.inr (.inr (.inr fs))))), (h, .inr (2, [.ref ln, .ref pe, .ref ou, .ref cs, .int (nI lk), .int (nI sn), .int (nI ac), .int (nI ex), .int (nI tr), .int (nI rj)])), (cs, .inl (ca 3, 3, .inr (.inr (.inr (.inr fc))))), (q, .inr (1, [.int (nI y), .ref d, .int (nI st), .int (nI nx), .int (nI pa), .int (nI du), .int (nI ta)])), (d, .inr (0, [.ref da, .int (nI r.2)])), (da, .inl (ca 0, 2, .inl (fun j => nI (r.1 j))))] := hD.sub [3, 4, 5, 6, 0, 1, 2] rfl rfl
    exact Co.reti hx hb hret hlk dCl_channel_53 hS hP hD () (by rw [sel5, if_pos (by omega)]) trivial rfl (Nat.le_of_ble_eq_true rfl) (Nat.le_of_ble_eq_true rfl)
  · refine k_tab (tgt := 54) hx hb 1 h12 dCl_channel_12 (by decide) (by decide) rfl rfl ?_
    refine lv_aload hx hb dCl_channel_54 (lv_at hl 0 rfl) ?_
    refine va_getN (D := D) (ci := 1) (v := .int (nI nx)) (host := "ChannelledLink") (C := RCh) (T := TCh) (N := 7) hx hb ht inCh hown hE.1 hP 0 rfl rfl 3 (by decide) (hE.nestU tw_66 rfl) (fun _ h => h) rfl dCl_channel_56 ?_
    have hP : va_P D cls_ [(x, .inr (3, [.ref ss])), (ss, .inl (ca 2, 2, .inr (.inr (.inr (.inr fs))))), (h, .inr (2, [.ref ln, .ref pe, .ref ou, .ref cs, .int (nI lk), .int (nI sn), .int (nI ac), .int (nI ex), .int (nI tr), .int (nI rj)])), (cs, .inl (ca 3, 3, .inr (.inr (.inr (.inr fc))))), (q, .inr (1, [.int (nI y), .ref d, .int (nI st), .int (nI nx), .int (nI pa), .int (nI du), .int (nI ta)])), (d, .inr (0, [.ref da, .int (nI r.2)])), (da, .inl (ca 0, 2, .inl (fun j => nI (r.1 j))))] H := hP.sub [3, 4, 5, 6, 0, 1, 2] rfl
    have hD : va_D A [(x, .inr (3, [.ref ss])), (ss, .inl (ca 2, 2, .inr (.inr (.inr (.inr fs))))), (h, .inr (2, [.ref ln, .ref pe, .ref ou, .ref cs, .int (nI lk), .int (nI sn), .int (nI ac), .int (nI ex), .int (nI tr), .int (nI rj)])), (cs, .inl (ca 3, 3, .inr (.inr (.inr (.inr fc))))), (q, .inr (1, [.int (nI y), .ref d, .int (nI st), .int (nI nx), .int (nI pa), .int (nI du), .int (nI ta)])), (d, .inr (0, [.ref da, .int (nI r.2)])), (da, .inl (ca 0, 2, .inl (fun j => nI (r.1 j))))] := hD.sub [3, 4, 5, 6, 0, 1, 2] rfl rfl
    exact Co.reti hx hb hret hlk dCl_channel_59 hS hP hD () (by rw [sel5, if_neg (by omega), if_pos (by omega)]) trivial rfl (Nat.le_of_ble_eq_true rfl) (Nat.le_of_ble_eq_true rfl)
  · refine k_tab (tgt := 60) hx hb 2 h12 dCl_channel_12 (by decide) (by decide) rfl rfl ?_
    refine lv_aload hx hb dCl_channel_60 (lv_at hl 0 rfl) ?_
    refine va_getN (D := D) (ci := 1) (v := .int (nI pa)) (host := "ChannelledLink") (C := RCh) (T := TCh) (N := 7) hx hb ht inCh hown hE.1 hP 0 rfl rfl 4 (by decide) (hE.nestU tw_68 rfl) (fun _ h => h) rfl dCl_channel_62 ?_
    have hP : va_P D cls_ [(x, .inr (3, [.ref ss])), (ss, .inl (ca 2, 2, .inr (.inr (.inr (.inr fs))))), (h, .inr (2, [.ref ln, .ref pe, .ref ou, .ref cs, .int (nI lk), .int (nI sn), .int (nI ac), .int (nI ex), .int (nI tr), .int (nI rj)])), (cs, .inl (ca 3, 3, .inr (.inr (.inr (.inr fc))))), (q, .inr (1, [.int (nI y), .ref d, .int (nI st), .int (nI nx), .int (nI pa), .int (nI du), .int (nI ta)])), (d, .inr (0, [.ref da, .int (nI r.2)])), (da, .inl (ca 0, 2, .inl (fun j => nI (r.1 j))))] H := hP.sub [3, 4, 5, 6, 0, 1, 2] rfl
    have hD : va_D A [(x, .inr (3, [.ref ss])), (ss, .inl (ca 2, 2, .inr (.inr (.inr (.inr fs))))), (h, .inr (2, [.ref ln, .ref pe, .ref ou, .ref cs, .int (nI lk), .int (nI sn), .int (nI ac), .int (nI ex), .int (nI tr), .int (nI rj)])), (cs, .inl (ca 3, 3, .inr (.inr (.inr (.inr fc))))), (q, .inr (1, [.int (nI y), .ref d, .int (nI st), .int (nI nx), .int (nI pa), .int (nI du), .int (nI ta)])), (d, .inr (0, [.ref da, .int (nI r.2)])), (da, .inl (ca 0, 2, .inl (fun j => nI (r.1 j))))] := hD.sub [3, 4, 5, 6, 0, 1, 2] rfl rfl
    exact Co.reti hx hb hret hlk dCl_channel_65 hS hP hD () (by rw [sel5, if_neg (by omega), if_neg (by omega), if_pos (by omega)]) trivial rfl (Nat.le_of_ble_eq_true rfl) (Nat.le_of_ble_eq_true rfl)
  · refine k_tab (tgt := 66) hx hb 3 h12 dCl_channel_12 (by decide) (by decide) rfl rfl ?_
    refine lv_aload hx hb dCl_channel_66 (lv_at hl 0 rfl) ?_
    refine va_getN (D := D) (ci := 1) (v := .int (nI du)) (host := "ChannelledLink") (C := RCh) (T := TCh) (N := 7) hx hb ht inCh hown hE.1 hP 0 rfl rfl 5 (by decide) (hE.nestU tw_70 rfl) (fun _ h => h) rfl dCl_channel_68 ?_
    have hP : va_P D cls_ [(x, .inr (3, [.ref ss])), (ss, .inl (ca 2, 2, .inr (.inr (.inr (.inr fs))))), (h, .inr (2, [.ref ln, .ref pe, .ref ou, .ref cs, .int (nI lk), .int (nI sn), .int (nI ac), .int (nI ex), .int (nI tr), .int (nI rj)])), (cs, .inl (ca 3, 3, .inr (.inr (.inr (.inr fc))))), (q, .inr (1, [.int (nI y), .ref d, .int (nI st), .int (nI nx), .int (nI pa), .int (nI du), .int (nI ta)])), (d, .inr (0, [.ref da, .int (nI r.2)])), (da, .inl (ca 0, 2, .inl (fun j => nI (r.1 j))))] H := hP.sub [3, 4, 5, 6, 0, 1, 2] rfl
    have hD : va_D A [(x, .inr (3, [.ref ss])), (ss, .inl (ca 2, 2, .inr (.inr (.inr (.inr fs))))), (h, .inr (2, [.ref ln, .ref pe, .ref ou, .ref cs, .int (nI lk), .int (nI sn), .int (nI ac), .int (nI ex), .int (nI tr), .int (nI rj)])), (cs, .inl (ca 3, 3, .inr (.inr (.inr (.inr fc))))), (q, .inr (1, [.int (nI y), .ref d, .int (nI st), .int (nI nx), .int (nI pa), .int (nI du), .int (nI ta)])), (d, .inr (0, [.ref da, .int (nI r.2)])), (da, .inl (ca 0, 2, .inl (fun j => nI (r.1 j))))] := hD.sub [3, 4, 5, 6, 0, 1, 2] rfl rfl
    exact Co.reti hx hb hret hlk dCl_channel_71 hS hP hD () (by rw [sel5, if_neg (by omega), if_neg (by omega), if_neg (by omega), if_pos (by omega)]) trivial rfl (Nat.le_of_ble_eq_true rfl) (Nat.le_of_ble_eq_true rfl)
  · refine k_tab (tgt := 72) hx hb 4 h12 dCl_channel_12 (by decide) (by decide) rfl rfl ?_
    refine lv_aload hx hb dCl_channel_72 (lv_at hl 0 rfl) ?_
    refine va_getN (D := D) (ci := 1) (v := .int (nI ta)) (host := "ChannelledLink") (C := RCh) (T := TCh) (N := 7) hx hb ht inCh hown hE.1 hP 0 rfl rfl 6 (by decide) (hE.nestU tw_72 rfl) (fun _ h => h) rfl dCl_channel_74 ?_
    have hP : va_P D cls_ [(x, .inr (3, [.ref ss])), (ss, .inl (ca 2, 2, .inr (.inr (.inr (.inr fs))))), (h, .inr (2, [.ref ln, .ref pe, .ref ou, .ref cs, .int (nI lk), .int (nI sn), .int (nI ac), .int (nI ex), .int (nI tr), .int (nI rj)])), (cs, .inl (ca 3, 3, .inr (.inr (.inr (.inr fc))))), (q, .inr (1, [.int (nI y), .ref d, .int (nI st), .int (nI nx), .int (nI pa), .int (nI du), .int (nI ta)])), (d, .inr (0, [.ref da, .int (nI r.2)])), (da, .inl (ca 0, 2, .inl (fun j => nI (r.1 j))))] H := hP.sub [3, 4, 5, 6, 0, 1, 2] rfl
    have hD : va_D A [(x, .inr (3, [.ref ss])), (ss, .inl (ca 2, 2, .inr (.inr (.inr (.inr fs))))), (h, .inr (2, [.ref ln, .ref pe, .ref ou, .ref cs, .int (nI lk), .int (nI sn), .int (nI ac), .int (nI ex), .int (nI tr), .int (nI rj)])), (cs, .inl (ca 3, 3, .inr (.inr (.inr (.inr fc))))), (q, .inr (1, [.int (nI y), .ref d, .int (nI st), .int (nI nx), .int (nI pa), .int (nI du), .int (nI ta)])), (d, .inr (0, [.ref da, .int (nI r.2)])), (da, .inl (ca 0, 2, .inl (fun j => nI (r.1 j))))] := hD.sub [3, 4, 5, 6, 0, 1, 2] rfl rfl
    exact Co.reti hx hb hret hlk dCl_channel_77 hS hP hD () (by rw [sel5, if_neg (by omega), if_neg (by omega), if_neg (by omega), if_neg (by omega)]) trivial rfl (Nat.le_of_ble_eq_true rfl) (Nat.le_of_ble_eq_true rfl)
  · exfalso; omega
set_option maxHeartbeats 4000000 in
set_option maxRecDepth 100000 in
theorem c_Cl_channelX (l : Launch) (D : va_G) (ca : Nat → ClassId) (x ss : Nat) (fs : Nat → Option Nat) (s₀ : Nat) (hs0 : s₀ < 2) (h ln pe ou cs lk sn ac ex tr rj : Nat) (fc : Nat → Option Nat) (q d da y st nx pa du ta : Nat) (r : Rw_) (cn : Nat) (hcn : cn < 3) (hq : fc cn = some q) (hfs : fs s₀ = some h) (w₁ : Int32) (hw1 : w₁.toInt < 0 ∨ 4 < w₁.toInt) : Co (S := Unit) l yCl_channel (Cond.code yCl_channel cCl_channel 5 (some FieldType.int) :: tb_) { frames := 3, cells := 0, slots := 0, locals := 96 } D ca [.ref x, .int (nI s₀), .int (nI cn), .int w₁] [(x, .inr (3, [.ref ss])), (ss, .inl (ca 2, 2, .inr (.inr (.inr (.inr fs))))), (h, .inr (2, [.ref ln, .ref pe, .ref ou, .ref cs, .int (nI lk), .int (nI sn), .int (nI ac), .int (nI ex), .int (nI tr), .int (nI rj)])), (cs, .inl (ca 3, 3, .inr (.inr (.inr (.inr fc))))), (q, .inr (1, [.int (nI y), .ref d, .int (nI st), .int (nI nx), .int (nI pa), .int (nI du), .int (nI ta)])), (d, .inr (0, [.ref da, .int (nI r.2)])), (da, .inl (ca 0, 2, .inl (fun j => nI (r.1 j))))] (fun _ => some (.int (-1))) (fun _ => True) (fun _ => [(x, .inr (3, [.ref ss])), (ss, .inl (ca 2, 2, .inr (.inr (.inr (.inr fs))))), (h, .inr (2, [.ref ln, .ref pe, .ref ou, .ref cs, .int (nI lk), .int (nI sn), .int (nI ac), .int (nI ex), .int (nI tr), .int (nI rj)])), (cs, .inl (ca 3, 3, .inr (.inr (.inr (.inr fc))))), (q, .inr (1, [.int (nI y), .ref d, .int (nI st), .int (nI nx), .int (nI pa), .int (nI du), .int (nI ta)])), (d, .inr (0, [.ref da, .int (nI r.2)])), (da, .inl (ca 0, 2, .inl (fun j => nI (r.1 j))))]) 0 0 := by
  refine Co.of cCl_channel 5 (some FieldType.int) (by decide) (Nat.le_of_ble_eq_true rfl) ?_
  intro p e s m args below meth c A ls fx hret hlk hin hE hP hD hS hA hl
  have hx := fx.1
  have hb := fx.2.1
  have hown : s.vm.findClass RCl = some m.cls := fx.2.2.2.1
  have hts := fx.2.2.2.2
  have ht : ∀ w ∈ tb_, w.before args s = true := fun w h => hts w (List.mem_cons_of_mem _ h)
  have hl : lv_has ls 5 [(0, .ref x), (1, .int (nI s₀)), (2, .int (nI cn)), (3, .int w₁)] := hl
  refine lv_aload_n hx hb dCl_channel_0 rfl (lv_at hl 0 rfl) ?_
  refine lv_iload_n hx hb dCl_channel_1 rfl (lv_at hl 1 rfl) ?_
  refine kA (rV fx (c_Cl_stationAt l D ca x ss fs s₀ hs0 h hfs) ⟨callB_of 1 hts (tb_gi tw_143) rfl rfl rfl (ht _ tw_1) (ht _ tw_140) (by decide +kernel) ⟨(Nat.le_of_ble_eq_true rfl), (Nat.le_of_ble_eq_true rfl)⟩, ht _ tw_142, ht _ tw_826⟩ hE hP hD 0 rfl rfl rfl [0, 1] rfl rfl rfl hl.1 rfl (Nat.le_of_ble_eq_true rfl) dCl_channel_2 ⟨(Nat.le_of_ble_eq_true rfl), (Nat.le_of_ble_eq_true rfl)⟩) hP hD hS hA [0, 1] [2, 3, 4, 5, 6] rfl rfl rfl (by decide) (fun _ H locs _ hP hD hS => ?_)
  have hP : va_P D cls_ [(h, .inr (2, [.ref ln, .ref pe, .ref ou, .ref cs, .int (nI lk), .int (nI sn), .int (nI ac), .int (nI ex), .int (nI tr), .int (nI rj)])), (cs, .inl (ca 3, 3, .inr (.inr (.inr (.inr fc))))), (q, .inr (1, [.int (nI y), .ref d, .int (nI st), .int (nI nx), .int (nI pa), .int (nI du), .int (nI ta)])), (d, .inr (0, [.ref da, .int (nI r.2)])), (da, .inl (ca 0, 2, .inl (fun j => nI (r.1 j)))), (x, .inr (3, [.ref ss])), (ss, .inl (ca 2, 2, .inr (.inr (.inr (.inr fs)))))] H := hP
  have hD : va_D A [(h, .inr (2, [.ref ln, .ref pe, .ref ou, .ref cs, .int (nI lk), .int (nI sn), .int (nI ac), .int (nI ex), .int (nI tr), .int (nI rj)])), (cs, .inl (ca 3, 3, .inr (.inr (.inr (.inr fc))))), (q, .inr (1, [.int (nI y), .ref d, .int (nI st), .int (nI nx), .int (nI pa), .int (nI du), .int (nI ta)])), (d, .inr (0, [.ref da, .int (nI r.2)])), (da, .inl (ca 0, 2, .inl (fun j => nI (r.1 j)))), (x, .inr (3, [.ref ss])), (ss, .inl (ca 2, 2, .inr (.inr (.inr (.inr fs)))))] := hD
  refine lv_iload_n hx hb dCl_channel_5 rfl (lv_at hl 2 rfl) ?_
  refine kA (rS fx (c_Cl_channelAt l D ca h ln pe ou cs lk sn ac ex tr rj fc cn q (by omega) hq) ⟨callB_of 2 hts (tb_gi tw_474) rfl rfl rfl (ht _ tw_1) (ht _ tw_472) (by decide +kernel) ⟨(Nat.le_of_ble_eq_true rfl), (Nat.le_of_ble_eq_true rfl)⟩, ht _ tw_473⟩ hE hP hD [0, 1] rfl rfl rfl hl.1 rfl (Nat.le_of_ble_eq_true rfl) dCl_channel_6 ⟨(Nat.le_of_ble_eq_true rfl), (Nat.le_of_ble_eq_true rfl)⟩) hP hD hS hA [0, 1] [2, 3, 4, 5, 6] rfl rfl rfl (by decide) (fun _ H locs _ hP hD hS => ?_)
  have hP : va_P D cls_ [(q, .inr (1, [.int (nI y), .ref d, .int (nI st), .int (nI nx), .int (nI pa), .int (nI du), .int (nI ta)])), (d, .inr (0, [.ref da, .int (nI r.2)])), (da, .inl (ca 0, 2, .inl (fun j => nI (r.1 j)))), (x, .inr (3, [.ref ss])), (ss, .inl (ca 2, 2, .inr (.inr (.inr (.inr fs))))), (h, .inr (2, [.ref ln, .ref pe, .ref ou, .ref cs, .int (nI lk), .int (nI sn), .int (nI ac), .int (nI ex), .int (nI tr), .int (nI rj)])), (cs, .inl (ca 3, 3, .inr (.inr (.inr (.inr fc)))))] H := hP
  have hD : va_D A [(q, .inr (1, [.int (nI y), .ref d, .int (nI st), .int (nI nx), .int (nI pa), .int (nI du), .int (nI ta)])), (d, .inr (0, [.ref da, .int (nI r.2)])), (da, .inl (ca 0, 2, .inl (fun j => nI (r.1 j)))), (x, .inr (3, [.ref ss])), (ss, .inl (ca 2, 2, .inr (.inr (.inr (.inr fs))))), (h, .inr (2, [.ref ln, .ref pe, .ref ou, .ref cs, .int (nI lk), .int (nI sn), .int (nI ac), .int (nI ex), .int (nI tr), .int (nI rj)])), (cs, .inl (ca 3, 3, .inr (.inr (.inr (.inr fc)))))] := hD
  refine lv_astore hx hb dCl_channel_9 hl (by decide) rfl (fun ls hl => ?_)
  have hl : lv_has ls 5 [(4, .ref q), (0, .ref x), (1, .int (nI s₀)), (2, .int (nI cn)), (3, .int w₁)] := hl
  refine lv_iload_n hx hb dCl_channel_11 rfl (lv_at hl 4 rfl) ?_
  refine lv_tableOut (tgt := 78) hx hb dCl_channel_12 hw1 rfl ?_
  refine lv_iconst (v := (-1)) hx hb dCl_channel_78 (by decide) ?_
  have hP : va_P D cls_ [(x, .inr (3, [.ref ss])), (ss, .inl (ca 2, 2, .inr (.inr (.inr (.inr fs))))), (h, .inr (2, [.ref ln, .ref pe, .ref ou, .ref cs, .int (nI lk), .int (nI sn), .int (nI ac), .int (nI ex), .int (nI tr), .int (nI rj)])), (cs, .inl (ca 3, 3, .inr (.inr (.inr (.inr fc))))), (q, .inr (1, [.int (nI y), .ref d, .int (nI st), .int (nI nx), .int (nI pa), .int (nI du), .int (nI ta)])), (d, .inr (0, [.ref da, .int (nI r.2)])), (da, .inl (ca 0, 2, .inl (fun j => nI (r.1 j))))] H := hP.sub [3, 4, 5, 6, 0, 1, 2] rfl
  have hD : va_D A [(x, .inr (3, [.ref ss])), (ss, .inl (ca 2, 2, .inr (.inr (.inr (.inr fs))))), (h, .inr (2, [.ref ln, .ref pe, .ref ou, .ref cs, .int (nI lk), .int (nI sn), .int (nI ac), .int (nI ex), .int (nI tr), .int (nI rj)])), (cs, .inl (ca 3, 3, .inr (.inr (.inr (.inr fc))))), (q, .inr (1, [.int (nI y), .ref d, .int (nI st), .int (nI nx), .int (nI pa), .int (nI du), .int (nI ta)])), (d, .inr (0, [.ref da, .int (nI r.2)])), (da, .inl (ca 0, 2, .inl (fun j => nI (r.1 j))))] := hD.sub [3, 4, 5, 6, 0, 1, 2] rfl rfl
  exact Co.reti hx hb hret hlk dCl_channel_79 hS hP hD () rfl trivial rfl (Nat.le_of_ble_eq_true rfl) (Nat.le_of_ble_eq_true rfl)
set_option maxHeartbeats 4000000 in
set_option maxRecDepth 100000 in
theorem c_Cl_frame (l : Launch) (D : va_G) (ca : Nat → ClassId) (x ss : Nat) (fs : Nat → Option Nat) (s₀ : Nat) (hs0 : s₀ < 2) (h ln pe ou cs lk sn ac ex tr rj : Nat) (lna : Nat) (Ln : Rw_) (hfs : fs s₀ = some h) (hL1 : Ln.2 ≤ 12) (k₀ : Nat) (hk0 : k₀ < Ln.2) (hf : Ln.1 k₀ < 2 ^ 31) (w₀ : Nat) (hw0 : w₀ < 8) : Co (S := Unit) l yCl_frame (Cond.code yCl_frame cCl_frame 7 (some FieldType.int) :: tb_) { frames := 2, cells := 0, slots := 0, locals := 64 } D ca [.ref x, .int (nI s₀), .int (nI k₀), .int (nI w₀)] [(x, .inr (3, [.ref ss])), (ss, .inl (ca 2, 2, .inr (.inr (.inr (.inr fs))))), (h, .inr (2, [.ref ln, .ref pe, .ref ou, .ref cs, .int (nI lk), .int (nI sn), .int (nI ac), .int (nI ex), .int (nI tr), .int (nI rj)])), (ln, .inr (0, [.ref lna, .int (nI Ln.2)])), (lna, .inl (ca 0, 12, .inl (fun j => nI (Ln.1 j))))] (fun _ => some (.int (nI (sel8 w₀ (fKind (Ln.1 k₀)) (fNumb (Ln.1 k₀)) (fAckn (Ln.1 k₀)) (pKind (fPack (Ln.1 k₀))) (pChan (fPack (Ln.1 k₀))) (pNumb (fPack (Ln.1 k₀))) (pAckn (fPack (Ln.1 k₀))) (pData (fPack (Ln.1 k₀))))))) (fun _ => True) (fun _ => [(x, .inr (3, [.ref ss])), (ss, .inl (ca 2, 2, .inr (.inr (.inr (.inr fs))))), (h, .inr (2, [.ref ln, .ref pe, .ref ou, .ref cs, .int (nI lk), .int (nI sn), .int (nI ac), .int (nI ex), .int (nI tr), .int (nI rj)])), (ln, .inr (0, [.ref lna, .int (nI Ln.2)])), (lna, .inl (ca 0, 12, .inl (fun j => nI (Ln.1 j))))]) 0 0 := by
  refine Co.of cCl_frame 7 (some FieldType.int) (by decide) (Nat.le_of_ble_eq_true rfl) ?_
  intro p e s m args below meth c A ls fx hret hlk hin hE hP hD hS hA hl
  have hx := fx.1
  have hb := fx.2.1
  have hown : s.vm.findClass RCl = some m.cls := fx.2.2.2.1
  have hts := fx.2.2.2.2
  have ht : ∀ w ∈ tb_, w.before args s = true := fun w h => hts w (List.mem_cons_of_mem _ h)
  have hf2 : fPack (Ln.1 k₀) < 2097152 := Nat.mod_lt _ (by decide)
  have hl : lv_has ls 7 [(0, .ref x), (1, .int (nI s₀)), (2, .int (nI k₀)), (3, .int (nI w₀))] := hl
  refine lv_aload_n hx hb dCl_frame_0 rfl (lv_at hl 0 rfl) ?_
  refine lv_iload_n hx hb dCl_frame_1 rfl (lv_at hl 1 rfl) ?_
  refine kA (rV fx (c_Cl_stationAt l D ca x ss fs s₀ hs0 h hfs) ⟨callB_of 1 hts (tb_gi tw_143) rfl rfl rfl (ht _ tw_1) (ht _ tw_140) (by decide +kernel) ⟨(Nat.le_of_ble_eq_true rfl), (Nat.le_of_ble_eq_true rfl)⟩, ht _ tw_142, ht _ tw_826⟩ hE hP hD 0 rfl rfl rfl [0, 1] rfl rfl rfl hl.1 rfl (Nat.le_of_ble_eq_true rfl) dCl_frame_2 ⟨(Nat.le_of_ble_eq_true rfl), (Nat.le_of_ble_eq_true rfl)⟩) hP hD hS hA [0, 1] [2, 3, 4] rfl rfl rfl (by decide) (fun _ H locs _ hP hD hS => ?_)
  have hP : va_P D cls_ [(h, .inr (2, [.ref ln, .ref pe, .ref ou, .ref cs, .int (nI lk), .int (nI sn), .int (nI ac), .int (nI ex), .int (nI tr), .int (nI rj)])), (ln, .inr (0, [.ref lna, .int (nI Ln.2)])), (lna, .inl (ca 0, 12, .inl (fun j => nI (Ln.1 j)))), (x, .inr (3, [.ref ss])), (ss, .inl (ca 2, 2, .inr (.inr (.inr (.inr fs)))))] H := hP
  have hD : va_D A [(h, .inr (2, [.ref ln, .ref pe, .ref ou, .ref cs, .int (nI lk), .int (nI sn), .int (nI ac), .int (nI ex), .int (nI tr), .int (nI rj)])), (ln, .inr (0, [.ref lna, .int (nI Ln.2)])), (lna, .inl (ca 0, 12, .inl (fun j => nI (Ln.1 j)))), (x, .inr (3, [.ref ss])), (ss, .inl (ca 2, 2, .inr (.inr (.inr (.inr fs)))))] := hD
  refine va_getN (D := D) (ci := 2) (v := .ref ln) (host := "ChannelledLink") (C := RSt) (T := TSt) (N := 10) hx hb ht inSt hown hE.1 hP 0 rfl rfl 0 (by decide) (hE.nestU tw_89 rfl) (fun _ h => h) rfl dCl_frame_5 ?_
  refine lv_astore hx hb dCl_frame_8 hl (by decide) rfl (fun ls hl => ?_)
  have hl : lv_has ls 7 [(4, .ref ln), (0, .ref x), (1, .int (nI s₀)), (2, .int (nI k₀)), (3, .int (nI w₀))] := hl
  refine lv_iload_n hx hb dCl_frame_10 rfl (lv_at hl 3 rfl) ?_
  refine k_if_lt (tgt := 23) hx hb (by omega) dCl_frame_11 rfl ?_
  refine lv_iload_n hx hb dCl_frame_14 rfl (lv_at hl 3 rfl) ?_
  refine lv_aload hx hb dCl_frame_15 (lv_at hl 0 rfl) ?_
  refine va_getN (D := D) (ci := 0) (v := .int (nI Ln.2)) (host := "ChannelledLink") (C := RRw) (T := TRw) (N := 2) hx hb ht inRw hown hE.1 hP 1 rfl rfl 1 (by decide) (hE.nestU tw_35 rfl) (fun _ h => h) rfl dCl_frame_17 ?_
  refine k_icmp_lt (tgt := 25) hx hb (by omega) (by omega) dCl_frame_20 rfl (fun h20 => ?_) (fun hz => absurd hz (by omega))
  refine lv_aload hx hb dCl_frame_25 (lv_at hl 0 rfl) ?_
  refine lv_iload_n hx hb dCl_frame_27 rfl (lv_at hl 3 rfl) ?_
  refine kI (rV fx (c_Rw_at l D ca ln lna 12 Ln k₀ (by decide) (by first | assumption | exact rAdd_le (by assumption) | omega) (by first | assumption | exact rAdd_le (by assumption) | omega)) ⟨callB_of 1 hts (tb_gi tw_286) rfl rfl rfl (ht _ tw_2) (ht _ tw_320) (by decide +kernel) ⟨(Nat.le_of_ble_eq_true rfl), (Nat.le_of_ble_eq_true rfl)⟩, ht _ tw_284, ht _ tw_285⟩ hE hP hD 1 rfl rfl rfl [1, 2] rfl rfl rfl hl.1 rfl (Nat.le_of_ble_eq_true rfl) dCl_frame_28 ⟨(Nat.le_of_ble_eq_true rfl), (Nat.le_of_ble_eq_true rfl)⟩) hP hD hS hA [1, 2] [0, 3, 4] rfl rfl rfl (by decide) (fun _ H locs _ hP hD hS => ?_)
  have hP : va_P D cls_ [(h, .inr (2, [.ref ln, .ref pe, .ref ou, .ref cs, .int (nI lk), .int (nI sn), .int (nI ac), .int (nI ex), .int (nI tr), .int (nI rj)])), (x, .inr (3, [.ref ss])), (ss, .inl (ca 2, 2, .inr (.inr (.inr (.inr fs))))), (ln, .inr (0, [.ref lna, .int (nI Ln.2)])), (lna, .inl (ca 0, 12, .inl (fun j => nI (Ln.1 j))))] H := hP
  have hD : va_D A [(h, .inr (2, [.ref ln, .ref pe, .ref ou, .ref cs, .int (nI lk), .int (nI sn), .int (nI ac), .int (nI ex), .int (nI tr), .int (nI rj)])), (x, .inr (3, [.ref ss])), (ss, .inl (ca 2, 2, .inr (.inr (.inr (.inr fs))))), (ln, .inr (0, [.ref lna, .int (nI Ln.2)])), (lna, .inl (ca 0, 12, .inl (fun j => nI (Ln.1 j))))] := hD
  refine lv_istore hx hb dCl_frame_31 hl (by decide) rfl (fun ls hl => ?_)
  have hl : lv_has ls 7 [(5, .int (nI (Ln.1 k₀))), (4, .ref ln), (0, .ref x), (1, .int (nI s₀)), (2, .int (nI k₀)), (3, .int (nI w₀))] := hl
  refine lv_iload hx hb dCl_frame_33 (lv_at hl 0 rfl) ?_
  refine kI (rSN fx (c_Fr_packetOf l D ca (Ln.1 k₀) (by omega)) ⟨va_cnB 1 hts (tb_gi tw_371) rfl rfl rfl (hE.nest tw_566 rfl) (ht _ tw_10) (by decide +kernel) ⟨(Nat.le_of_ble_eq_true rfl), (Nat.le_of_ble_eq_true rfl)⟩, ht _ tw_370, trivial⟩ hE hP hD [] rfl rfl rfl hl.1 rfl (Nat.le_of_ble_eq_true rfl) dCl_frame_35 ⟨(Nat.le_of_ble_eq_true rfl), (Nat.le_of_ble_eq_true rfl)⟩) hP hD hS hA [] [0, 1, 2, 3, 4] rfl rfl rfl (by decide) (fun _ H locs _ hP hD hS => ?_)
  have hP : va_P D cls_ [(h, .inr (2, [.ref ln, .ref pe, .ref ou, .ref cs, .int (nI lk), .int (nI sn), .int (nI ac), .int (nI ex), .int (nI tr), .int (nI rj)])), (x, .inr (3, [.ref ss])), (ss, .inl (ca 2, 2, .inr (.inr (.inr (.inr fs))))), (ln, .inr (0, [.ref lna, .int (nI Ln.2)])), (lna, .inl (ca 0, 12, .inl (fun j => nI (Ln.1 j))))] H := hP
  have hD : va_D A [(h, .inr (2, [.ref ln, .ref pe, .ref ou, .ref cs, .int (nI lk), .int (nI sn), .int (nI ac), .int (nI ex), .int (nI tr), .int (nI rj)])), (x, .inr (3, [.ref ss])), (ss, .inl (ca 2, 2, .inr (.inr (.inr (.inr fs))))), (ln, .inr (0, [.ref lna, .int (nI Ln.2)])), (lna, .inl (ca 0, 12, .inl (fun j => nI (Ln.1 j))))] := hD
  refine lv_istore hx hb dCl_frame_38 hl (by decide) rfl (fun ls hl => ?_)
  have hl : lv_has ls 7 [(6, .int (nI (fPack (Ln.1 k₀)))), (5, .int (nI (Ln.1 k₀))), (4, .ref ln), (0, .ref x), (1, .int (nI s₀)), (2, .int (nI k₀)), (3, .int (nI w₀))] := hl
  refine lv_iload_n hx hb dCl_frame_40 rfl (lv_at hl 6 rfl) ?_
  rcases (show w₀ = 0 ∨ w₀ = 1 ∨ w₀ = 2 ∨ w₀ = 3 ∨ w₀ = 4 ∨ w₀ = 5 ∨ w₀ = 6 ∨ w₀ = 7 ∨ (w₀ < 0 ∨ 7 < w₀) by omega) with h41 | h41 | h41 | h41 | h41 | h41 | h41 | h41 | h41
  · refine k_tab (tgt := 88) hx hb 0 h41 dCl_frame_41 (by decide) (by decide) rfl rfl ?_
    refine lv_iload hx hb dCl_frame_88 (lv_at hl 1 rfl) ?_
    refine kI (rSN fx (c_Fr_kindOf l D ca (Ln.1 k₀) (by omega)) ⟨va_cnB 1 hts (tb_gi tw_334) rfl rfl rfl (hE.nest tw_440 rfl) (ht _ tw_10) (by decide +kernel) ⟨(Nat.le_of_ble_eq_true rfl), (Nat.le_of_ble_eq_true rfl)⟩, ht _ tw_333, trivial⟩ hE hP hD [] rfl rfl rfl hl.1 rfl (Nat.le_of_ble_eq_true rfl) dCl_frame_90 ⟨(Nat.le_of_ble_eq_true rfl), (Nat.le_of_ble_eq_true rfl)⟩) hP hD hS hA [] [0, 1, 2, 3, 4] rfl rfl rfl (by decide) (fun _ H locs _ hP hD hS => ?_)
    have hP : va_P D cls_ [(h, .inr (2, [.ref ln, .ref pe, .ref ou, .ref cs, .int (nI lk), .int (nI sn), .int (nI ac), .int (nI ex), .int (nI tr), .int (nI rj)])), (x, .inr (3, [.ref ss])), (ss, .inl (ca 2, 2, .inr (.inr (.inr (.inr fs))))), (ln, .inr (0, [.ref lna, .int (nI Ln.2)])), (lna, .inl (ca 0, 12, .inl (fun j => nI (Ln.1 j))))] H := hP
    have hD : va_D A [(h, .inr (2, [.ref ln, .ref pe, .ref ou, .ref cs, .int (nI lk), .int (nI sn), .int (nI ac), .int (nI ex), .int (nI tr), .int (nI rj)])), (x, .inr (3, [.ref ss])), (ss, .inl (ca 2, 2, .inr (.inr (.inr (.inr fs))))), (ln, .inr (0, [.ref lna, .int (nI Ln.2)])), (lna, .inl (ca 0, 12, .inl (fun j => nI (Ln.1 j))))] := hD
    have hP : va_P D cls_ [(x, .inr (3, [.ref ss])), (ss, .inl (ca 2, 2, .inr (.inr (.inr (.inr fs))))), (h, .inr (2, [.ref ln, .ref pe, .ref ou, .ref cs, .int (nI lk), .int (nI sn), .int (nI ac), .int (nI ex), .int (nI tr), .int (nI rj)])), (ln, .inr (0, [.ref lna, .int (nI Ln.2)])), (lna, .inl (ca 0, 12, .inl (fun j => nI (Ln.1 j))))] H := hP.sub [1, 2, 0, 3, 4] rfl
    have hD : va_D A [(x, .inr (3, [.ref ss])), (ss, .inl (ca 2, 2, .inr (.inr (.inr (.inr fs))))), (h, .inr (2, [.ref ln, .ref pe, .ref ou, .ref cs, .int (nI lk), .int (nI sn), .int (nI ac), .int (nI ex), .int (nI tr), .int (nI rj)])), (ln, .inr (0, [.ref lna, .int (nI Ln.2)])), (lna, .inl (ca 0, 12, .inl (fun j => nI (Ln.1 j))))] := hD.sub [1, 2, 0, 3, 4] rfl rfl
    exact Co.reti hx hb hret hlk dCl_frame_93 hS hP hD () (by rw [sel8, if_pos (by omega)]) trivial rfl (Nat.le_of_ble_eq_true rfl) (Nat.le_of_ble_eq_true rfl)
  · refine k_tab (tgt := 94) hx hb 1 h41 dCl_frame_41 (by decide) (by decide) rfl rfl ?_
    refine lv_iload hx hb dCl_frame_94 (lv_at hl 1 rfl) ?_
    refine kI (rSN fx (c_Fr_numberOf l D ca (Ln.1 k₀) (by omega)) ⟨va_cnB 1 hts (tb_gi tw_360) rfl rfl rfl (hE.nest tw_567 rfl) (ht _ tw_10) (by decide +kernel) ⟨(Nat.le_of_ble_eq_true rfl), (Nat.le_of_ble_eq_true rfl)⟩, ht _ tw_359, trivial⟩ hE hP hD [] rfl rfl rfl hl.1 rfl (Nat.le_of_ble_eq_true rfl) dCl_frame_96 ⟨(Nat.le_of_ble_eq_true rfl), (Nat.le_of_ble_eq_true rfl)⟩) hP hD hS hA [] [0, 1, 2, 3, 4] rfl rfl rfl (by decide) (fun _ H locs _ hP hD hS => ?_)
    have hP : va_P D cls_ [(h, .inr (2, [.ref ln, .ref pe, .ref ou, .ref cs, .int (nI lk), .int (nI sn), .int (nI ac), .int (nI ex), .int (nI tr), .int (nI rj)])), (x, .inr (3, [.ref ss])), (ss, .inl (ca 2, 2, .inr (.inr (.inr (.inr fs))))), (ln, .inr (0, [.ref lna, .int (nI Ln.2)])), (lna, .inl (ca 0, 12, .inl (fun j => nI (Ln.1 j))))] H := hP
    have hD : va_D A [(h, .inr (2, [.ref ln, .ref pe, .ref ou, .ref cs, .int (nI lk), .int (nI sn), .int (nI ac), .int (nI ex), .int (nI tr), .int (nI rj)])), (x, .inr (3, [.ref ss])), (ss, .inl (ca 2, 2, .inr (.inr (.inr (.inr fs))))), (ln, .inr (0, [.ref lna, .int (nI Ln.2)])), (lna, .inl (ca 0, 12, .inl (fun j => nI (Ln.1 j))))] := hD
    have hP : va_P D cls_ [(x, .inr (3, [.ref ss])), (ss, .inl (ca 2, 2, .inr (.inr (.inr (.inr fs))))), (h, .inr (2, [.ref ln, .ref pe, .ref ou, .ref cs, .int (nI lk), .int (nI sn), .int (nI ac), .int (nI ex), .int (nI tr), .int (nI rj)])), (ln, .inr (0, [.ref lna, .int (nI Ln.2)])), (lna, .inl (ca 0, 12, .inl (fun j => nI (Ln.1 j))))] H := hP.sub [1, 2, 0, 3, 4] rfl
    have hD : va_D A [(x, .inr (3, [.ref ss])), (ss, .inl (ca 2, 2, .inr (.inr (.inr (.inr fs))))), (h, .inr (2, [.ref ln, .ref pe, .ref ou, .ref cs, .int (nI lk), .int (nI sn), .int (nI ac), .int (nI ex), .int (nI tr), .int (nI rj)])), (ln, .inr (0, [.ref lna, .int (nI Ln.2)])), (lna, .inl (ca 0, 12, .inl (fun j => nI (Ln.1 j))))] := hD.sub [1, 2, 0, 3, 4] rfl rfl
    exact Co.reti hx hb hret hlk dCl_frame_99 hS hP hD () (by rw [sel8, if_neg (by omega), if_pos (by omega)]) trivial rfl (Nat.le_of_ble_eq_true rfl) (Nat.le_of_ble_eq_true rfl)
  · refine k_tab (tgt := 100) hx hb 2 h41 dCl_frame_41 (by decide) (by decide) rfl rfl ?_
    refine lv_iload hx hb dCl_frame_100 (lv_at hl 1 rfl) ?_
    refine kI (rSN fx (c_Fr_acknowledgementOf l D ca (Ln.1 k₀) (by omega)) ⟨va_cnB 1 hts (tb_gi tw_345) rfl rfl rfl (hE.nest tw_568 rfl) (ht _ tw_10) (by decide +kernel) ⟨(Nat.le_of_ble_eq_true rfl), (Nat.le_of_ble_eq_true rfl)⟩, ht _ tw_344, trivial⟩ hE hP hD [] rfl rfl rfl hl.1 rfl (Nat.le_of_ble_eq_true rfl) dCl_frame_102 ⟨(Nat.le_of_ble_eq_true rfl), (Nat.le_of_ble_eq_true rfl)⟩) hP hD hS hA [] [0, 1, 2, 3, 4] rfl rfl rfl (by decide) (fun _ H locs _ hP hD hS => ?_)
    have hP : va_P D cls_ [(h, .inr (2, [.ref ln, .ref pe, .ref ou, .ref cs, .int (nI lk), .int (nI sn), .int (nI ac), .int (nI ex), .int (nI tr), .int (nI rj)])), (x, .inr (3, [.ref ss])), (ss, .inl (ca 2, 2, .inr (.inr (.inr (.inr fs))))), (ln, .inr (0, [.ref lna, .int (nI Ln.2)])), (lna, .inl (ca 0, 12, .inl (fun j => nI (Ln.1 j))))] H := hP
    have hD : va_D A [(h, .inr (2, [.ref ln, .ref pe, .ref ou, .ref cs, .int (nI lk), .int (nI sn), .int (nI ac), .int (nI ex), .int (nI tr), .int (nI rj)])), (x, .inr (3, [.ref ss])), (ss, .inl (ca 2, 2, .inr (.inr (.inr (.inr fs))))), (ln, .inr (0, [.ref lna, .int (nI Ln.2)])), (lna, .inl (ca 0, 12, .inl (fun j => nI (Ln.1 j))))] := hD
    have hP : va_P D cls_ [(x, .inr (3, [.ref ss])), (ss, .inl (ca 2, 2, .inr (.inr (.inr (.inr fs))))), (h, .inr (2, [.ref ln, .ref pe, .ref ou, .ref cs, .int (nI lk), .int (nI sn), .int (nI ac), .int (nI ex), .int (nI tr), .int (nI rj)])), (ln, .inr (0, [.ref lna, .int (nI Ln.2)])), (lna, .inl (ca 0, 12, .inl (fun j => nI (Ln.1 j))))] H := hP.sub [1, 2, 0, 3, 4] rfl
    have hD : va_D A [(x, .inr (3, [.ref ss])), (ss, .inl (ca 2, 2, .inr (.inr (.inr (.inr fs))))), (h, .inr (2, [.ref ln, .ref pe, .ref ou, .ref cs, .int (nI lk), .int (nI sn), .int (nI ac), .int (nI ex), .int (nI tr), .int (nI rj)])), (ln, .inr (0, [.ref lna, .int (nI Ln.2)])), (lna, .inl (ca 0, 12, .inl (fun j => nI (Ln.1 j))))] := hD.sub [1, 2, 0, 3, 4] rfl rfl
    exact Co.reti hx hb hret hlk dCl_frame_105 hS hP hD () (by rw [sel8, if_neg (by omega), if_neg (by omega), if_pos (by omega)]) trivial rfl (Nat.le_of_ble_eq_true rfl) (Nat.le_of_ble_eq_true rfl)
  · refine k_tab (tgt := 106) hx hb 3 h41 dCl_frame_41 (by decide) (by decide) rfl rfl ?_
    refine lv_iload hx hb dCl_frame_106 (lv_at hl 0 rfl) ?_
    refine kI (rSN fx (c_Pk_kindOf l D ca (fPack (Ln.1 k₀)) (by omega)) ⟨va_cnB 1 hts (tb_gi tw_389) rfl rfl rfl (hE.nest tw_569 rfl) (ht _ tw_14) (by decide +kernel) ⟨(Nat.le_of_ble_eq_true rfl), (Nat.le_of_ble_eq_true rfl)⟩, ht _ tw_388, trivial⟩ hE hP hD [] rfl rfl rfl hl.1 rfl (Nat.le_of_ble_eq_true rfl) dCl_frame_108 ⟨(Nat.le_of_ble_eq_true rfl), (Nat.le_of_ble_eq_true rfl)⟩) hP hD hS hA [] [0, 1, 2, 3, 4] rfl rfl rfl (by decide) (fun _ H locs _ hP hD hS => ?_)
    have hP : va_P D cls_ [(h, .inr (2, [.ref ln, .ref pe, .ref ou, .ref cs, .int (nI lk), .int (nI sn), .int (nI ac), .int (nI ex), .int (nI tr), .int (nI rj)])), (x, .inr (3, [.ref ss])), (ss, .inl (ca 2, 2, .inr (.inr (.inr (.inr fs))))), (ln, .inr (0, [.ref lna, .int (nI Ln.2)])), (lna, .inl (ca 0, 12, .inl (fun j => nI (Ln.1 j))))] H := hP
    have hD : va_D A [(h, .inr (2, [.ref ln, .ref pe, .ref ou, .ref cs, .int (nI lk), .int (nI sn), .int (nI ac), .int (nI ex), .int (nI tr), .int (nI rj)])), (x, .inr (3, [.ref ss])), (ss, .inl (ca 2, 2, .inr (.inr (.inr (.inr fs))))), (ln, .inr (0, [.ref lna, .int (nI Ln.2)])), (lna, .inl (ca 0, 12, .inl (fun j => nI (Ln.1 j))))] := hD
    have hP : va_P D cls_ [(x, .inr (3, [.ref ss])), (ss, .inl (ca 2, 2, .inr (.inr (.inr (.inr fs))))), (h, .inr (2, [.ref ln, .ref pe, .ref ou, .ref cs, .int (nI lk), .int (nI sn), .int (nI ac), .int (nI ex), .int (nI tr), .int (nI rj)])), (ln, .inr (0, [.ref lna, .int (nI Ln.2)])), (lna, .inl (ca 0, 12, .inl (fun j => nI (Ln.1 j))))] H := hP.sub [1, 2, 0, 3, 4] rfl
    have hD : va_D A [(x, .inr (3, [.ref ss])), (ss, .inl (ca 2, 2, .inr (.inr (.inr (.inr fs))))), (h, .inr (2, [.ref ln, .ref pe, .ref ou, .ref cs, .int (nI lk), .int (nI sn), .int (nI ac), .int (nI ex), .int (nI tr), .int (nI rj)])), (ln, .inr (0, [.ref lna, .int (nI Ln.2)])), (lna, .inl (ca 0, 12, .inl (fun j => nI (Ln.1 j))))] := hD.sub [1, 2, 0, 3, 4] rfl rfl
    exact Co.reti hx hb hret hlk dCl_frame_111 hS hP hD () (by rw [sel8, if_neg (by omega), if_neg (by omega), if_neg (by omega), if_pos (by omega)]) trivial rfl (Nat.le_of_ble_eq_true rfl) (Nat.le_of_ble_eq_true rfl)
  · refine k_tab (tgt := 112) hx hb 4 h41 dCl_frame_41 (by decide) (by decide) rfl rfl ?_
    refine lv_iload hx hb dCl_frame_112 (lv_at hl 0 rfl) ?_
    refine kI (rSN fx (c_Pk_channelOf l D ca (fPack (Ln.1 k₀)) (by omega)) ⟨va_cnB 1 hts (tb_gi tw_379) rfl rfl rfl (hE.nest tw_570 rfl) (ht _ tw_14) (by decide +kernel) ⟨(Nat.le_of_ble_eq_true rfl), (Nat.le_of_ble_eq_true rfl)⟩, ht _ tw_378, trivial⟩ hE hP hD [] rfl rfl rfl hl.1 rfl (Nat.le_of_ble_eq_true rfl) dCl_frame_114 ⟨(Nat.le_of_ble_eq_true rfl), (Nat.le_of_ble_eq_true rfl)⟩) hP hD hS hA [] [0, 1, 2, 3, 4] rfl rfl rfl (by decide) (fun _ H locs _ hP hD hS => ?_)
    have hP : va_P D cls_ [(h, .inr (2, [.ref ln, .ref pe, .ref ou, .ref cs, .int (nI lk), .int (nI sn), .int (nI ac), .int (nI ex), .int (nI tr), .int (nI rj)])), (x, .inr (3, [.ref ss])), (ss, .inl (ca 2, 2, .inr (.inr (.inr (.inr fs))))), (ln, .inr (0, [.ref lna, .int (nI Ln.2)])), (lna, .inl (ca 0, 12, .inl (fun j => nI (Ln.1 j))))] H := hP
    have hD : va_D A [(h, .inr (2, [.ref ln, .ref pe, .ref ou, .ref cs, .int (nI lk), .int (nI sn), .int (nI ac), .int (nI ex), .int (nI tr), .int (nI rj)])), (x, .inr (3, [.ref ss])), (ss, .inl (ca 2, 2, .inr (.inr (.inr (.inr fs))))), (ln, .inr (0, [.ref lna, .int (nI Ln.2)])), (lna, .inl (ca 0, 12, .inl (fun j => nI (Ln.1 j))))] := hD
    have hP : va_P D cls_ [(x, .inr (3, [.ref ss])), (ss, .inl (ca 2, 2, .inr (.inr (.inr (.inr fs))))), (h, .inr (2, [.ref ln, .ref pe, .ref ou, .ref cs, .int (nI lk), .int (nI sn), .int (nI ac), .int (nI ex), .int (nI tr), .int (nI rj)])), (ln, .inr (0, [.ref lna, .int (nI Ln.2)])), (lna, .inl (ca 0, 12, .inl (fun j => nI (Ln.1 j))))] H := hP.sub [1, 2, 0, 3, 4] rfl
    have hD : va_D A [(x, .inr (3, [.ref ss])), (ss, .inl (ca 2, 2, .inr (.inr (.inr (.inr fs))))), (h, .inr (2, [.ref ln, .ref pe, .ref ou, .ref cs, .int (nI lk), .int (nI sn), .int (nI ac), .int (nI ex), .int (nI tr), .int (nI rj)])), (ln, .inr (0, [.ref lna, .int (nI Ln.2)])), (lna, .inl (ca 0, 12, .inl (fun j => nI (Ln.1 j))))] := hD.sub [1, 2, 0, 3, 4] rfl rfl
    exact Co.reti hx hb hret hlk dCl_frame_117 hS hP hD () (by rw [sel8, if_neg (by omega), if_neg (by omega), if_neg (by omega), if_neg (by omega), if_pos (by omega)]) trivial rfl (Nat.le_of_ble_eq_true rfl) (Nat.le_of_ble_eq_true rfl)
  · refine k_tab (tgt := 118) hx hb 5 h41 dCl_frame_41 (by decide) (by decide) rfl rfl ?_
    refine lv_iload hx hb dCl_frame_118 (lv_at hl 0 rfl) ?_
    refine kI (rSN fx (c_Pk_numberOf l D ca (fPack (Ln.1 k₀)) (by omega)) ⟨va_cnB 1 hts (tb_gi tw_413) rfl rfl rfl (hE.nest tw_571 rfl) (ht _ tw_14) (by decide +kernel) ⟨(Nat.le_of_ble_eq_true rfl), (Nat.le_of_ble_eq_true rfl)⟩, ht _ tw_412, trivial⟩ hE hP hD [] rfl rfl rfl hl.1 rfl (Nat.le_of_ble_eq_true rfl) dCl_frame_120 ⟨(Nat.le_of_ble_eq_true rfl), (Nat.le_of_ble_eq_true rfl)⟩) hP hD hS hA [] [0, 1, 2, 3, 4] rfl rfl rfl (by decide) (fun _ H locs _ hP hD hS => ?_)
    have hP : va_P D cls_ [(h, .inr (2, [.ref ln, .ref pe, .ref ou, .ref cs, .int (nI lk), .int (nI sn), .int (nI ac), .int (nI ex), .int (nI tr), .int (nI rj)])), (x, .inr (3, [.ref ss])), (ss, .inl (ca 2, 2, .inr (.inr (.inr (.inr fs))))), (ln, .inr (0, [.ref lna, .int (nI Ln.2)])), (lna, .inl (ca 0, 12, .inl (fun j => nI (Ln.1 j))))] H := hP
    have hD : va_D A [(h, .inr (2, [.ref ln, .ref pe, .ref ou, .ref cs, .int (nI lk), .int (nI sn), .int (nI ac), .int (nI ex), .int (nI tr), .int (nI rj)])), (x, .inr (3, [.ref ss])), (ss, .inl (ca 2, 2, .inr (.inr (.inr (.inr fs))))), (ln, .inr (0, [.ref lna, .int (nI Ln.2)])), (lna, .inl (ca 0, 12, .inl (fun j => nI (Ln.1 j))))] := hD
    have hP : va_P D cls_ [(x, .inr (3, [.ref ss])), (ss, .inl (ca 2, 2, .inr (.inr (.inr (.inr fs))))), (h, .inr (2, [.ref ln, .ref pe, .ref ou, .ref cs, .int (nI lk), .int (nI sn), .int (nI ac), .int (nI ex), .int (nI tr), .int (nI rj)])), (ln, .inr (0, [.ref lna, .int (nI Ln.2)])), (lna, .inl (ca 0, 12, .inl (fun j => nI (Ln.1 j))))] H := hP.sub [1, 2, 0, 3, 4] rfl
    have hD : va_D A [(x, .inr (3, [.ref ss])), (ss, .inl (ca 2, 2, .inr (.inr (.inr (.inr fs))))), (h, .inr (2, [.ref ln, .ref pe, .ref ou, .ref cs, .int (nI lk), .int (nI sn), .int (nI ac), .int (nI ex), .int (nI tr), .int (nI rj)])), (ln, .inr (0, [.ref lna, .int (nI Ln.2)])), (lna, .inl (ca 0, 12, .inl (fun j => nI (Ln.1 j))))] := hD.sub [1, 2, 0, 3, 4] rfl rfl
    exact Co.reti hx hb hret hlk dCl_frame_123 hS hP hD () (by rw [sel8, if_neg (by omega), if_neg (by omega), if_neg (by omega), if_neg (by omega), if_neg (by omega), if_pos (by omega)]) trivial rfl (Nat.le_of_ble_eq_true rfl) (Nat.le_of_ble_eq_true rfl)
  · refine k_tab (tgt := 124) hx hb 6 h41 dCl_frame_41 (by decide) (by decide) rfl rfl ?_
    refine lv_iload hx hb dCl_frame_124 (lv_at hl 0 rfl) ?_
    refine kI (rSN fx (c_Pk_acknowledgementOf l D ca (fPack (Ln.1 k₀)) (by omega)) ⟨va_cnB 1 hts (tb_gi tw_409) rfl rfl rfl (hE.nest tw_572 rfl) (ht _ tw_14) (by decide +kernel) ⟨(Nat.le_of_ble_eq_true rfl), (Nat.le_of_ble_eq_true rfl)⟩, ht _ tw_408, trivial⟩ hE hP hD [] rfl rfl rfl hl.1 rfl (Nat.le_of_ble_eq_true rfl) dCl_frame_126 ⟨(Nat.le_of_ble_eq_true rfl), (Nat.le_of_ble_eq_true rfl)⟩) hP hD hS hA [] [0, 1, 2, 3, 4] rfl rfl rfl (by decide) (fun _ H locs _ hP hD hS => ?_)
    have hP : va_P D cls_ [(h, .inr (2, [.ref ln, .ref pe, .ref ou, .ref cs, .int (nI lk), .int (nI sn), .int (nI ac), .int (nI ex), .int (nI tr), .int (nI rj)])), (x, .inr (3, [.ref ss])), (ss, .inl (ca 2, 2, .inr (.inr (.inr (.inr fs))))), (ln, .inr (0, [.ref lna, .int (nI Ln.2)])), (lna, .inl (ca 0, 12, .inl (fun j => nI (Ln.1 j))))] H := hP
    have hD : va_D A [(h, .inr (2, [.ref ln, .ref pe, .ref ou, .ref cs, .int (nI lk), .int (nI sn), .int (nI ac), .int (nI ex), .int (nI tr), .int (nI rj)])), (x, .inr (3, [.ref ss])), (ss, .inl (ca 2, 2, .inr (.inr (.inr (.inr fs))))), (ln, .inr (0, [.ref lna, .int (nI Ln.2)])), (lna, .inl (ca 0, 12, .inl (fun j => nI (Ln.1 j))))] := hD
    have hP : va_P D cls_ [(x, .inr (3, [.ref ss])), (ss, .inl (ca 2, 2, .inr (.inr (.inr (.inr fs))))), (h, .inr (2, [.ref ln, .ref pe, .ref ou, .ref cs, .int (nI lk), .int (nI sn), .int (nI ac), .int (nI ex), .int (nI tr), .int (nI rj)])), (ln, .inr (0, [.ref lna, .int (nI Ln.2)])), (lna, .inl (ca 0, 12, .inl (fun j => nI (Ln.1 j))))] H := hP.sub [1, 2, 0, 3, 4] rfl
    have hD : va_D A [(x, .inr (3, [.ref ss])), (ss, .inl (ca 2, 2, .inr (.inr (.inr (.inr fs))))), (h, .inr (2, [.ref ln, .ref pe, .ref ou, .ref cs, .int (nI lk), .int (nI sn), .int (nI ac), .int (nI ex), .int (nI tr), .int (nI rj)])), (ln, .inr (0, [.ref lna, .int (nI Ln.2)])), (lna, .inl (ca 0, 12, .inl (fun j => nI (Ln.1 j))))] := hD.sub [1, 2, 0, 3, 4] rfl rfl
    exact Co.reti hx hb hret hlk dCl_frame_129 hS hP hD () (by rw [sel8, if_neg (by omega), if_neg (by omega), if_neg (by omega), if_neg (by omega), if_neg (by omega), if_neg (by omega), if_pos (by omega)]) trivial rfl (Nat.le_of_ble_eq_true rfl) (Nat.le_of_ble_eq_true rfl)
  · refine k_tab (tgt := 130) hx hb 7 h41 dCl_frame_41 (by decide) (by decide) rfl rfl ?_
    refine lv_iload hx hb dCl_frame_130 (lv_at hl 0 rfl) ?_
    refine kI (rSN fx (c_Pk_dataOf l D ca (fPack (Ln.1 k₀)) (by omega)) ⟨va_cnB 1 hts (tb_gi tw_416) rfl rfl rfl (hE.nest tw_573 rfl) (ht _ tw_14) (by decide +kernel) ⟨(Nat.le_of_ble_eq_true rfl), (Nat.le_of_ble_eq_true rfl)⟩, ht _ tw_415, trivial⟩ hE hP hD [] rfl rfl rfl hl.1 rfl (Nat.le_of_ble_eq_true rfl) dCl_frame_132 ⟨(Nat.le_of_ble_eq_true rfl), (Nat.le_of_ble_eq_true rfl)⟩) hP hD hS hA [] [0, 1, 2, 3, 4] rfl rfl rfl (by decide) (fun _ H locs _ hP hD hS => ?_)
    have hP : va_P D cls_ [(h, .inr (2, [.ref ln, .ref pe, .ref ou, .ref cs, .int (nI lk), .int (nI sn), .int (nI ac), .int (nI ex), .int (nI tr), .int (nI rj)])), (x, .inr (3, [.ref ss])), (ss, .inl (ca 2, 2, .inr (.inr (.inr (.inr fs))))), (ln, .inr (0, [.ref lna, .int (nI Ln.2)])), (lna, .inl (ca 0, 12, .inl (fun j => nI (Ln.1 j))))] H := hP
    have hD : va_D A [(h, .inr (2, [.ref ln, .ref pe, .ref ou, .ref cs, .int (nI lk), .int (nI sn), .int (nI ac), .int (nI ex), .int (nI tr), .int (nI rj)])), (x, .inr (3, [.ref ss])), (ss, .inl (ca 2, 2, .inr (.inr (.inr (.inr fs))))), (ln, .inr (0, [.ref lna, .int (nI Ln.2)])), (lna, .inl (ca 0, 12, .inl (fun j => nI (Ln.1 j))))] := hD
    have hP : va_P D cls_ [(x, .inr (3, [.ref ss])), (ss, .inl (ca 2, 2, .inr (.inr (.inr (.inr fs))))), (h, .inr (2, [.ref ln, .ref pe, .ref ou, .ref cs, .int (nI lk), .int (nI sn), .int (nI ac), .int (nI ex), .int (nI tr), .int (nI rj)])), (ln, .inr (0, [.ref lna, .int (nI Ln.2)])), (lna, .inl (ca 0, 12, .inl (fun j => nI (Ln.1 j))))] H := hP.sub [1, 2, 0, 3, 4] rfl
    have hD : va_D A [(x, .inr (3, [.ref ss])), (ss, .inl (ca 2, 2, .inr (.inr (.inr (.inr fs))))), (h, .inr (2, [.ref ln, .ref pe, .ref ou, .ref cs, .int (nI lk), .int (nI sn), .int (nI ac), .int (nI ex), .int (nI tr), .int (nI rj)])), (ln, .inr (0, [.ref lna, .int (nI Ln.2)])), (lna, .inl (ca 0, 12, .inl (fun j => nI (Ln.1 j))))] := hD.sub [1, 2, 0, 3, 4] rfl rfl
    exact Co.reti hx hb hret hlk dCl_frame_135 hS hP hD () (by rw [sel8, if_neg (by omega), if_neg (by omega), if_neg (by omega), if_neg (by omega), if_neg (by omega), if_neg (by omega), if_neg (by omega)]) trivial rfl (Nat.le_of_ble_eq_true rfl) (Nat.le_of_ble_eq_true rfl)
  · exfalso; omega
set_option maxHeartbeats 4000000 in
set_option maxRecDepth 100000 in
theorem c_Cl_frameX (l : Launch) (D : va_G) (ca : Nat → ClassId) (x ss : Nat) (fs : Nat → Option Nat) (s₀ : Nat) (hs0 : s₀ < 2) (h ln pe ou cs lk sn ac ex tr rj : Nat) (lna : Nat) (Ln : Rw_) (hfs : fs s₀ = some h) (hL1 : Ln.2 ≤ 12) (k₀ : Nat) (hk0 : k₀ < Ln.2) (hf : Ln.1 k₀ < 2 ^ 31) (w₁ : Int32) (hw1 : w₁.toInt < 0 ∨ 7 < w₁.toInt) : Co (S := Unit) l yCl_frame (Cond.code yCl_frame cCl_frame 7 (some FieldType.int) :: tb_) { frames := 2, cells := 0, slots := 0, locals := 64 } D ca [.ref x, .int (nI s₀), .int (nI k₀), .int w₁] [(x, .inr (3, [.ref ss])), (ss, .inl (ca 2, 2, .inr (.inr (.inr (.inr fs))))), (h, .inr (2, [.ref ln, .ref pe, .ref ou, .ref cs, .int (nI lk), .int (nI sn), .int (nI ac), .int (nI ex), .int (nI tr), .int (nI rj)])), (ln, .inr (0, [.ref lna, .int (nI Ln.2)])), (lna, .inl (ca 0, 12, .inl (fun j => nI (Ln.1 j))))] (fun _ => some (.int (-1))) (fun _ => True) (fun _ => [(x, .inr (3, [.ref ss])), (ss, .inl (ca 2, 2, .inr (.inr (.inr (.inr fs))))), (h, .inr (2, [.ref ln, .ref pe, .ref ou, .ref cs, .int (nI lk), .int (nI sn), .int (nI ac), .int (nI ex), .int (nI tr), .int (nI rj)])), (ln, .inr (0, [.ref lna, .int (nI Ln.2)])), (lna, .inl (ca 0, 12, .inl (fun j => nI (Ln.1 j))))]) 0 0 := by
  refine Co.of cCl_frame 7 (some FieldType.int) (by decide) (Nat.le_of_ble_eq_true rfl) ?_
  intro p e s m args below meth c A ls fx hret hlk hin hE hP hD hS hA hl
  have hx := fx.1
  have hb := fx.2.1
  have hown : s.vm.findClass RCl = some m.cls := fx.2.2.2.1
  have hts := fx.2.2.2.2
  have ht : ∀ w ∈ tb_, w.before args s = true := fun w h => hts w (List.mem_cons_of_mem _ h)
  have hf2 : fPack (Ln.1 k₀) < 2097152 := Nat.mod_lt _ (by decide)
  have hl : lv_has ls 7 [(0, .ref x), (1, .int (nI s₀)), (2, .int (nI k₀)), (3, .int w₁)] := hl
  refine lv_aload_n hx hb dCl_frame_0 rfl (lv_at hl 0 rfl) ?_
  refine lv_iload_n hx hb dCl_frame_1 rfl (lv_at hl 1 rfl) ?_
  refine kA (rV fx (c_Cl_stationAt l D ca x ss fs s₀ hs0 h hfs) ⟨callB_of 1 hts (tb_gi tw_143) rfl rfl rfl (ht _ tw_1) (ht _ tw_140) (by decide +kernel) ⟨(Nat.le_of_ble_eq_true rfl), (Nat.le_of_ble_eq_true rfl)⟩, ht _ tw_142, ht _ tw_826⟩ hE hP hD 0 rfl rfl rfl [0, 1] rfl rfl rfl hl.1 rfl (Nat.le_of_ble_eq_true rfl) dCl_frame_2 ⟨(Nat.le_of_ble_eq_true rfl), (Nat.le_of_ble_eq_true rfl)⟩) hP hD hS hA [0, 1] [2, 3, 4] rfl rfl rfl (by decide) (fun _ H locs _ hP hD hS => ?_)
  have hP : va_P D cls_ [(h, .inr (2, [.ref ln, .ref pe, .ref ou, .ref cs, .int (nI lk), .int (nI sn), .int (nI ac), .int (nI ex), .int (nI tr), .int (nI rj)])), (ln, .inr (0, [.ref lna, .int (nI Ln.2)])), (lna, .inl (ca 0, 12, .inl (fun j => nI (Ln.1 j)))), (x, .inr (3, [.ref ss])), (ss, .inl (ca 2, 2, .inr (.inr (.inr (.inr fs)))))] H := hP
  have hD : va_D A [(h, .inr (2, [.ref ln, .ref pe, .ref ou, .ref cs, .int (nI lk), .int (nI sn), .int (nI ac), .int (nI ex), .int (nI tr), .int (nI rj)])), (ln, .inr (0, [.ref lna, .int (nI Ln.2)])), (lna, .inl (ca 0, 12, .inl (fun j => nI (Ln.1 j)))), (x, .inr (3, [.ref ss])), (ss, .inl (ca 2, 2, .inr (.inr (.inr (.inr fs)))))] := hD
  refine va_getN (D := D) (ci := 2) (v := .ref ln) (host := "ChannelledLink") (C := RSt) (T := TSt) (N := 10) hx hb ht inSt hown hE.1 hP 0 rfl rfl 0 (by decide) (hE.nestU tw_89 rfl) (fun _ h => h) rfl dCl_frame_5 ?_
  refine lv_astore hx hb dCl_frame_8 hl (by decide) rfl (fun ls hl => ?_)
  have hl : lv_has ls 7 [(4, .ref ln), (0, .ref x), (1, .int (nI s₀)), (2, .int (nI k₀)), (3, .int w₁)] := hl
  refine lv_iload_n hx hb dCl_frame_10 rfl (lv_at hl 3 rfl) ?_
  refine k_if_lt (tgt := 23) hx hb (by omega) dCl_frame_11 rfl ?_
  refine lv_iload_n hx hb dCl_frame_14 rfl (lv_at hl 3 rfl) ?_
  refine lv_aload hx hb dCl_frame_15 (lv_at hl 0 rfl) ?_
  refine va_getN (D := D) (ci := 0) (v := .int (nI Ln.2)) (host := "ChannelledLink") (C := RRw) (T := TRw) (N := 2) hx hb ht inRw hown hE.1 hP 1 rfl rfl 1 (by decide) (hE.nestU tw_35 rfl) (fun _ h => h) rfl dCl_frame_17 ?_
  refine k_icmp_lt (tgt := 25) hx hb (by omega) (by omega) dCl_frame_20 rfl (fun h20 => ?_) (fun hz => absurd hz (by omega))
  refine lv_aload hx hb dCl_frame_25 (lv_at hl 0 rfl) ?_
  refine lv_iload_n hx hb dCl_frame_27 rfl (lv_at hl 3 rfl) ?_
  refine kI (rV fx (c_Rw_at l D ca ln lna 12 Ln k₀ (by decide) (by first | assumption | exact rAdd_le (by assumption) | omega) (by first | assumption | exact rAdd_le (by assumption) | omega)) ⟨callB_of 1 hts (tb_gi tw_286) rfl rfl rfl (ht _ tw_2) (ht _ tw_320) (by decide +kernel) ⟨(Nat.le_of_ble_eq_true rfl), (Nat.le_of_ble_eq_true rfl)⟩, ht _ tw_284, ht _ tw_285⟩ hE hP hD 1 rfl rfl rfl [1, 2] rfl rfl rfl hl.1 rfl (Nat.le_of_ble_eq_true rfl) dCl_frame_28 ⟨(Nat.le_of_ble_eq_true rfl), (Nat.le_of_ble_eq_true rfl)⟩) hP hD hS hA [1, 2] [0, 3, 4] rfl rfl rfl (by decide) (fun _ H locs _ hP hD hS => ?_)
  have hP : va_P D cls_ [(h, .inr (2, [.ref ln, .ref pe, .ref ou, .ref cs, .int (nI lk), .int (nI sn), .int (nI ac), .int (nI ex), .int (nI tr), .int (nI rj)])), (x, .inr (3, [.ref ss])), (ss, .inl (ca 2, 2, .inr (.inr (.inr (.inr fs))))), (ln, .inr (0, [.ref lna, .int (nI Ln.2)])), (lna, .inl (ca 0, 12, .inl (fun j => nI (Ln.1 j))))] H := hP
  have hD : va_D A [(h, .inr (2, [.ref ln, .ref pe, .ref ou, .ref cs, .int (nI lk), .int (nI sn), .int (nI ac), .int (nI ex), .int (nI tr), .int (nI rj)])), (x, .inr (3, [.ref ss])), (ss, .inl (ca 2, 2, .inr (.inr (.inr (.inr fs))))), (ln, .inr (0, [.ref lna, .int (nI Ln.2)])), (lna, .inl (ca 0, 12, .inl (fun j => nI (Ln.1 j))))] := hD
  refine lv_istore hx hb dCl_frame_31 hl (by decide) rfl (fun ls hl => ?_)
  have hl : lv_has ls 7 [(5, .int (nI (Ln.1 k₀))), (4, .ref ln), (0, .ref x), (1, .int (nI s₀)), (2, .int (nI k₀)), (3, .int w₁)] := hl
  refine lv_iload hx hb dCl_frame_33 (lv_at hl 0 rfl) ?_
  refine kI (rSN fx (c_Fr_packetOf l D ca (Ln.1 k₀) (by omega)) ⟨va_cnB 1 hts (tb_gi tw_371) rfl rfl rfl (hE.nest tw_566 rfl) (ht _ tw_10) (by decide +kernel) ⟨(Nat.le_of_ble_eq_true rfl), (Nat.le_of_ble_eq_true rfl)⟩, ht _ tw_370, trivial⟩ hE hP hD [] rfl rfl rfl hl.1 rfl (Nat.le_of_ble_eq_true rfl) dCl_frame_35 ⟨(Nat.le_of_ble_eq_true rfl), (Nat.le_of_ble_eq_true rfl)⟩) hP hD hS hA [] [0, 1, 2, 3, 4] rfl rfl rfl (by decide) (fun _ H locs _ hP hD hS => ?_)
  have hP : va_P D cls_ [(h, .inr (2, [.ref ln, .ref pe, .ref ou, .ref cs, .int (nI lk), .int (nI sn), .int (nI ac), .int (nI ex), .int (nI tr), .int (nI rj)])), (x, .inr (3, [.ref ss])), (ss, .inl (ca 2, 2, .inr (.inr (.inr (.inr fs))))), (ln, .inr (0, [.ref lna, .int (nI Ln.2)])), (lna, .inl (ca 0, 12, .inl (fun j => nI (Ln.1 j))))] H := hP
  have hD : va_D A [(h, .inr (2, [.ref ln, .ref pe, .ref ou, .ref cs, .int (nI lk), .int (nI sn), .int (nI ac), .int (nI ex), .int (nI tr), .int (nI rj)])), (x, .inr (3, [.ref ss])), (ss, .inl (ca 2, 2, .inr (.inr (.inr (.inr fs))))), (ln, .inr (0, [.ref lna, .int (nI Ln.2)])), (lna, .inl (ca 0, 12, .inl (fun j => nI (Ln.1 j))))] := hD
  refine lv_istore hx hb dCl_frame_38 hl (by decide) rfl (fun ls hl => ?_)
  have hl : lv_has ls 7 [(6, .int (nI (fPack (Ln.1 k₀)))), (5, .int (nI (Ln.1 k₀))), (4, .ref ln), (0, .ref x), (1, .int (nI s₀)), (2, .int (nI k₀)), (3, .int w₁)] := hl
  refine lv_iload_n hx hb dCl_frame_40 rfl (lv_at hl 6 rfl) ?_
  refine lv_tableOut (tgt := 136) hx hb dCl_frame_41 hw1 rfl ?_
  refine lv_iconst (v := (-1)) hx hb dCl_frame_136 (by decide) ?_
  have hP : va_P D cls_ [(x, .inr (3, [.ref ss])), (ss, .inl (ca 2, 2, .inr (.inr (.inr (.inr fs))))), (h, .inr (2, [.ref ln, .ref pe, .ref ou, .ref cs, .int (nI lk), .int (nI sn), .int (nI ac), .int (nI ex), .int (nI tr), .int (nI rj)])), (ln, .inr (0, [.ref lna, .int (nI Ln.2)])), (lna, .inl (ca 0, 12, .inl (fun j => nI (Ln.1 j))))] H := hP.sub [1, 2, 0, 3, 4] rfl
  have hD : va_D A [(x, .inr (3, [.ref ss])), (ss, .inl (ca 2, 2, .inr (.inr (.inr (.inr fs))))), (h, .inr (2, [.ref ln, .ref pe, .ref ou, .ref cs, .int (nI lk), .int (nI sn), .int (nI ac), .int (nI ex), .int (nI tr), .int (nI rj)])), (ln, .inr (0, [.ref lna, .int (nI Ln.2)])), (lna, .inl (ca 0, 12, .inl (fun j => nI (Ln.1 j))))] := hD.sub [1, 2, 0, 3, 4] rfl rfl
  exact Co.reti hx hb hret hlk dCl_frame_137 hS hP hD () rfl trivial rfl (Nat.le_of_ble_eq_true rfl) (Nat.le_of_ble_eq_true rfl)
set_option maxHeartbeats 4000000 in
set_option maxRecDepth 100000 in
theorem c_Cl_frameN (l : Launch) (D : va_G) (ca : Nat → ClassId) (x ss : Nat) (fs : Nat → Option Nat) (s₀ : Nat) (hs0 : s₀ < 2) (h ln pe ou cs lk sn ac ex tr rj : Nat) (lna : Nat) (Ln : Rw_) (hfs : fs s₀ = some h) (hL1 : Ln.2 ≤ 12) (k₁ w₁ : Int32) (hk1 : k₁ < 0 ∨ nI Ln.2 ≤ k₁) : Co (S := Unit) l yCl_frame (Cond.code yCl_frame cCl_frame 7 (some FieldType.int) :: tb_) { frames := 2, cells := 0, slots := 0, locals := 64 } D ca [.ref x, .int (nI s₀), .int k₁, .int w₁] [(x, .inr (3, [.ref ss])), (ss, .inl (ca 2, 2, .inr (.inr (.inr (.inr fs))))), (h, .inr (2, [.ref ln, .ref pe, .ref ou, .ref cs, .int (nI lk), .int (nI sn), .int (nI ac), .int (nI ex), .int (nI tr), .int (nI rj)])), (ln, .inr (0, [.ref lna, .int (nI Ln.2)])), (lna, .inl (ca 0, 12, .inl (fun j => nI (Ln.1 j))))] (fun _ => some (.int (-1))) (fun _ => True) (fun _ => [(x, .inr (3, [.ref ss])), (ss, .inl (ca 2, 2, .inr (.inr (.inr (.inr fs))))), (h, .inr (2, [.ref ln, .ref pe, .ref ou, .ref cs, .int (nI lk), .int (nI sn), .int (nI ac), .int (nI ex), .int (nI tr), .int (nI rj)])), (ln, .inr (0, [.ref lna, .int (nI Ln.2)])), (lna, .inl (ca 0, 12, .inl (fun j => nI (Ln.1 j))))]) 0 0 := by
  refine Co.of cCl_frame 7 (some FieldType.int) (by decide) (Nat.le_of_ble_eq_true rfl) ?_
  intro p e s m args below meth c A ls fx hret hlk hin hE hP hD hS hA hl
  have hx := fx.1
  have hb := fx.2.1
  have hown : s.vm.findClass RCl = some m.cls := fx.2.2.2.1
  have hts := fx.2.2.2.2
  have ht : ∀ w ∈ tb_, w.before args s = true := fun w h => hts w (List.mem_cons_of_mem _ h)
  have hl : lv_has ls 7 [(0, .ref x), (1, .int (nI s₀)), (2, .int k₁), (3, .int w₁)] := hl
  refine lv_aload_n hx hb dCl_frame_0 rfl (lv_at hl 0 rfl) ?_
  refine lv_iload_n hx hb dCl_frame_1 rfl (lv_at hl 1 rfl) ?_
  refine kA (rV fx (c_Cl_stationAt l D ca x ss fs s₀ hs0 h hfs) ⟨callB_of 1 hts (tb_gi tw_143) rfl rfl rfl (ht _ tw_1) (ht _ tw_140) (by decide +kernel) ⟨(Nat.le_of_ble_eq_true rfl), (Nat.le_of_ble_eq_true rfl)⟩, ht _ tw_142, ht _ tw_826⟩ hE hP hD 0 rfl rfl rfl [0, 1] rfl rfl rfl hl.1 rfl (Nat.le_of_ble_eq_true rfl) dCl_frame_2 ⟨(Nat.le_of_ble_eq_true rfl), (Nat.le_of_ble_eq_true rfl)⟩) hP hD hS hA [0, 1] [2, 3, 4] rfl rfl rfl (by decide) (fun _ H locs _ hP hD hS => ?_)
  have hP : va_P D cls_ [(h, .inr (2, [.ref ln, .ref pe, .ref ou, .ref cs, .int (nI lk), .int (nI sn), .int (nI ac), .int (nI ex), .int (nI tr), .int (nI rj)])), (ln, .inr (0, [.ref lna, .int (nI Ln.2)])), (lna, .inl (ca 0, 12, .inl (fun j => nI (Ln.1 j)))), (x, .inr (3, [.ref ss])), (ss, .inl (ca 2, 2, .inr (.inr (.inr (.inr fs)))))] H := hP
  have hD : va_D A [(h, .inr (2, [.ref ln, .ref pe, .ref ou, .ref cs, .int (nI lk), .int (nI sn), .int (nI ac), .int (nI ex), .int (nI tr), .int (nI rj)])), (ln, .inr (0, [.ref lna, .int (nI Ln.2)])), (lna, .inl (ca 0, 12, .inl (fun j => nI (Ln.1 j)))), (x, .inr (3, [.ref ss])), (ss, .inl (ca 2, 2, .inr (.inr (.inr (.inr fs)))))] := hD
  refine va_getN (D := D) (ci := 2) (v := .ref ln) (host := "ChannelledLink") (C := RSt) (T := TSt) (N := 10) hx hb ht inSt hown hE.1 hP 0 rfl rfl 0 (by decide) (hE.nestU tw_89 rfl) (fun _ h => h) rfl dCl_frame_5 ?_
  refine lv_astore hx hb dCl_frame_8 hl (by decide) rfl (fun ls hl => ?_)
  have hl : lv_has ls 7 [(4, .ref ln), (0, .ref x), (1, .int (nI s₀)), (2, .int k₁), (3, .int w₁)] := hl
  refine lv_iload_n hx hb dCl_frame_10 rfl (lv_at hl 3 rfl) ?_
  refine lv_if_lt (tgt := 23) hx hb dCl_frame_11 rfl (fun h11 => ?_) (fun h11 => ?_)
  · refine lv_iconst (v := (-1)) hx hb dCl_frame_23 (by decide) ?_
    have hP : va_P D cls_ [(x, .inr (3, [.ref ss])), (ss, .inl (ca 2, 2, .inr (.inr (.inr (.inr fs))))), (h, .inr (2, [.ref ln, .ref pe, .ref ou, .ref cs, .int (nI lk), .int (nI sn), .int (nI ac), .int (nI ex), .int (nI tr), .int (nI rj)])), (ln, .inr (0, [.ref lna, .int (nI Ln.2)])), (lna, .inl (ca 0, 12, .inl (fun j => nI (Ln.1 j))))] H := hP.sub [3, 4, 0, 1, 2] rfl
    have hD : va_D A [(x, .inr (3, [.ref ss])), (ss, .inl (ca 2, 2, .inr (.inr (.inr (.inr fs))))), (h, .inr (2, [.ref ln, .ref pe, .ref ou, .ref cs, .int (nI lk), .int (nI sn), .int (nI ac), .int (nI ex), .int (nI tr), .int (nI rj)])), (ln, .inr (0, [.ref lna, .int (nI Ln.2)])), (lna, .inl (ca 0, 12, .inl (fun j => nI (Ln.1 j))))] := hD.sub [3, 4, 0, 1, 2] rfl rfl
    exact Co.reti hx hb hret hlk dCl_frame_24 hS hP hD () rfl trivial rfl (Nat.le_of_ble_eq_true rfl) (Nat.le_of_ble_eq_true rfl)
  · refine lv_iload_n hx hb dCl_frame_14 rfl (lv_at hl 3 rfl) ?_
    refine lv_aload hx hb dCl_frame_15 (lv_at hl 0 rfl) ?_
    refine va_getN (D := D) (ci := 0) (v := .int (nI Ln.2)) (host := "ChannelledLink") (C := RRw) (T := TRw) (N := 2) hx hb ht inRw hown hE.1 hP 1 rfl rfl 1 (by decide) (hE.nestU tw_35 rfl) (fun _ h => h) rfl dCl_frame_17 ?_
    refine lv_icmp_lt (tgt := 25) hx hb dCl_frame_20 rfl (fun hz => absurd hz (Int32.not_lt.mpr (hk1.resolve_left h11))) (fun h20 => ?_)
    refine lv_iconst (v := (-1)) hx hb dCl_frame_23 (by decide) ?_
    have hP : va_P D cls_ [(x, .inr (3, [.ref ss])), (ss, .inl (ca 2, 2, .inr (.inr (.inr (.inr fs))))), (h, .inr (2, [.ref ln, .ref pe, .ref ou, .ref cs, .int (nI lk), .int (nI sn), .int (nI ac), .int (nI ex), .int (nI tr), .int (nI rj)])), (ln, .inr (0, [.ref lna, .int (nI Ln.2)])), (lna, .inl (ca 0, 12, .inl (fun j => nI (Ln.1 j))))] H := hP.sub [3, 4, 0, 1, 2] rfl
    have hD : va_D A [(x, .inr (3, [.ref ss])), (ss, .inl (ca 2, 2, .inr (.inr (.inr (.inr fs))))), (h, .inr (2, [.ref ln, .ref pe, .ref ou, .ref cs, .int (nI lk), .int (nI sn), .int (nI ac), .int (nI ex), .int (nI tr), .int (nI rj)])), (ln, .inr (0, [.ref lna, .int (nI Ln.2)])), (lna, .inl (ca 0, 12, .inl (fun j => nI (Ln.1 j))))] := hD.sub [3, 4, 0, 1, 2] rfl rfl
    exact Co.reti hx hb hret hlk dCl_frame_24 hS hP hD () rfl trivial rfl (Nat.le_of_ble_eq_true rfl) (Nat.le_of_ble_eq_true rfl)
set_option maxHeartbeats 4000000 in
set_option maxRecDepth 100000 in
theorem c_Cl_peek (l : Launch) (D : va_G) (ca : Nat → ClassId) (x ss : Nat) (fs : Nat → Option Nat) (s₀ : Nat) (hs0 : s₀ < 2) (h ln pe ou cs lk sn ac ex tr rj : Nat) (fc : Nat → Option Nat) (q d da y st nx pa du ta : Nat) (r : Rw_) (cn : Nat) (hcn : cn < 3) (hq : fc cn = some q) (hfs : fs s₀ = some h) (hr : r.2 ≤ 2) (h0 : 0 < r.2) : Co (S := Unit) l yCl_peek (Cond.code yCl_peek cCl_peek 4 (some FieldType.int) :: tb_) { frames := 3, cells := 0, slots := 0, locals := 96 } D ca [.ref x, .int (nI s₀), .int (nI cn)] [(x, .inr (3, [.ref ss])), (ss, .inl (ca 2, 2, .inr (.inr (.inr (.inr fs))))), (h, .inr (2, [.ref ln, .ref pe, .ref ou, .ref cs, .int (nI lk), .int (nI sn), .int (nI ac), .int (nI ex), .int (nI tr), .int (nI rj)])), (cs, .inl (ca 3, 3, .inr (.inr (.inr (.inr fc))))), (q, .inr (1, [.int (nI y), .ref d, .int (nI st), .int (nI nx), .int (nI pa), .int (nI du), .int (nI ta)])), (d, .inr (0, [.ref da, .int (nI r.2)])), (da, .inl (ca 0, 2, .inl (fun j => nI (r.1 j))))] (fun _ => some (.int (nI (r.1 0)))) (fun _ => True) (fun _ => [(x, .inr (3, [.ref ss])), (ss, .inl (ca 2, 2, .inr (.inr (.inr (.inr fs))))), (h, .inr (2, [.ref ln, .ref pe, .ref ou, .ref cs, .int (nI lk), .int (nI sn), .int (nI ac), .int (nI ex), .int (nI tr), .int (nI rj)])), (cs, .inl (ca 3, 3, .inr (.inr (.inr (.inr fc))))), (q, .inr (1, [.int (nI y), .ref d, .int (nI st), .int (nI nx), .int (nI pa), .int (nI du), .int (nI ta)])), (d, .inr (0, [.ref da, .int (nI r.2)])), (da, .inl (ca 0, 2, .inl (fun j => nI (r.1 j))))]) 0 0 := by
  refine Co.of cCl_peek 4 (some FieldType.int) (by decide) (Nat.le_of_ble_eq_true rfl) ?_
  intro p e s m args below meth c A ls fx hret hlk hin hE hP hD hS hA hl
  have hx := fx.1
  have hb := fx.2.1
  have hown : s.vm.findClass RCl = some m.cls := fx.2.2.2.1
  have hts := fx.2.2.2.2
  have ht : ∀ w ∈ tb_, w.before args s = true := fun w h => hts w (List.mem_cons_of_mem _ h)
  have hl : lv_has ls 4 [(0, .ref x), (1, .int (nI s₀)), (2, .int (nI cn))] := hl
  refine lv_aload_n hx hb dCl_peek_0 rfl (lv_at hl 0 rfl) ?_
  refine lv_iload_n hx hb dCl_peek_1 rfl (lv_at hl 1 rfl) ?_
  refine kA (rV fx (c_Cl_stationAt l D ca x ss fs s₀ hs0 h hfs) ⟨callB_of 1 hts (tb_gi tw_143) rfl rfl rfl (ht _ tw_1) (ht _ tw_140) (by decide +kernel) ⟨(Nat.le_of_ble_eq_true rfl), (Nat.le_of_ble_eq_true rfl)⟩, ht _ tw_142, ht _ tw_826⟩ hE hP hD 0 rfl rfl rfl [0, 1] rfl rfl rfl hl.1 rfl (Nat.le_of_ble_eq_true rfl) dCl_peek_2 ⟨(Nat.le_of_ble_eq_true rfl), (Nat.le_of_ble_eq_true rfl)⟩) hP hD hS hA [0, 1] [2, 3, 4, 5, 6] rfl rfl rfl (by decide) (fun _ H locs _ hP hD hS => ?_)
  have hP : va_P D cls_ [(h, .inr (2, [.ref ln, .ref pe, .ref ou, .ref cs, .int (nI lk), .int (nI sn), .int (nI ac), .int (nI ex), .int (nI tr), .int (nI rj)])), (cs, .inl (ca 3, 3, .inr (.inr (.inr (.inr fc))))), (q, .inr (1, [.int (nI y), .ref d, .int (nI st), .int (nI nx), .int (nI pa), .int (nI du), .int (nI ta)])), (d, .inr (0, [.ref da, .int (nI r.2)])), (da, .inl (ca 0, 2, .inl (fun j => nI (r.1 j)))), (x, .inr (3, [.ref ss])), (ss, .inl (ca 2, 2, .inr (.inr (.inr (.inr fs)))))] H := hP
  have hD : va_D A [(h, .inr (2, [.ref ln, .ref pe, .ref ou, .ref cs, .int (nI lk), .int (nI sn), .int (nI ac), .int (nI ex), .int (nI tr), .int (nI rj)])), (cs, .inl (ca 3, 3, .inr (.inr (.inr (.inr fc))))), (q, .inr (1, [.int (nI y), .ref d, .int (nI st), .int (nI nx), .int (nI pa), .int (nI du), .int (nI ta)])), (d, .inr (0, [.ref da, .int (nI r.2)])), (da, .inl (ca 0, 2, .inl (fun j => nI (r.1 j)))), (x, .inr (3, [.ref ss])), (ss, .inl (ca 2, 2, .inr (.inr (.inr (.inr fs)))))] := hD
  refine lv_iload_n hx hb dCl_peek_5 rfl (lv_at hl 2 rfl) ?_
  refine kA (rS fx (c_Cl_channelAt l D ca h ln pe ou cs lk sn ac ex tr rj fc cn q (by omega) hq) ⟨callB_of 2 hts (tb_gi tw_474) rfl rfl rfl (ht _ tw_1) (ht _ tw_472) (by decide +kernel) ⟨(Nat.le_of_ble_eq_true rfl), (Nat.le_of_ble_eq_true rfl)⟩, ht _ tw_473⟩ hE hP hD [0, 1] rfl rfl rfl hl.1 rfl (Nat.le_of_ble_eq_true rfl) dCl_peek_6 ⟨(Nat.le_of_ble_eq_true rfl), (Nat.le_of_ble_eq_true rfl)⟩) hP hD hS hA [0, 1] [2, 3, 4, 5, 6] rfl rfl rfl (by decide) (fun _ H locs _ hP hD hS => ?_)
  have hP : va_P D cls_ [(q, .inr (1, [.int (nI y), .ref d, .int (nI st), .int (nI nx), .int (nI pa), .int (nI du), .int (nI ta)])), (d, .inr (0, [.ref da, .int (nI r.2)])), (da, .inl (ca 0, 2, .inl (fun j => nI (r.1 j)))), (x, .inr (3, [.ref ss])), (ss, .inl (ca 2, 2, .inr (.inr (.inr (.inr fs))))), (h, .inr (2, [.ref ln, .ref pe, .ref ou, .ref cs, .int (nI lk), .int (nI sn), .int (nI ac), .int (nI ex), .int (nI tr), .int (nI rj)])), (cs, .inl (ca 3, 3, .inr (.inr (.inr (.inr fc)))))] H := hP
  have hD : va_D A [(q, .inr (1, [.int (nI y), .ref d, .int (nI st), .int (nI nx), .int (nI pa), .int (nI du), .int (nI ta)])), (d, .inr (0, [.ref da, .int (nI r.2)])), (da, .inl (ca 0, 2, .inl (fun j => nI (r.1 j)))), (x, .inr (3, [.ref ss])), (ss, .inl (ca 2, 2, .inr (.inr (.inr (.inr fs))))), (h, .inr (2, [.ref ln, .ref pe, .ref ou, .ref cs, .int (nI lk), .int (nI sn), .int (nI ac), .int (nI ex), .int (nI tr), .int (nI rj)])), (cs, .inl (ca 3, 3, .inr (.inr (.inr (.inr fc)))))] := hD
  refine va_getN (D := D) (ci := 1) (v := .ref d) (host := "ChannelledLink") (C := RCh) (T := TCh) (N := 7) hx hb ht inCh hown hE.1 hP 0 rfl rfl 1 (by decide) (hE.nestU tw_62 rfl) (fun _ h => h) rfl dCl_peek_9 ?_
  refine lv_astore_n hx hb dCl_peek_12 rfl hl (by decide) rfl (fun ls hl => ?_)
  have hl : lv_has ls 4 [(3, .ref d), (0, .ref x), (1, .int (nI s₀)), (2, .int (nI cn))] := hl
  refine lv_aload_n hx hb dCl_peek_13 rfl (lv_at hl 0 rfl) ?_
  refine va_getN (D := D) (ci := 0) (v := .int (nI r.2)) (host := "ChannelledLink") (C := RRw) (T := TRw) (N := 2) hx hb ht inRw hown hE.1 hP 1 rfl rfl 1 (by decide) (hE.nestU tw_35 rfl) (fun _ h => h) rfl dCl_peek_14 ?_
  refine k_if_ne (tgt := 24) hx hb (by omega) dCl_peek_17 rfl (fun h17 => ?_) (fun hz => absurd hz (by omega))
  refine lv_aload_n hx hb dCl_peek_24 rfl (lv_at hl 0 rfl) ?_
  refine lv_iconst (v := nI 0) hx hb dCl_peek_25 (by decide) ?_
  refine kI (rV fx (c_Rw_at l D ca d da 2 r 0 (by decide) (by first | assumption | exact rAdd_le (by assumption) | omega) (by first | assumption | exact rAdd_le (by assumption) | omega)) ⟨callB_of 1 hts (tb_gi tw_286) rfl rfl rfl (ht _ tw_2) (ht _ tw_320) (by decide +kernel) ⟨(Nat.le_of_ble_eq_true rfl), (Nat.le_of_ble_eq_true rfl)⟩, ht _ tw_284, ht _ tw_285⟩ hE hP hD 1 rfl rfl rfl [1, 2] rfl rfl rfl hl.1 rfl (Nat.le_of_ble_eq_true rfl) dCl_peek_26 ⟨(Nat.le_of_ble_eq_true rfl), (Nat.le_of_ble_eq_true rfl)⟩) hP hD hS hA [1, 2] [0, 3, 4, 5, 6] rfl rfl rfl (by decide) (fun _ H locs _ hP hD hS => ?_)
  have hP : va_P D cls_ [(q, .inr (1, [.int (nI y), .ref d, .int (nI st), .int (nI nx), .int (nI pa), .int (nI du), .int (nI ta)])), (x, .inr (3, [.ref ss])), (ss, .inl (ca 2, 2, .inr (.inr (.inr (.inr fs))))), (h, .inr (2, [.ref ln, .ref pe, .ref ou, .ref cs, .int (nI lk), .int (nI sn), .int (nI ac), .int (nI ex), .int (nI tr), .int (nI rj)])), (cs, .inl (ca 3, 3, .inr (.inr (.inr (.inr fc))))), (d, .inr (0, [.ref da, .int (nI r.2)])), (da, .inl (ca 0, 2, .inl (fun j => nI (r.1 j))))] H := hP
  have hD : va_D A [(q, .inr (1, [.int (nI y), .ref d, .int (nI st), .int (nI nx), .int (nI pa), .int (nI du), .int (nI ta)])), (x, .inr (3, [.ref ss])), (ss, .inl (ca 2, 2, .inr (.inr (.inr (.inr fs))))), (h, .inr (2, [.ref ln, .ref pe, .ref ou, .ref cs, .int (nI lk), .int (nI sn), .int (nI ac), .int (nI ex), .int (nI tr), .int (nI rj)])), (cs, .inl (ca 3, 3, .inr (.inr (.inr (.inr fc))))), (d, .inr (0, [.ref da, .int (nI r.2)])), (da, .inl (ca 0, 2, .inl (fun j => nI (r.1 j))))] := hD
  have hP : va_P D cls_ [(x, .inr (3, [.ref ss])), (ss, .inl (ca 2, 2, .inr (.inr (.inr (.inr fs))))), (h, .inr (2, [.ref ln, .ref pe, .ref ou, .ref cs, .int (nI lk), .int (nI sn), .int (nI ac), .int (nI ex), .int (nI tr), .int (nI rj)])), (cs, .inl (ca 3, 3, .inr (.inr (.inr (.inr fc))))), (q, .inr (1, [.int (nI y), .ref d, .int (nI st), .int (nI nx), .int (nI pa), .int (nI du), .int (nI ta)])), (d, .inr (0, [.ref da, .int (nI r.2)])), (da, .inl (ca 0, 2, .inl (fun j => nI (r.1 j))))] H := hP.sub [1, 2, 3, 4, 0, 5, 6] rfl
  have hD : va_D A [(x, .inr (3, [.ref ss])), (ss, .inl (ca 2, 2, .inr (.inr (.inr (.inr fs))))), (h, .inr (2, [.ref ln, .ref pe, .ref ou, .ref cs, .int (nI lk), .int (nI sn), .int (nI ac), .int (nI ex), .int (nI tr), .int (nI rj)])), (cs, .inl (ca 3, 3, .inr (.inr (.inr (.inr fc))))), (q, .inr (1, [.int (nI y), .ref d, .int (nI st), .int (nI nx), .int (nI pa), .int (nI du), .int (nI ta)])), (d, .inr (0, [.ref da, .int (nI r.2)])), (da, .inl (ca 0, 2, .inl (fun j => nI (r.1 j))))] := hD.sub [1, 2, 3, 4, 0, 5, 6] rfl rfl
  exact Co.reti hx hb hret hlk dCl_peek_29 hS hP hD () rfl trivial rfl (Nat.le_of_ble_eq_true rfl) (Nat.le_of_ble_eq_true rfl)
set_option maxHeartbeats 4000000 in
set_option maxRecDepth 100000 in
theorem c_Cl_peekN (l : Launch) (D : va_G) (ca : Nat → ClassId) (x ss : Nat) (fs : Nat → Option Nat) (s₀ : Nat) (hs0 : s₀ < 2) (h ln pe ou cs lk sn ac ex tr rj : Nat) (fc : Nat → Option Nat) (q d da y st nx pa du ta : Nat) (r : Rw_) (cn : Nat) (hcn : cn < 3) (hq : fc cn = some q) (hfs : fs s₀ = some h) (h0 : r.2 = 0) : Co (S := Unit) l yCl_peek (Cond.code yCl_peek cCl_peek 4 (some FieldType.int) :: tb_) { frames := 3, cells := 0, slots := 0, locals := 96 } D ca [.ref x, .int (nI s₀), .int (nI cn)] [(x, .inr (3, [.ref ss])), (ss, .inl (ca 2, 2, .inr (.inr (.inr (.inr fs))))), (h, .inr (2, [.ref ln, .ref pe, .ref ou, .ref cs, .int (nI lk), .int (nI sn), .int (nI ac), .int (nI ex), .int (nI tr), .int (nI rj)])), (cs, .inl (ca 3, 3, .inr (.inr (.inr (.inr fc))))), (q, .inr (1, [.int (nI y), .ref d, .int (nI st), .int (nI nx), .int (nI pa), .int (nI du), .int (nI ta)])), (d, .inr (0, [.ref da, .int (nI r.2)])), (da, .inl (ca 0, 2, .inl (fun j => nI (r.1 j))))] (fun _ => some (.int (-1))) (fun _ => True) (fun _ => [(x, .inr (3, [.ref ss])), (ss, .inl (ca 2, 2, .inr (.inr (.inr (.inr fs))))), (h, .inr (2, [.ref ln, .ref pe, .ref ou, .ref cs, .int (nI lk), .int (nI sn), .int (nI ac), .int (nI ex), .int (nI tr), .int (nI rj)])), (cs, .inl (ca 3, 3, .inr (.inr (.inr (.inr fc))))), (q, .inr (1, [.int (nI y), .ref d, .int (nI st), .int (nI nx), .int (nI pa), .int (nI du), .int (nI ta)])), (d, .inr (0, [.ref da, .int (nI r.2)])), (da, .inl (ca 0, 2, .inl (fun j => nI (r.1 j))))]) 0 0 := by
  refine Co.of cCl_peek 4 (some FieldType.int) (by decide) (Nat.le_of_ble_eq_true rfl) ?_
  intro p e s m args below meth c A ls fx hret hlk hin hE hP hD hS hA hl
  have hx := fx.1
  have hb := fx.2.1
  have hown : s.vm.findClass RCl = some m.cls := fx.2.2.2.1
  have hts := fx.2.2.2.2
  have ht : ∀ w ∈ tb_, w.before args s = true := fun w h => hts w (List.mem_cons_of_mem _ h)
  have hl : lv_has ls 4 [(0, .ref x), (1, .int (nI s₀)), (2, .int (nI cn))] := hl
  refine lv_aload_n hx hb dCl_peek_0 rfl (lv_at hl 0 rfl) ?_
  refine lv_iload_n hx hb dCl_peek_1 rfl (lv_at hl 1 rfl) ?_
  refine kA (rV fx (c_Cl_stationAt l D ca x ss fs s₀ hs0 h hfs) ⟨callB_of 1 hts (tb_gi tw_143) rfl rfl rfl (ht _ tw_1) (ht _ tw_140) (by decide +kernel) ⟨(Nat.le_of_ble_eq_true rfl), (Nat.le_of_ble_eq_true rfl)⟩, ht _ tw_142, ht _ tw_826⟩ hE hP hD 0 rfl rfl rfl [0, 1] rfl rfl rfl hl.1 rfl (Nat.le_of_ble_eq_true rfl) dCl_peek_2 ⟨(Nat.le_of_ble_eq_true rfl), (Nat.le_of_ble_eq_true rfl)⟩) hP hD hS hA [0, 1] [2, 3, 4, 5, 6] rfl rfl rfl (by decide) (fun _ H locs _ hP hD hS => ?_)
  have hP : va_P D cls_ [(h, .inr (2, [.ref ln, .ref pe, .ref ou, .ref cs, .int (nI lk), .int (nI sn), .int (nI ac), .int (nI ex), .int (nI tr), .int (nI rj)])), (cs, .inl (ca 3, 3, .inr (.inr (.inr (.inr fc))))), (q, .inr (1, [.int (nI y), .ref d, .int (nI st), .int (nI nx), .int (nI pa), .int (nI du), .int (nI ta)])), (d, .inr (0, [.ref da, .int (nI r.2)])), (da, .inl (ca 0, 2, .inl (fun j => nI (r.1 j)))), (x, .inr (3, [.ref ss])), (ss, .inl (ca 2, 2, .inr (.inr (.inr (.inr fs)))))] H := hP
  have hD : va_D A [(h, .inr (2, [.ref ln, .ref pe, .ref ou, .ref cs, .int (nI lk), .int (nI sn), .int (nI ac), .int (nI ex), .int (nI tr), .int (nI rj)])), (cs, .inl (ca 3, 3, .inr (.inr (.inr (.inr fc))))), (q, .inr (1, [.int (nI y), .ref d, .int (nI st), .int (nI nx), .int (nI pa), .int (nI du), .int (nI ta)])), (d, .inr (0, [.ref da, .int (nI r.2)])), (da, .inl (ca 0, 2, .inl (fun j => nI (r.1 j)))), (x, .inr (3, [.ref ss])), (ss, .inl (ca 2, 2, .inr (.inr (.inr (.inr fs)))))] := hD
  refine lv_iload_n hx hb dCl_peek_5 rfl (lv_at hl 2 rfl) ?_
  refine kA (rS fx (c_Cl_channelAt l D ca h ln pe ou cs lk sn ac ex tr rj fc cn q (by omega) hq) ⟨callB_of 2 hts (tb_gi tw_474) rfl rfl rfl (ht _ tw_1) (ht _ tw_472) (by decide +kernel) ⟨(Nat.le_of_ble_eq_true rfl), (Nat.le_of_ble_eq_true rfl)⟩, ht _ tw_473⟩ hE hP hD [0, 1] rfl rfl rfl hl.1 rfl (Nat.le_of_ble_eq_true rfl) dCl_peek_6 ⟨(Nat.le_of_ble_eq_true rfl), (Nat.le_of_ble_eq_true rfl)⟩) hP hD hS hA [0, 1] [2, 3, 4, 5, 6] rfl rfl rfl (by decide) (fun _ H locs _ hP hD hS => ?_)
  have hP : va_P D cls_ [(q, .inr (1, [.int (nI y), .ref d, .int (nI st), .int (nI nx), .int (nI pa), .int (nI du), .int (nI ta)])), (d, .inr (0, [.ref da, .int (nI r.2)])), (da, .inl (ca 0, 2, .inl (fun j => nI (r.1 j)))), (x, .inr (3, [.ref ss])), (ss, .inl (ca 2, 2, .inr (.inr (.inr (.inr fs))))), (h, .inr (2, [.ref ln, .ref pe, .ref ou, .ref cs, .int (nI lk), .int (nI sn), .int (nI ac), .int (nI ex), .int (nI tr), .int (nI rj)])), (cs, .inl (ca 3, 3, .inr (.inr (.inr (.inr fc)))))] H := hP
  have hD : va_D A [(q, .inr (1, [.int (nI y), .ref d, .int (nI st), .int (nI nx), .int (nI pa), .int (nI du), .int (nI ta)])), (d, .inr (0, [.ref da, .int (nI r.2)])), (da, .inl (ca 0, 2, .inl (fun j => nI (r.1 j)))), (x, .inr (3, [.ref ss])), (ss, .inl (ca 2, 2, .inr (.inr (.inr (.inr fs))))), (h, .inr (2, [.ref ln, .ref pe, .ref ou, .ref cs, .int (nI lk), .int (nI sn), .int (nI ac), .int (nI ex), .int (nI tr), .int (nI rj)])), (cs, .inl (ca 3, 3, .inr (.inr (.inr (.inr fc)))))] := hD
  refine va_getN (D := D) (ci := 1) (v := .ref d) (host := "ChannelledLink") (C := RCh) (T := TCh) (N := 7) hx hb ht inCh hown hE.1 hP 0 rfl rfl 1 (by decide) (hE.nestU tw_62 rfl) (fun _ h => h) rfl dCl_peek_9 ?_
  refine lv_astore_n hx hb dCl_peek_12 rfl hl (by decide) rfl (fun ls hl => ?_)
  have hl : lv_has ls 4 [(3, .ref d), (0, .ref x), (1, .int (nI s₀)), (2, .int (nI cn))] := hl
  refine lv_aload_n hx hb dCl_peek_13 rfl (lv_at hl 0 rfl) ?_
  refine va_getN (D := D) (ci := 0) (v := .int (nI r.2)) (host := "ChannelledLink") (C := RRw) (T := TRw) (N := 2) hx hb ht inRw hown hE.1 hP 1 rfl rfl 1 (by decide) (hE.nestU tw_35 rfl) (fun _ h => h) rfl dCl_peek_14 ?_
  refine k_if_ne (tgt := 24) hx hb (by omega) dCl_peek_17 rfl (fun hz => absurd hz (by omega)) (fun h17 => ?_)
  refine lv_iconst (v := (-1)) hx hb dCl_peek_20 (by decide) ?_
  refine lv_goto (tgt := 29) hx hb dCl_peek_21 rfl ?_
  have hP : va_P D cls_ [(x, .inr (3, [.ref ss])), (ss, .inl (ca 2, 2, .inr (.inr (.inr (.inr fs))))), (h, .inr (2, [.ref ln, .ref pe, .ref ou, .ref cs, .int (nI lk), .int (nI sn), .int (nI ac), .int (nI ex), .int (nI tr), .int (nI rj)])), (cs, .inl (ca 3, 3, .inr (.inr (.inr (.inr fc))))), (q, .inr (1, [.int (nI y), .ref d, .int (nI st), .int (nI nx), .int (nI pa), .int (nI du), .int (nI ta)])), (d, .inr (0, [.ref da, .int (nI r.2)])), (da, .inl (ca 0, 2, .inl (fun j => nI (r.1 j))))] H := hP.sub [3, 4, 5, 6, 0, 1, 2] rfl
  have hD : va_D A [(x, .inr (3, [.ref ss])), (ss, .inl (ca 2, 2, .inr (.inr (.inr (.inr fs))))), (h, .inr (2, [.ref ln, .ref pe, .ref ou, .ref cs, .int (nI lk), .int (nI sn), .int (nI ac), .int (nI ex), .int (nI tr), .int (nI rj)])), (cs, .inl (ca 3, 3, .inr (.inr (.inr (.inr fc))))), (q, .inr (1, [.int (nI y), .ref d, .int (nI st), .int (nI nx), .int (nI pa), .int (nI du), .int (nI ta)])), (d, .inr (0, [.ref da, .int (nI r.2)])), (da, .inl (ca 0, 2, .inl (fun j => nI (r.1 j))))] := hD.sub [3, 4, 5, 6, 0, 1, 2] rfl rfl
  exact Co.reti hx hb hret hlk dCl_peek_29 hS hP hD () rfl trivial rfl (Nat.le_of_ble_eq_true rfl) (Nat.le_of_ble_eq_true rfl)
set_option maxHeartbeats 4000000 in
set_option maxRecDepth 100000 in
theorem c_Cl_isNumberX (l : Launch) (D : va_G) (ca : Nat → ClassId) (n₁ : Int32) (hn1 : n₁ < 0 ∨ nI 7 < n₁) : Co (S := Unit) l yCl_isNumber (Cond.code yCl_isNumber cCl_isNumber 1 (some FieldType.boolean) :: tb_) { frames := 0, cells := 0, slots := 0, locals := 0 } D ca [.int n₁] [] (fun _ => some (.int (nI 0))) (fun _ => True) (fun _ => []) 0 0 := by
  refine Co.of cCl_isNumber 1 (some FieldType.boolean) (by decide) (Nat.le_of_ble_eq_true rfl) ?_
  intro p e s m args below meth c A ls fx hret hlk hin hE hP hD hS hA hl
  have hx := fx.1
  have hb := fx.2.1
  have hown : s.vm.findClass RCl = some m.cls := fx.2.2.2.1
  have hts := fx.2.2.2.2
  have ht : ∀ w ∈ tb_, w.before args s = true := fun w h => hts w (List.mem_cons_of_mem _ h)
  have hl : lv_has ls 1 [(0, .int n₁)] := hl
  refine lv_iload_n hx hb dCl_isNumber_0 rfl (lv_at hl 0 rfl) ?_
  refine lv_if_lt (tgt := 14) hx hb dCl_isNumber_1 rfl (fun h1 => ?_) (fun h1 => ?_)
  · refine lv_iconst (v := nI 0) hx hb dCl_isNumber_14 (by decide) ?_
    exact Co.retz hx hb hret hlk (by first | rfl | decide) dCl_isNumber_15 hS hP hD () rfl trivial rfl (Nat.le_of_ble_eq_true rfl) (Nat.le_of_ble_eq_true rfl)
  · refine lv_iload_n hx hb dCl_isNumber_4 rfl (lv_at hl 0 rfl) ?_
    refine lv_bipush (v := nI 7) hx hb dCl_isNumber_5 (by decide) ?_
    refine lv_icmp_gt (tgt := 14) hx hb dCl_isNumber_7 rfl (fun h7 => ?_) (fun hz => absurd (hn1.resolve_left h1) hz)
    refine lv_iconst (v := nI 0) hx hb dCl_isNumber_14 (by decide) ?_
    exact Co.retz hx hb hret hlk (by first | rfl | decide) dCl_isNumber_15 hS hP hD () rfl trivial rfl (Nat.le_of_ble_eq_true rfl) (Nat.le_of_ble_eq_true rfl)
set_option maxHeartbeats 4000000 in
set_option maxRecDepth 100000 in
theorem c_Mo_link (l : Launch) (D : va_G) (ca : Nat → ClassId) (h : Nat) (ad : Nat → Nat) (co : Nat) (M : Nat → Nat → Nat) (s₀ : Nat) (hM : mOk M) (hs : s₀ < 2) (w₀ : Nat) (hw0 : w₀ < 8) : Co (S := Unit) l yMo_link (Cond.code yMo_link cMo_link 3 (some FieldType.int) :: tb_) { frames := 1, cells := 0, slots := 0, locals := 32 } D ca [.ref h, .int (nI s₀), .int (nI w₀)] (mW h ad ca co M) (fun _ => some (.int (nI (sel8 w₀ (M 10 s₀) (M 11 s₀) (M 12 s₀) (M 13 s₀) (M 14 s₀) (M 15 s₀) (M 17 s₀) (M 1 s₀))))) (fun _ => True) (fun _ => (mW h ad ca 0 M)) 0 0 := by
  refine Co.of cMo_link 3 (some FieldType.int) (by decide) (Nat.le_of_ble_eq_true rfl) ?_
  intro p e s m args below meth c A ls fx hret hlk hin hE hP hD hS hA hl
  have hx := fx.1
  have hb := fx.2.1
  have hown : s.vm.findClass RMo = some m.cls := fx.2.2.2.1
  have hts := fx.2.2.2.2
  have ht : ∀ w ∈ tb_, w.before args s = true := fun w h => hts w (List.mem_cons_of_mem _ h)
  have b1 : M 15 s₀ < 2 := hM 15 _
  have hl : lv_has ls 3 [(0, .ref h), (1, .int (nI s₀)), (2, .int (nI w₀))] := hl
  refine lv_aload_n hx hb dMo_link_0 rfl (lv_at hl 0 rfl) ?_
  refine lv_iload_n hx hb dMo_link_1 rfl (lv_at hl 1 rfl) ?_
  refine kI (rS fx (c_Mo_station l D ca s₀ (by omega)) ⟨callB_of 1 hts (tb_gi tw_686) rfl rfl rfl (ht _ tw_5) (ht _ tw_684) (by decide +kernel) ⟨(Nat.le_of_ble_eq_true rfl), (Nat.le_of_ble_eq_true rfl)⟩, ht _ tw_685⟩ hE hP hD [] rfl rfl rfl hl.1 rfl (Nat.le_of_ble_eq_true rfl) dMo_link_2 ⟨(Nat.le_of_ble_eq_true rfl), (Nat.le_of_ble_eq_true rfl)⟩) hP hD hS hA [] [0, 1, 2, 3, 4, 5, 6, 7, 8, 9, 10, 11, 12, 13, 14, 15, 16, 17, 18, 19, 20, 21, 22, 23, 24, 25, 26, 27, 28] rfl rfl rfl (by decide) (fun _ H locs _ hP hD hS => ?_)
  have hP : va_P D cls_ (mW h ad ca co M) H := hP
  have hD : va_D A (mW h ad ca co M) := hD
  refine k_if_eq (tgt := 12) hx hb (by omega) dMo_link_5 rfl (fun hz => absurd hz (by omega)) (fun h5 => ?_)
  refine lv_iconst (v := nI 0) hx hb dMo_link_8 (by decide) ?_
  refine lv_goto (tgt := 13) hx hb dMo_link_9 rfl ?_
  refine va_put (D := D) (ci := 4) (v := .int (nI 0)) (ty := .int) (C := RMo) (T := TMo) (N := 29) hx hb ht inMo tyMo tyMo_ok nmMo hown hE.1 hP hD hS 0 rfl rfl 0 (by decide) (ht _ tw_587) (fun _ h => h) rfl (by decide +kernel) rfl rfl (Nat.le_of_ble_eq_true rfl) dMo_link_13 (fun H locs hP hD hS => ?_)
  have hP : va_P D cls_ (mW h ad ca 0 M) H := hP
  have hD : va_D A (mW h ad ca 0 M) := hD
  refine lv_aload_n hx hb dMo_link_16 rfl (lv_at hl 0 rfl) ?_
  refine va_get (D := D) (ci := 4) (v := .int (nI 0)) (C := RMo) (T := TMo) (N := 29) hx hb ht inMo hown hE.1 hP 0 rfl rfl 0 (by decide) (ht _ tw_587) (fun _ h => h) rfl dMo_link_17 ?_
  refine k_if_le (tgt := 25) hx hb (by omega) dMo_link_20 rfl (fun h20 => ?_) (fun hz => absurd hz (by omega))
  refine lv_iload_n hx hb dMo_link_25 rfl (lv_at hl 2 rfl) ?_
  rcases (show w₀ = 0 ∨ w₀ = 1 ∨ w₀ = 2 ∨ w₀ = 3 ∨ w₀ = 4 ∨ w₀ = 5 ∨ w₀ = 6 ∨ w₀ = 7 ∨ (w₀ < 0 ∨ 7 < w₀) by omega) with h26 | h26 | h26 | h26 | h26 | h26 | h26 | h26 | h26
  · refine k_tab (tgt := 72) hx hb 0 h26 dMo_link_26 (by decide) (by decide) rfl rfl ?_
    refine lv_aload_n hx hb dMo_link_72 rfl (lv_at hl 0 rfl) ?_
    refine va_get (D := D) (ci := 4) (v := .ref (ad 10)) (C := RMo) (T := TMo) (N := 29) hx hb ht inMo hown hE.1 hP 0 rfl rfl 10 (by decide) (ht _ tw_597) (fun _ h => h) rfl dMo_link_73 ?_
    refine lv_iload_n hx hb dMo_link_76 rfl (lv_at hl 1 rfl) ?_
    refine k_iald hx hb hE.1 hP 10 0 (n := 2) (g := (M 10)) rfl rfl (i := s₀) (by omega) (by decide) dMo_link_77 ?_
    exact Co.reti hx hb hret hlk dMo_link_78 hS hP hD () (by rw [sel8, if_pos (by omega)]) trivial rfl (Nat.le_of_ble_eq_true rfl) (Nat.le_of_ble_eq_true rfl)
  · refine k_tab (tgt := 79) hx hb 1 h26 dMo_link_26 (by decide) (by decide) rfl rfl ?_
    refine lv_aload_n hx hb dMo_link_79 rfl (lv_at hl 0 rfl) ?_
    refine va_get (D := D) (ci := 4) (v := .ref (ad 11)) (C := RMo) (T := TMo) (N := 29) hx hb ht inMo hown hE.1 hP 0 rfl rfl 11 (by decide) (ht _ tw_598) (fun _ h => h) rfl dMo_link_80 ?_
    refine lv_iload_n hx hb dMo_link_83 rfl (lv_at hl 1 rfl) ?_
    refine k_iald hx hb hE.1 hP 11 0 (n := 2) (g := (M 11)) rfl rfl (i := s₀) (by omega) (by decide) dMo_link_84 ?_
    exact Co.reti hx hb hret hlk dMo_link_85 hS hP hD () (by rw [sel8, if_neg (by omega), if_pos (by omega)]) trivial rfl (Nat.le_of_ble_eq_true rfl) (Nat.le_of_ble_eq_true rfl)
  · refine k_tab (tgt := 86) hx hb 2 h26 dMo_link_26 (by decide) (by decide) rfl rfl ?_
    refine lv_aload_n hx hb dMo_link_86 rfl (lv_at hl 0 rfl) ?_
    refine va_get (D := D) (ci := 4) (v := .ref (ad 12)) (C := RMo) (T := TMo) (N := 29) hx hb ht inMo hown hE.1 hP 0 rfl rfl 12 (by decide) (ht _ tw_599) (fun _ h => h) rfl dMo_link_87 ?_
    refine lv_iload_n hx hb dMo_link_90 rfl (lv_at hl 1 rfl) ?_
    refine k_iald hx hb hE.1 hP 12 0 (n := 2) (g := (M 12)) rfl rfl (i := s₀) (by omega) (by decide) dMo_link_91 ?_
    exact Co.reti hx hb hret hlk dMo_link_92 hS hP hD () (by rw [sel8, if_neg (by omega), if_neg (by omega), if_pos (by omega)]) trivial rfl (Nat.le_of_ble_eq_true rfl) (Nat.le_of_ble_eq_true rfl)
  · refine k_tab (tgt := 93) hx hb 3 h26 dMo_link_26 (by decide) (by decide) rfl rfl ?_
    refine lv_aload_n hx hb dMo_link_93 rfl (lv_at hl 0 rfl) ?_
    refine va_get (D := D) (ci := 4) (v := .ref (ad 13)) (C := RMo) (T := TMo) (N := 29) hx hb ht inMo hown hE.1 hP 0 rfl rfl 13 (by decide) (ht _ tw_600) (fun _ h => h) rfl dMo_link_94 ?_
    refine lv_iload_n hx hb dMo_link_97 rfl (lv_at hl 1 rfl) ?_
    refine k_iald hx hb hE.1 hP 13 0 (n := 2) (g := (M 13)) rfl rfl (i := s₀) (by omega) (by decide) dMo_link_98 ?_
    exact Co.reti hx hb hret hlk dMo_link_99 hS hP hD () (by rw [sel8, if_neg (by omega), if_neg (by omega), if_neg (by omega), if_pos (by omega)]) trivial rfl (Nat.le_of_ble_eq_true rfl) (Nat.le_of_ble_eq_true rfl)
  · refine k_tab (tgt := 100) hx hb 4 h26 dMo_link_26 (by decide) (by decide) rfl rfl ?_
    refine lv_aload_n hx hb dMo_link_100 rfl (lv_at hl 0 rfl) ?_
    refine va_get (D := D) (ci := 4) (v := .ref (ad 14)) (C := RMo) (T := TMo) (N := 29) hx hb ht inMo hown hE.1 hP 0 rfl rfl 14 (by decide) (ht _ tw_601) (fun _ h => h) rfl dMo_link_101 ?_
    refine lv_iload_n hx hb dMo_link_104 rfl (lv_at hl 1 rfl) ?_
    refine k_iald hx hb hE.1 hP 14 0 (n := 2) (g := (M 14)) rfl rfl (i := s₀) (by omega) (by decide) dMo_link_105 ?_
    exact Co.reti hx hb hret hlk dMo_link_106 hS hP hD () (by rw [sel8, if_neg (by omega), if_neg (by omega), if_neg (by omega), if_neg (by omega), if_pos (by omega)]) trivial rfl (Nat.le_of_ble_eq_true rfl) (Nat.le_of_ble_eq_true rfl)
  · refine k_tab (tgt := 107) hx hb 5 h26 dMo_link_26 (by decide) (by decide) rfl rfl ?_
    refine lv_aload_n hx hb dMo_link_107 rfl (lv_at hl 0 rfl) ?_
    refine va_get (D := D) (ci := 4) (v := .ref (ad 15)) (C := RMo) (T := TMo) (N := 29) hx hb ht inMo hown hE.1 hP 0 rfl rfl 15 (by decide) (ht _ tw_602) (fun _ h => h) rfl dMo_link_108 ?_
    refine lv_iload_n hx hb dMo_link_111 rfl (lv_at hl 1 rfl) ?_
    refine k_zald hx hb hE.1 hP 15 1 (n := 2) (g := (M 15)) rfl rfl (i := s₀) (by omega) (by decide) dMo_link_112 ?_
    refine k_if_eq (tgt := 120) hx hb (by omega) dMo_link_113 rfl (fun h113 => ?_) (fun h113 => ?_)
    · refine lv_iconst (v := nI 0) hx hb dMo_link_120 (by decide) ?_
      exact Co.reti hx hb hret hlk dMo_link_121 hS hP hD () (by rw [sel8, if_neg (by omega), if_neg (by omega), if_neg (by omega), if_neg (by omega), if_neg (by omega), if_pos (by omega), show M 15 s₀ = 0 by omega]) trivial rfl (Nat.le_of_ble_eq_true rfl) (Nat.le_of_ble_eq_true rfl)
    · refine lv_iconst (v := nI 1) hx hb dMo_link_116 (by decide) ?_
      refine lv_goto (tgt := 121) hx hb dMo_link_117 rfl ?_
      exact Co.reti hx hb hret hlk dMo_link_121 hS hP hD () (by rw [sel8, if_neg (by omega), if_neg (by omega), if_neg (by omega), if_neg (by omega), if_neg (by omega), if_pos (by omega), show M 15 s₀ = 1 by omega]) trivial rfl (Nat.le_of_ble_eq_true rfl) (Nat.le_of_ble_eq_true rfl)
  · refine k_tab (tgt := 122) hx hb 6 h26 dMo_link_26 (by decide) (by decide) rfl rfl ?_
    refine lv_aload_n hx hb dMo_link_122 rfl (lv_at hl 0 rfl) ?_
    refine va_get (D := D) (ci := 4) (v := .ref (ad 17)) (C := RMo) (T := TMo) (N := 29) hx hb ht inMo hown hE.1 hP 0 rfl rfl 17 (by decide) (ht _ tw_604) (fun _ h => h) rfl dMo_link_123 ?_
    refine lv_iload_n hx hb dMo_link_126 rfl (lv_at hl 1 rfl) ?_
    refine k_iald hx hb hE.1 hP 17 0 (n := 2) (g := (M 17)) rfl rfl (i := s₀) (by omega) (by decide) dMo_link_127 ?_
    exact Co.reti hx hb hret hlk dMo_link_128 hS hP hD () (by rw [sel8, if_neg (by omega), if_neg (by omega), if_neg (by omega), if_neg (by omega), if_neg (by omega), if_neg (by omega), if_pos (by omega)]) trivial rfl (Nat.le_of_ble_eq_true rfl) (Nat.le_of_ble_eq_true rfl)
  · refine k_tab (tgt := 129) hx hb 7 h26 dMo_link_26 (by decide) (by decide) rfl rfl ?_
    refine lv_aload_n hx hb dMo_link_129 rfl (lv_at hl 0 rfl) ?_
    refine va_get (D := D) (ci := 4) (v := .ref (ad 1)) (C := RMo) (T := TMo) (N := 29) hx hb ht inMo hown hE.1 hP 0 rfl rfl 1 (by decide) (ht _ tw_588) (fun _ h => h) rfl dMo_link_130 ?_
    refine lv_iload_n hx hb dMo_link_133 rfl (lv_at hl 1 rfl) ?_
    refine k_iald hx hb hE.1 hP 1 0 (n := 2) (g := (M 1)) rfl rfl (i := s₀) (by omega) (by decide) dMo_link_134 ?_
    exact Co.reti hx hb hret hlk dMo_link_135 hS hP hD () (by rw [sel8, if_neg (by omega), if_neg (by omega), if_neg (by omega), if_neg (by omega), if_neg (by omega), if_neg (by omega), if_neg (by omega)]) trivial rfl (Nat.le_of_ble_eq_true rfl) (Nat.le_of_ble_eq_true rfl)
  · exfalso; omega
set_option maxHeartbeats 4000000 in
set_option maxRecDepth 100000 in
theorem c_Mo_linkW (l : Launch) (D : va_G) (ca : Nat → ClassId) (h : Nat) (ad : Nat → Nat) (co : Nat) (M : Nat → Nat → Nat) (s₀ : Nat) (hs : s₀ < 2) (w₁ : Int32) (hw1 : w₁.toInt < 0 ∨ 7 < w₁.toInt) : Co (S := Unit) l yMo_link (Cond.code yMo_link cMo_link 3 (some FieldType.int) :: tb_) { frames := 1, cells := 0, slots := 0, locals := 32 } D ca [.ref h, .int (nI s₀), .int w₁] (mW h ad ca co M) (fun _ => some (.int (-1))) (fun _ => True) (fun _ => (mW h ad ca 0 M)) 0 0 := by
  refine Co.of cMo_link 3 (some FieldType.int) (by decide) (Nat.le_of_ble_eq_true rfl) ?_
  intro p e s m args below meth c A ls fx hret hlk hin hE hP hD hS hA hl
  have hx := fx.1
  have hb := fx.2.1
  have hown : s.vm.findClass RMo = some m.cls := fx.2.2.2.1
  have hts := fx.2.2.2.2
  have ht : ∀ w ∈ tb_, w.before args s = true := fun w h => hts w (List.mem_cons_of_mem _ h)
  have hl : lv_has ls 3 [(0, .ref h), (1, .int (nI s₀)), (2, .int w₁)] := hl
  refine lv_aload_n hx hb dMo_link_0 rfl (lv_at hl 0 rfl) ?_
  refine lv_iload_n hx hb dMo_link_1 rfl (lv_at hl 1 rfl) ?_
  refine kI (rS fx (c_Mo_station l D ca s₀ (by omega)) ⟨callB_of 1 hts (tb_gi tw_686) rfl rfl rfl (ht _ tw_5) (ht _ tw_684) (by decide +kernel) ⟨(Nat.le_of_ble_eq_true rfl), (Nat.le_of_ble_eq_true rfl)⟩, ht _ tw_685⟩ hE hP hD [] rfl rfl rfl hl.1 rfl (Nat.le_of_ble_eq_true rfl) dMo_link_2 ⟨(Nat.le_of_ble_eq_true rfl), (Nat.le_of_ble_eq_true rfl)⟩) hP hD hS hA [] [0, 1, 2, 3, 4, 5, 6, 7, 8, 9, 10, 11, 12, 13, 14, 15, 16, 17, 18, 19, 20, 21, 22, 23, 24, 25, 26, 27, 28] rfl rfl rfl (by decide) (fun _ H locs _ hP hD hS => ?_)
  have hP : va_P D cls_ (mW h ad ca co M) H := hP
  have hD : va_D A (mW h ad ca co M) := hD
  refine k_if_eq (tgt := 12) hx hb (by omega) dMo_link_5 rfl (fun hz => absurd hz (by omega)) (fun h5 => ?_)
  refine lv_iconst (v := nI 0) hx hb dMo_link_8 (by decide) ?_
  refine lv_goto (tgt := 13) hx hb dMo_link_9 rfl ?_
  refine va_put (D := D) (ci := 4) (v := .int (nI 0)) (ty := .int) (C := RMo) (T := TMo) (N := 29) hx hb ht inMo tyMo tyMo_ok nmMo hown hE.1 hP hD hS 0 rfl rfl 0 (by decide) (ht _ tw_587) (fun _ h => h) rfl (by decide +kernel) rfl rfl (Nat.le_of_ble_eq_true rfl) dMo_link_13 (fun H locs hP hD hS => ?_)
  have hP : va_P D cls_ (mW h ad ca 0 M) H := hP
  have hD : va_D A (mW h ad ca 0 M) := hD
  refine lv_aload_n hx hb dMo_link_16 rfl (lv_at hl 0 rfl) ?_
  refine va_get (D := D) (ci := 4) (v := .int (nI 0)) (C := RMo) (T := TMo) (N := 29) hx hb ht inMo hown hE.1 hP 0 rfl rfl 0 (by decide) (ht _ tw_587) (fun _ h => h) rfl dMo_link_17 ?_
  refine k_if_le (tgt := 25) hx hb (by omega) dMo_link_20 rfl (fun h20 => ?_) (fun hz => absurd hz (by omega))
  refine lv_iload_n hx hb dMo_link_25 rfl (lv_at hl 2 rfl) ?_
  refine lv_tableOut (tgt := 136) hx hb dMo_link_26 hw1 rfl ?_
  refine lv_iconst (v := (-1)) hx hb dMo_link_136 (by decide) ?_
  exact Co.reti hx hb hret hlk dMo_link_137 hS hP hD () rfl trivial rfl (Nat.le_of_ble_eq_true rfl) (Nat.le_of_ble_eq_true rfl)
set_option maxHeartbeats 4000000 in
set_option maxRecDepth 100000 in
theorem c_Mo_linkX (l : Launch) (D : va_G) (ca : Nat → ClassId) (h : Nat) (ad : Nat → Nat) (co : Nat) (M : Nat → Nat → Nat) (x₀ : Int32) (hx0 : ¬ x₀ = 0) (hx1 : ¬ x₀ = nI 1) (w₁ : Int32) : Co (S := Unit) l yMo_link (Cond.code yMo_link cMo_link 3 (some FieldType.int) :: tb_) { frames := 1, cells := 0, slots := 0, locals := 32 } D ca [.ref h, .int x₀, .int w₁] (mW h ad ca co M) (fun _ => some (.int (nI 0))) (fun _ => True) (fun _ => (mW h ad ca 1 M)) 0 0 := by
  refine Co.of cMo_link 3 (some FieldType.int) (by decide) (Nat.le_of_ble_eq_true rfl) ?_
  intro p e s m args below meth c A ls fx hret hlk hin hE hP hD hS hA hl
  have hx := fx.1
  have hb := fx.2.1
  have hown : s.vm.findClass RMo = some m.cls := fx.2.2.2.1
  have hts := fx.2.2.2.2
  have ht : ∀ w ∈ tb_, w.before args s = true := fun w h => hts w (List.mem_cons_of_mem _ h)
  have hl : lv_has ls 3 [(0, .ref h), (1, .int x₀), (2, .int w₁)] := hl
  refine lv_aload_n hx hb dMo_link_0 rfl (lv_at hl 0 rfl) ?_
  refine lv_iload_n hx hb dMo_link_1 rfl (lv_at hl 1 rfl) ?_
  refine kI (rS fx (c_Mo_stationX l D ca x₀ hx0 hx1) ⟨callB_of 1 hts (tb_gi tw_686) rfl rfl rfl (ht _ tw_5) (ht _ tw_684) (by decide +kernel) ⟨(Nat.le_of_ble_eq_true rfl), (Nat.le_of_ble_eq_true rfl)⟩, ht _ tw_685⟩ hE hP hD [] rfl rfl rfl hl.1 rfl (Nat.le_of_ble_eq_true rfl) dMo_link_2 ⟨(Nat.le_of_ble_eq_true rfl), (Nat.le_of_ble_eq_true rfl)⟩) hP hD hS hA [] [0, 1, 2, 3, 4, 5, 6, 7, 8, 9, 10, 11, 12, 13, 14, 15, 16, 17, 18, 19, 20, 21, 22, 23, 24, 25, 26, 27, 28] rfl rfl rfl (by decide) (fun _ H locs _ hP hD hS => ?_)
  have hP : va_P D cls_ (mW h ad ca co M) H := hP
  have hD : va_D A (mW h ad ca co M) := hD
  refine k_if_eq (tgt := 12) hx hb (by omega) dMo_link_5 rfl (fun h5 => ?_) (fun hz => absurd hz (by omega))
  refine lv_iconst (v := nI 1) hx hb dMo_link_12 (by decide) ?_
  refine va_put (D := D) (ci := 4) (v := .int (nI 1)) (ty := .int) (C := RMo) (T := TMo) (N := 29) hx hb ht inMo tyMo tyMo_ok nmMo hown hE.1 hP hD hS 0 rfl rfl 0 (by decide) (ht _ tw_587) (fun _ h => h) rfl (by decide +kernel) rfl rfl (Nat.le_of_ble_eq_true rfl) dMo_link_13 (fun H locs hP hD hS => ?_)
  have hP : va_P D cls_ (mW h ad ca 1 M) H := hP
  have hD : va_D A (mW h ad ca 1 M) := hD
  refine lv_aload_n hx hb dMo_link_16 rfl (lv_at hl 0 rfl) ?_
  refine va_get (D := D) (ci := 4) (v := .int (nI 1)) (C := RMo) (T := TMo) (N := 29) hx hb ht inMo hown hE.1 hP 0 rfl rfl 0 (by decide) (ht _ tw_587) (fun _ h => h) rfl dMo_link_17 ?_
  refine k_if_le (tgt := 25) hx hb (by omega) dMo_link_20 rfl (fun hz => absurd hz (by omega)) (fun h20 => ?_)
  refine lv_iconst (v := nI 0) hx hb dMo_link_23 (by decide) ?_
  exact Co.reti hx hb hret hlk dMo_link_24 hS hP hD () rfl trivial rfl (Nat.le_of_ble_eq_true rfl) (Nat.le_of_ble_eq_true rfl)
set_option maxHeartbeats 4000000 in
set_option maxRecDepth 100000 in
theorem c_Mo_channel (l : Launch) (D : va_G) (ca : Nat → ClassId) (h : Nat) (ad : Nat → Nat) (co : Nat) (M : Nat → Nat → Nat) (s₀ cn : Nat) (hs : s₀ < 2) (hc : cn < 3) (w₀ : Nat) (hw0 : w₀ < 5) : Co (S := Unit) l yMo_channel (Cond.code yMo_channel cMo_channel 5 (some FieldType.int) :: tb_) { frames := 2, cells := 0, slots := 0, locals := 64 } D ca [.ref h, .int (nI s₀), .int (nI cn), .int (nI w₀)] (mW h ad ca co M) (fun _ => some (.int (nI (sel5 w₀ (M 23 (3 * s₀ + cn)) (M 24 (3 * s₀ + cn)) (M 25 (3 * s₀ + cn)) (M 26 (3 * s₀ + cn)) (M 27 (3 * s₀ + cn)))))) (fun _ => True) (fun _ => (mW h ad ca 0 M)) 0 0 := by
  refine Co.of cMo_channel 5 (some FieldType.int) (by decide) (Nat.le_of_ble_eq_true rfl) ?_
  intro p e s m args below meth c A ls fx hret hlk hin hE hP hD hS hA hl
  have hx := fx.1
  have hb := fx.2.1
  have hown : s.vm.findClass RMo = some m.cls := fx.2.2.2.1
  have hts := fx.2.2.2.2
  have ht : ∀ w ∈ tb_, w.before args s = true := fun w h => hts w (List.mem_cons_of_mem _ h)
  have hl : lv_has ls 5 [(0, .ref h), (1, .int (nI s₀)), (2, .int (nI cn)), (3, .int (nI w₀))] := hl
  refine lv_aload_n hx hb dMo_channel_0 rfl (lv_at hl 0 rfl) ?_
  refine lv_iload_n hx hb dMo_channel_1 rfl (lv_at hl 1 rfl) ?_
  refine lv_iload_n hx hb dMo_channel_2 rfl (lv_at hl 2 rfl) ?_
  refine kI (rS fx (c_Mo_channelOf l D ca s₀ cn (by omega) (by omega)) ⟨callB_of 2 hts (tb_gi tw_767) rfl rfl rfl (ht _ tw_5) (ht _ tw_765) (by decide +kernel) ⟨(Nat.le_of_ble_eq_true rfl), (Nat.le_of_ble_eq_true rfl)⟩, ht _ tw_766⟩ hE hP hD [] rfl rfl rfl hl.1 rfl (Nat.le_of_ble_eq_true rfl) dMo_channel_3 ⟨(Nat.le_of_ble_eq_true rfl), (Nat.le_of_ble_eq_true rfl)⟩) hP hD hS hA [] [0, 1, 2, 3, 4, 5, 6, 7, 8, 9, 10, 11, 12, 13, 14, 15, 16, 17, 18, 19, 20, 21, 22, 23, 24, 25, 26, 27, 28] rfl rfl rfl (by decide) (fun _ H locs _ hP hD hS => ?_)
  have hP : va_P D cls_ (mW h ad ca co M) H := hP
  have hD : va_D A (mW h ad ca co M) := hD
  refine k_if_eq (tgt := 13) hx hb (by omega) dMo_channel_6 rfl (fun hz => absurd hz (by omega)) (fun h6 => ?_)
  refine lv_iconst (v := nI 0) hx hb dMo_channel_9 (by decide) ?_
  refine lv_goto (tgt := 14) hx hb dMo_channel_10 rfl ?_
  refine va_put (D := D) (ci := 4) (v := .int (nI 0)) (ty := .int) (C := RMo) (T := TMo) (N := 29) hx hb ht inMo tyMo tyMo_ok nmMo hown hE.1 hP hD hS 0 rfl rfl 0 (by decide) (ht _ tw_587) (fun _ h => h) rfl (by decide +kernel) rfl rfl (Nat.le_of_ble_eq_true rfl) dMo_channel_14 (fun H locs hP hD hS => ?_)
  have hP : va_P D cls_ (mW h ad ca 0 M) H := hP
  have hD : va_D A (mW h ad ca 0 M) := hD
  refine lv_aload_n hx hb dMo_channel_17 rfl (lv_at hl 0 rfl) ?_
  refine va_get (D := D) (ci := 4) (v := .int (nI 0)) (C := RMo) (T := TMo) (N := 29) hx hb ht inMo hown hE.1 hP 0 rfl rfl 0 (by decide) (ht _ tw_587) (fun _ h => h) rfl dMo_channel_18 ?_
  refine k_if_le (tgt := 26) hx hb (by omega) dMo_channel_21 rfl (fun h21 => ?_) (fun hz => absurd hz (by omega))
  refine lv_iconst (v := nI 3) hx hb dMo_channel_26 (by decide) ?_
  refine lv_iload_n hx hb dMo_channel_27 rfl (lv_at hl 1 rfl) ?_
  refine k_imul hx hb dMo_channel_28 ?_
  refine lv_iload_n hx hb dMo_channel_29 rfl (lv_at hl 2 rfl) ?_
  refine k_iadd hx hb dMo_channel_30 ?_
  refine lv_istore hx hb dMo_channel_31 hl (by decide) rfl (fun ls hl => ?_)
  have hl : lv_has ls 5 [(4, .int (nI ((3 * s₀) + cn))), (0, .ref h), (1, .int (nI s₀)), (2, .int (nI cn)), (3, .int (nI w₀))] := hl
  refine lv_iload_n hx hb dMo_channel_33 rfl (lv_at hl 4 rfl) ?_
  rcases (show w₀ = 0 ∨ w₀ = 1 ∨ w₀ = 2 ∨ w₀ = 3 ∨ w₀ = 4 ∨ (w₀ < 0 ∨ 4 < w₀) by omega) with h34 | h34 | h34 | h34 | h34 | h34
  · refine k_tab (tgt := 68) hx hb 0 h34 dMo_channel_34 (by decide) (by decide) rfl rfl ?_
    refine lv_aload_n hx hb dMo_channel_68 rfl (lv_at hl 1 rfl) ?_
    refine va_get (D := D) (ci := 4) (v := .ref (ad 23)) (C := RMo) (T := TMo) (N := 29) hx hb ht inMo hown hE.1 hP 0 rfl rfl 23 (by decide) (ht _ tw_610) (fun _ h => h) rfl dMo_channel_69 ?_
    refine lv_iload hx hb dMo_channel_72 (lv_at hl 0 rfl) ?_
    refine k_iald hx hb hE.1 hP 23 0 (n := 6) (g := (M 23)) rfl rfl (i := ((3 * s₀) + cn)) (by omega) (by decide) dMo_channel_74 ?_
    exact Co.reti hx hb hret hlk dMo_channel_75 hS hP hD () (by rw [sel5, if_pos (by omega)]) trivial rfl (Nat.le_of_ble_eq_true rfl) (Nat.le_of_ble_eq_true rfl)
  · refine k_tab (tgt := 76) hx hb 1 h34 dMo_channel_34 (by decide) (by decide) rfl rfl ?_
    refine lv_aload_n hx hb dMo_channel_76 rfl (lv_at hl 1 rfl) ?_
    refine va_get (D := D) (ci := 4) (v := .ref (ad 24)) (C := RMo) (T := TMo) (N := 29) hx hb ht inMo hown hE.1 hP 0 rfl rfl 24 (by decide) (ht _ tw_611) (fun _ h => h) rfl dMo_channel_77 ?_
    refine lv_iload hx hb dMo_channel_80 (lv_at hl 0 rfl) ?_
    refine k_iald hx hb hE.1 hP 24 0 (n := 6) (g := (M 24)) rfl rfl (i := ((3 * s₀) + cn)) (by omega) (by decide) dMo_channel_82 ?_
    exact Co.reti hx hb hret hlk dMo_channel_83 hS hP hD () (by rw [sel5, if_neg (by omega), if_pos (by omega)]) trivial rfl (Nat.le_of_ble_eq_true rfl) (Nat.le_of_ble_eq_true rfl)
  · refine k_tab (tgt := 84) hx hb 2 h34 dMo_channel_34 (by decide) (by decide) rfl rfl ?_
    refine lv_aload_n hx hb dMo_channel_84 rfl (lv_at hl 1 rfl) ?_
    refine va_get (D := D) (ci := 4) (v := .ref (ad 25)) (C := RMo) (T := TMo) (N := 29) hx hb ht inMo hown hE.1 hP 0 rfl rfl 25 (by decide) (ht _ tw_612) (fun _ h => h) rfl dMo_channel_85 ?_
    refine lv_iload hx hb dMo_channel_88 (lv_at hl 0 rfl) ?_
    refine k_iald hx hb hE.1 hP 25 0 (n := 6) (g := (M 25)) rfl rfl (i := ((3 * s₀) + cn)) (by omega) (by decide) dMo_channel_90 ?_
    exact Co.reti hx hb hret hlk dMo_channel_91 hS hP hD () (by rw [sel5, if_neg (by omega), if_neg (by omega), if_pos (by omega)]) trivial rfl (Nat.le_of_ble_eq_true rfl) (Nat.le_of_ble_eq_true rfl)
  · refine k_tab (tgt := 92) hx hb 3 h34 dMo_channel_34 (by decide) (by decide) rfl rfl ?_
    refine lv_aload_n hx hb dMo_channel_92 rfl (lv_at hl 1 rfl) ?_
    refine va_get (D := D) (ci := 4) (v := .ref (ad 26)) (C := RMo) (T := TMo) (N := 29) hx hb ht inMo hown hE.1 hP 0 rfl rfl 26 (by decide) (ht _ tw_613) (fun _ h => h) rfl dMo_channel_93 ?_
    refine lv_iload hx hb dMo_channel_96 (lv_at hl 0 rfl) ?_
    refine k_iald hx hb hE.1 hP 26 0 (n := 6) (g := (M 26)) rfl rfl (i := ((3 * s₀) + cn)) (by omega) (by decide) dMo_channel_98 ?_
    exact Co.reti hx hb hret hlk dMo_channel_99 hS hP hD () (by rw [sel5, if_neg (by omega), if_neg (by omega), if_neg (by omega), if_pos (by omega)]) trivial rfl (Nat.le_of_ble_eq_true rfl) (Nat.le_of_ble_eq_true rfl)
  · refine k_tab (tgt := 100) hx hb 4 h34 dMo_channel_34 (by decide) (by decide) rfl rfl ?_
    refine lv_aload_n hx hb dMo_channel_100 rfl (lv_at hl 1 rfl) ?_
    refine va_get (D := D) (ci := 4) (v := .ref (ad 27)) (C := RMo) (T := TMo) (N := 29) hx hb ht inMo hown hE.1 hP 0 rfl rfl 27 (by decide) (ht _ tw_614) (fun _ h => h) rfl dMo_channel_101 ?_
    refine lv_iload hx hb dMo_channel_104 (lv_at hl 0 rfl) ?_
    refine k_iald hx hb hE.1 hP 27 0 (n := 6) (g := (M 27)) rfl rfl (i := ((3 * s₀) + cn)) (by omega) (by decide) dMo_channel_106 ?_
    exact Co.reti hx hb hret hlk dMo_channel_107 hS hP hD () (by rw [sel5, if_neg (by omega), if_neg (by omega), if_neg (by omega), if_neg (by omega)]) trivial rfl (Nat.le_of_ble_eq_true rfl) (Nat.le_of_ble_eq_true rfl)
  · exfalso; omega
set_option maxHeartbeats 4000000 in
set_option maxRecDepth 100000 in
theorem c_Mo_channelW (l : Launch) (D : va_G) (ca : Nat → ClassId) (h : Nat) (ad : Nat → Nat) (co : Nat) (M : Nat → Nat → Nat) (s₀ cn : Nat) (hs : s₀ < 2) (hc : cn < 3) (w₁ : Int32) (hw1 : w₁.toInt < 0 ∨ 4 < w₁.toInt) : Co (S := Unit) l yMo_channel (Cond.code yMo_channel cMo_channel 5 (some FieldType.int) :: tb_) { frames := 2, cells := 0, slots := 0, locals := 64 } D ca [.ref h, .int (nI s₀), .int (nI cn), .int w₁] (mW h ad ca co M) (fun _ => some (.int (-1))) (fun _ => True) (fun _ => (mW h ad ca 0 M)) 0 0 := by
  refine Co.of cMo_channel 5 (some FieldType.int) (by decide) (Nat.le_of_ble_eq_true rfl) ?_
  intro p e s m args below meth c A ls fx hret hlk hin hE hP hD hS hA hl
  have hx := fx.1
  have hb := fx.2.1
  have hown : s.vm.findClass RMo = some m.cls := fx.2.2.2.1
  have hts := fx.2.2.2.2
  have ht : ∀ w ∈ tb_, w.before args s = true := fun w h => hts w (List.mem_cons_of_mem _ h)
  have hl : lv_has ls 5 [(0, .ref h), (1, .int (nI s₀)), (2, .int (nI cn)), (3, .int w₁)] := hl
  refine lv_aload_n hx hb dMo_channel_0 rfl (lv_at hl 0 rfl) ?_
  refine lv_iload_n hx hb dMo_channel_1 rfl (lv_at hl 1 rfl) ?_
  refine lv_iload_n hx hb dMo_channel_2 rfl (lv_at hl 2 rfl) ?_
  refine kI (rS fx (c_Mo_channelOf l D ca s₀ cn (by omega) (by omega)) ⟨callB_of 2 hts (tb_gi tw_767) rfl rfl rfl (ht _ tw_5) (ht _ tw_765) (by decide +kernel) ⟨(Nat.le_of_ble_eq_true rfl), (Nat.le_of_ble_eq_true rfl)⟩, ht _ tw_766⟩ hE hP hD [] rfl rfl rfl hl.1 rfl (Nat.le_of_ble_eq_true rfl) dMo_channel_3 ⟨(Nat.le_of_ble_eq_true rfl), (Nat.le_of_ble_eq_true rfl)⟩) hP hD hS hA [] [0, 1, 2, 3, 4, 5, 6, 7, 8, 9, 10, 11, 12, 13, 14, 15, 16, 17, 18, 19, 20, 21, 22, 23, 24, 25, 26, 27, 28] rfl rfl rfl (by decide) (fun _ H locs _ hP hD hS => ?_)
  have hP : va_P D cls_ (mW h ad ca co M) H := hP
  have hD : va_D A (mW h ad ca co M) := hD
  refine k_if_eq (tgt := 13) hx hb (by omega) dMo_channel_6 rfl (fun hz => absurd hz (by omega)) (fun h6 => ?_)
  refine lv_iconst (v := nI 0) hx hb dMo_channel_9 (by decide) ?_
  refine lv_goto (tgt := 14) hx hb dMo_channel_10 rfl ?_
  refine va_put (D := D) (ci := 4) (v := .int (nI 0)) (ty := .int) (C := RMo) (T := TMo) (N := 29) hx hb ht inMo tyMo tyMo_ok nmMo hown hE.1 hP hD hS 0 rfl rfl 0 (by decide) (ht _ tw_587) (fun _ h => h) rfl (by decide +kernel) rfl rfl (Nat.le_of_ble_eq_true rfl) dMo_channel_14 (fun H locs hP hD hS => ?_)
  have hP : va_P D cls_ (mW h ad ca 0 M) H := hP
  have hD : va_D A (mW h ad ca 0 M) := hD
  refine lv_aload_n hx hb dMo_channel_17 rfl (lv_at hl 0 rfl) ?_
  refine va_get (D := D) (ci := 4) (v := .int (nI 0)) (C := RMo) (T := TMo) (N := 29) hx hb ht inMo hown hE.1 hP 0 rfl rfl 0 (by decide) (ht _ tw_587) (fun _ h => h) rfl dMo_channel_18 ?_
  refine k_if_le (tgt := 26) hx hb (by omega) dMo_channel_21 rfl (fun h21 => ?_) (fun hz => absurd hz (by omega))
  refine lv_iconst (v := nI 3) hx hb dMo_channel_26 (by decide) ?_
  refine lv_iload_n hx hb dMo_channel_27 rfl (lv_at hl 1 rfl) ?_
  refine k_imul hx hb dMo_channel_28 ?_
  refine lv_iload_n hx hb dMo_channel_29 rfl (lv_at hl 2 rfl) ?_
  refine k_iadd hx hb dMo_channel_30 ?_
  refine lv_istore hx hb dMo_channel_31 hl (by decide) rfl (fun ls hl => ?_)
  have hl : lv_has ls 5 [(4, .int (nI ((3 * s₀) + cn))), (0, .ref h), (1, .int (nI s₀)), (2, .int (nI cn)), (3, .int w₁)] := hl
  refine lv_iload_n hx hb dMo_channel_33 rfl (lv_at hl 4 rfl) ?_
  refine lv_tableOut (tgt := 108) hx hb dMo_channel_34 hw1 rfl ?_
  refine lv_iconst (v := (-1)) hx hb dMo_channel_108 (by decide) ?_
  exact Co.reti hx hb hret hlk dMo_channel_109 hS hP hD () rfl trivial rfl (Nat.le_of_ble_eq_true rfl) (Nat.le_of_ble_eq_true rfl)
set_option maxHeartbeats 4000000 in
set_option maxRecDepth 100000 in
theorem c_Mo_channelX (l : Launch) (D : va_G) (ca : Nat → ClassId) (h : Nat) (ad : Nat → Nat) (co : Nat) (M : Nat → Nat → Nat) (x₀ : Int32) (hx0 : ¬ x₀ = 0) (hx1 : ¬ x₀ = nI 1) (y₀ w₁ : Int32) : Co (S := Unit) l yMo_channel (Cond.code yMo_channel cMo_channel 5 (some FieldType.int) :: tb_) { frames := 2, cells := 0, slots := 0, locals := 64 } D ca [.ref h, .int x₀, .int y₀, .int w₁] (mW h ad ca co M) (fun _ => some (.int (nI 0))) (fun _ => True) (fun _ => (mW h ad ca 1 M)) 0 0 := by
  refine Co.of cMo_channel 5 (some FieldType.int) (by decide) (Nat.le_of_ble_eq_true rfl) ?_
  intro p e s m args below meth c A ls fx hret hlk hin hE hP hD hS hA hl
  have hx := fx.1
  have hb := fx.2.1
  have hown : s.vm.findClass RMo = some m.cls := fx.2.2.2.1
  have hts := fx.2.2.2.2
  have ht : ∀ w ∈ tb_, w.before args s = true := fun w h => hts w (List.mem_cons_of_mem _ h)
  have hl : lv_has ls 5 [(0, .ref h), (1, .int x₀), (2, .int y₀), (3, .int w₁)] := hl
  refine lv_aload_n hx hb dMo_channel_0 rfl (lv_at hl 0 rfl) ?_
  refine lv_iload_n hx hb dMo_channel_1 rfl (lv_at hl 1 rfl) ?_
  refine lv_iload_n hx hb dMo_channel_2 rfl (lv_at hl 2 rfl) ?_
  refine kI (rS fx (c_Mo_channelOfX l D ca x₀ hx0 hx1 y₀) ⟨callB_of 2 hts (tb_gi tw_767) rfl rfl rfl (ht _ tw_5) (ht _ tw_765) (by decide +kernel) ⟨(Nat.le_of_ble_eq_true rfl), (Nat.le_of_ble_eq_true rfl)⟩, ht _ tw_766⟩ hE hP hD [] rfl rfl rfl hl.1 rfl (Nat.le_of_ble_eq_true rfl) dMo_channel_3 ⟨(Nat.le_of_ble_eq_true rfl), (Nat.le_of_ble_eq_true rfl)⟩) hP hD hS hA [] [0, 1, 2, 3, 4, 5, 6, 7, 8, 9, 10, 11, 12, 13, 14, 15, 16, 17, 18, 19, 20, 21, 22, 23, 24, 25, 26, 27, 28] rfl rfl rfl (by decide) (fun _ H locs _ hP hD hS => ?_)
  have hP : va_P D cls_ (mW h ad ca co M) H := hP
  have hD : va_D A (mW h ad ca co M) := hD
  refine k_if_eq (tgt := 13) hx hb (by omega) dMo_channel_6 rfl (fun h6 => ?_) (fun hz => absurd hz (by omega))
  refine lv_iconst (v := nI 1) hx hb dMo_channel_13 (by decide) ?_
  refine va_put (D := D) (ci := 4) (v := .int (nI 1)) (ty := .int) (C := RMo) (T := TMo) (N := 29) hx hb ht inMo tyMo tyMo_ok nmMo hown hE.1 hP hD hS 0 rfl rfl 0 (by decide) (ht _ tw_587) (fun _ h => h) rfl (by decide +kernel) rfl rfl (Nat.le_of_ble_eq_true rfl) dMo_channel_14 (fun H locs hP hD hS => ?_)
  have hP : va_P D cls_ (mW h ad ca 1 M) H := hP
  have hD : va_D A (mW h ad ca 1 M) := hD
  refine lv_aload_n hx hb dMo_channel_17 rfl (lv_at hl 0 rfl) ?_
  refine va_get (D := D) (ci := 4) (v := .int (nI 1)) (C := RMo) (T := TMo) (N := 29) hx hb ht inMo hown hE.1 hP 0 rfl rfl 0 (by decide) (ht _ tw_587) (fun _ h => h) rfl dMo_channel_18 ?_
  refine k_if_le (tgt := 26) hx hb (by omega) dMo_channel_21 rfl (fun hz => absurd hz (by omega)) (fun h21 => ?_)
  refine lv_iconst (v := nI 0) hx hb dMo_channel_24 (by decide) ?_
  exact Co.reti hx hb hret hlk dMo_channel_25 hS hP hD () rfl trivial rfl (Nat.le_of_ble_eq_true rfl) (Nat.le_of_ble_eq_true rfl)
set_option maxHeartbeats 4000000 in
set_option maxRecDepth 100000 in
theorem c_Mo_channelC (l : Launch) (D : va_G) (ca : Nat → ClassId) (h : Nat) (ad : Nat → Nat) (co : Nat) (M : Nat → Nat → Nat) (s₀ : Nat) (hs : s₀ < 2) (y₀ : Int32) (hy0 : y₀ < 0 ∨ nI 3 ≤ y₀) (w₁ : Int32) : Co (S := Unit) l yMo_channel (Cond.code yMo_channel cMo_channel 5 (some FieldType.int) :: tb_) { frames := 2, cells := 0, slots := 0, locals := 64 } D ca [.ref h, .int (nI s₀), .int y₀, .int w₁] (mW h ad ca co M) (fun _ => some (.int (nI 0))) (fun _ => True) (fun _ => (mW h ad ca 1 M)) 0 0 := by
  refine Co.of cMo_channel 5 (some FieldType.int) (by decide) (Nat.le_of_ble_eq_true rfl) ?_
  intro p e s m args below meth c A ls fx hret hlk hin hE hP hD hS hA hl
  have hx := fx.1
  have hb := fx.2.1
  have hown : s.vm.findClass RMo = some m.cls := fx.2.2.2.1
  have hts := fx.2.2.2.2
  have ht : ∀ w ∈ tb_, w.before args s = true := fun w h => hts w (List.mem_cons_of_mem _ h)
  have hl : lv_has ls 5 [(0, .ref h), (1, .int (nI s₀)), (2, .int y₀), (3, .int w₁)] := hl
  refine lv_aload_n hx hb dMo_channel_0 rfl (lv_at hl 0 rfl) ?_
  refine lv_iload_n hx hb dMo_channel_1 rfl (lv_at hl 1 rfl) ?_
  refine lv_iload_n hx hb dMo_channel_2 rfl (lv_at hl 2 rfl) ?_
  refine kI (rS fx (c_Mo_channelOfC l D ca s₀ (by omega) y₀ hy0) ⟨callB_of 2 hts (tb_gi tw_767) rfl rfl rfl (ht _ tw_5) (ht _ tw_765) (by decide +kernel) ⟨(Nat.le_of_ble_eq_true rfl), (Nat.le_of_ble_eq_true rfl)⟩, ht _ tw_766⟩ hE hP hD [] rfl rfl rfl hl.1 rfl (Nat.le_of_ble_eq_true rfl) dMo_channel_3 ⟨(Nat.le_of_ble_eq_true rfl), (Nat.le_of_ble_eq_true rfl)⟩) hP hD hS hA [] [0, 1, 2, 3, 4, 5, 6, 7, 8, 9, 10, 11, 12, 13, 14, 15, 16, 17, 18, 19, 20, 21, 22, 23, 24, 25, 26, 27, 28] rfl rfl rfl (by decide) (fun _ H locs _ hP hD hS => ?_)
  have hP : va_P D cls_ (mW h ad ca co M) H := hP
  have hD : va_D A (mW h ad ca co M) := hD
  refine k_if_eq (tgt := 13) hx hb (by omega) dMo_channel_6 rfl (fun h6 => ?_) (fun hz => absurd hz (by omega))
  refine lv_iconst (v := nI 1) hx hb dMo_channel_13 (by decide) ?_
  refine va_put (D := D) (ci := 4) (v := .int (nI 1)) (ty := .int) (C := RMo) (T := TMo) (N := 29) hx hb ht inMo tyMo tyMo_ok nmMo hown hE.1 hP hD hS 0 rfl rfl 0 (by decide) (ht _ tw_587) (fun _ h => h) rfl (by decide +kernel) rfl rfl (Nat.le_of_ble_eq_true rfl) dMo_channel_14 (fun H locs hP hD hS => ?_)
  have hP : va_P D cls_ (mW h ad ca 1 M) H := hP
  have hD : va_D A (mW h ad ca 1 M) := hD
  refine lv_aload_n hx hb dMo_channel_17 rfl (lv_at hl 0 rfl) ?_
  refine va_get (D := D) (ci := 4) (v := .int (nI 1)) (C := RMo) (T := TMo) (N := 29) hx hb ht inMo hown hE.1 hP 0 rfl rfl 0 (by decide) (ht _ tw_587) (fun _ h => h) rfl dMo_channel_18 ?_
  refine k_if_le (tgt := 26) hx hb (by omega) dMo_channel_21 rfl (fun hz => absurd hz (by omega)) (fun h21 => ?_)
  refine lv_iconst (v := nI 0) hx hb dMo_channel_24 (by decide) ?_
  exact Co.reti hx hb hret hlk dMo_channel_25 hS hP hD () rfl trivial rfl (Nat.le_of_ble_eq_true rfl) (Nat.le_of_ble_eq_true rfl)
set_option maxHeartbeats 4000000 in
set_option maxRecDepth 100000 in
theorem c_Mo_frame (l : Launch) (D : va_G) (ca : Nat → ClassId) (h : Nat) (ad : Nat → Nat) (co : Nat) (M : Nat → Nat → Nat) (s₀ k₀ : Nat) (hM : mOk M) (hs : s₀ < 2) (hk0 : k₀ < M 1 s₀) (w₀ : Nat) (hw0 : w₀ < 8) : Co (S := Unit) l yMo_frame (Cond.code yMo_frame cMo_frame 5 (some FieldType.int) :: tb_) { frames := 1, cells := 0, slots := 0, locals := 32 } D ca [.ref h, .int (nI s₀), .int (nI k₀), .int (nI w₀)] (mW h ad ca co M) (fun _ => some (.int (nI (sel8 w₀ (M 2 (12 * s₀ + k₀)) (M 3 (12 * s₀ + k₀)) (M 4 (12 * s₀ + k₀)) (M 5 (12 * s₀ + k₀)) (M 6 (12 * s₀ + k₀)) (M 7 (12 * s₀ + k₀)) (M 8 (12 * s₀ + k₀)) (M 9 (12 * s₀ + k₀)))))) (fun _ => True) (fun _ => (mW h ad ca 0 M)) 0 0 := by
  refine Co.of cMo_frame 5 (some FieldType.int) (by decide) (Nat.le_of_ble_eq_true rfl) ?_
  intro p e s m args below meth c A ls fx hret hlk hin hE hP hD hS hA hl
  have hx := fx.1
  have hb := fx.2.1
  have hown : s.vm.findClass RMo = some m.cls := fx.2.2.2.1
  have hts := fx.2.2.2.2
  have ht : ∀ w ∈ tb_, w.before args s = true := fun w h => hts w (List.mem_cons_of_mem _ h)
  have b1 : M 1 s₀ < 13 := hM 1 _
  have hl : lv_has ls 5 [(0, .ref h), (1, .int (nI s₀)), (2, .int (nI k₀)), (3, .int (nI w₀))] := hl
  refine lv_aload_n hx hb dMo_frame_0 rfl (lv_at hl 0 rfl) ?_
  refine lv_iload_n hx hb dMo_frame_1 rfl (lv_at hl 1 rfl) ?_
  refine kI (rS fx (c_Mo_station l D ca s₀ (by omega)) ⟨callB_of 1 hts (tb_gi tw_686) rfl rfl rfl (ht _ tw_5) (ht _ tw_684) (by decide +kernel) ⟨(Nat.le_of_ble_eq_true rfl), (Nat.le_of_ble_eq_true rfl)⟩, ht _ tw_685⟩ hE hP hD [] rfl rfl rfl hl.1 rfl (Nat.le_of_ble_eq_true rfl) dMo_frame_2 ⟨(Nat.le_of_ble_eq_true rfl), (Nat.le_of_ble_eq_true rfl)⟩) hP hD hS hA [] [0, 1, 2, 3, 4, 5, 6, 7, 8, 9, 10, 11, 12, 13, 14, 15, 16, 17, 18, 19, 20, 21, 22, 23, 24, 25, 26, 27, 28] rfl rfl rfl (by decide) (fun _ H locs _ hP hD hS => ?_)
  have hP : va_P D cls_ (mW h ad ca co M) H := hP
  have hD : va_D A (mW h ad ca co M) := hD
  refine k_if_eq (tgt := 12) hx hb (by omega) dMo_frame_5 rfl (fun hz => absurd hz (by omega)) (fun h5 => ?_)
  refine lv_iconst (v := nI 0) hx hb dMo_frame_8 (by decide) ?_
  refine lv_goto (tgt := 13) hx hb dMo_frame_9 rfl ?_
  refine va_put (D := D) (ci := 4) (v := .int (nI 0)) (ty := .int) (C := RMo) (T := TMo) (N := 29) hx hb ht inMo tyMo tyMo_ok nmMo hown hE.1 hP hD hS 0 rfl rfl 0 (by decide) (ht _ tw_587) (fun _ h => h) rfl (by decide +kernel) rfl rfl (Nat.le_of_ble_eq_true rfl) dMo_frame_13 (fun H locs hP hD hS => ?_)
  have hP : va_P D cls_ (mW h ad ca 0 M) H := hP
  have hD : va_D A (mW h ad ca 0 M) := hD
  refine lv_aload_n hx hb dMo_frame_16 rfl (lv_at hl 0 rfl) ?_
  refine va_get (D := D) (ci := 4) (v := .int (nI 0)) (C := RMo) (T := TMo) (N := 29) hx hb ht inMo hown hE.1 hP 0 rfl rfl 0 (by decide) (ht _ tw_587) (fun _ h => h) rfl dMo_frame_17 ?_
  refine k_if_le (tgt := 25) hx hb (by omega) dMo_frame_20 rfl (fun h20 => ?_) (fun hz => absurd hz (by omega))
  refine lv_iload_n hx hb dMo_frame_25 rfl (lv_at hl 2 rfl) ?_
  refine k_if_lt (tgt := 39) hx hb (by omega) dMo_frame_26 rfl ?_
  refine lv_iload_n hx hb dMo_frame_29 rfl (lv_at hl 2 rfl) ?_
  refine lv_aload_n hx hb dMo_frame_30 rfl (lv_at hl 0 rfl) ?_
  refine va_get (D := D) (ci := 4) (v := .ref (ad 1)) (C := RMo) (T := TMo) (N := 29) hx hb ht inMo hown hE.1 hP 0 rfl rfl 1 (by decide) (ht _ tw_588) (fun _ h => h) rfl dMo_frame_31 ?_
  refine lv_iload_n hx hb dMo_frame_34 rfl (lv_at hl 1 rfl) ?_
  refine k_iald hx hb hE.1 hP 1 0 (n := 2) (g := (M 1)) rfl rfl (i := s₀) (by omega) (by decide) dMo_frame_35 ?_
  refine k_icmp_lt (tgt := 41) hx hb (by omega) (by omega) dMo_frame_36 rfl (fun h36 => ?_) (fun hz => absurd hz (by omega))
  refine lv_bipush (v := nI 12) hx hb dMo_frame_41 (by decide) ?_
  refine lv_iload_n hx hb dMo_frame_43 rfl (lv_at hl 1 rfl) ?_
  refine k_imul hx hb dMo_frame_44 ?_
  refine lv_iload_n hx hb dMo_frame_45 rfl (lv_at hl 2 rfl) ?_
  refine k_iadd hx hb dMo_frame_46 ?_
  refine lv_istore hx hb dMo_frame_47 hl (by decide) rfl (fun ls hl => ?_)
  have hl : lv_has ls 5 [(4, .int (nI ((12 * s₀) + k₀))), (0, .ref h), (1, .int (nI s₀)), (2, .int (nI k₀)), (3, .int (nI w₀))] := hl
  refine lv_iload_n hx hb dMo_frame_49 rfl (lv_at hl 4 rfl) ?_
  rcases (show w₀ = 0 ∨ w₀ = 1 ∨ w₀ = 2 ∨ w₀ = 3 ∨ w₀ = 4 ∨ w₀ = 5 ∨ w₀ = 6 ∨ w₀ = 7 ∨ (w₀ < 0 ∨ 7 < w₀) by omega) with h50 | h50 | h50 | h50 | h50 | h50 | h50 | h50 | h50
  · refine k_tab (tgt := 96) hx hb 0 h50 dMo_frame_50 (by decide) (by decide) rfl rfl ?_
    refine lv_aload_n hx hb dMo_frame_96 rfl (lv_at hl 1 rfl) ?_
    refine va_get (D := D) (ci := 4) (v := .ref (ad 2)) (C := RMo) (T := TMo) (N := 29) hx hb ht inMo hown hE.1 hP 0 rfl rfl 2 (by decide) (ht _ tw_589) (fun _ h => h) rfl dMo_frame_97 ?_
    refine lv_iload hx hb dMo_frame_100 (lv_at hl 0 rfl) ?_
    refine k_iald hx hb hE.1 hP 2 0 (n := 24) (g := (M 2)) rfl rfl (i := ((12 * s₀) + k₀)) (by omega) (by decide) dMo_frame_102 ?_
    exact Co.reti hx hb hret hlk dMo_frame_103 hS hP hD () (by rw [sel8, if_pos (by omega)]) trivial rfl (Nat.le_of_ble_eq_true rfl) (Nat.le_of_ble_eq_true rfl)
  · refine k_tab (tgt := 104) hx hb 1 h50 dMo_frame_50 (by decide) (by decide) rfl rfl ?_
    refine lv_aload_n hx hb dMo_frame_104 rfl (lv_at hl 1 rfl) ?_
    refine va_get (D := D) (ci := 4) (v := .ref (ad 3)) (C := RMo) (T := TMo) (N := 29) hx hb ht inMo hown hE.1 hP 0 rfl rfl 3 (by decide) (ht _ tw_590) (fun _ h => h) rfl dMo_frame_105 ?_
    refine lv_iload hx hb dMo_frame_108 (lv_at hl 0 rfl) ?_
    refine k_iald hx hb hE.1 hP 3 0 (n := 24) (g := (M 3)) rfl rfl (i := ((12 * s₀) + k₀)) (by omega) (by decide) dMo_frame_110 ?_
    exact Co.reti hx hb hret hlk dMo_frame_111 hS hP hD () (by rw [sel8, if_neg (by omega), if_pos (by omega)]) trivial rfl (Nat.le_of_ble_eq_true rfl) (Nat.le_of_ble_eq_true rfl)
  · refine k_tab (tgt := 112) hx hb 2 h50 dMo_frame_50 (by decide) (by decide) rfl rfl ?_
    refine lv_aload_n hx hb dMo_frame_112 rfl (lv_at hl 1 rfl) ?_
    refine va_get (D := D) (ci := 4) (v := .ref (ad 4)) (C := RMo) (T := TMo) (N := 29) hx hb ht inMo hown hE.1 hP 0 rfl rfl 4 (by decide) (ht _ tw_591) (fun _ h => h) rfl dMo_frame_113 ?_
    refine lv_iload hx hb dMo_frame_116 (lv_at hl 0 rfl) ?_
    refine k_iald hx hb hE.1 hP 4 0 (n := 24) (g := (M 4)) rfl rfl (i := ((12 * s₀) + k₀)) (by omega) (by decide) dMo_frame_118 ?_
    exact Co.reti hx hb hret hlk dMo_frame_119 hS hP hD () (by rw [sel8, if_neg (by omega), if_neg (by omega), if_pos (by omega)]) trivial rfl (Nat.le_of_ble_eq_true rfl) (Nat.le_of_ble_eq_true rfl)
  · refine k_tab (tgt := 120) hx hb 3 h50 dMo_frame_50 (by decide) (by decide) rfl rfl ?_
    refine lv_aload_n hx hb dMo_frame_120 rfl (lv_at hl 1 rfl) ?_
    refine va_get (D := D) (ci := 4) (v := .ref (ad 5)) (C := RMo) (T := TMo) (N := 29) hx hb ht inMo hown hE.1 hP 0 rfl rfl 5 (by decide) (ht _ tw_592) (fun _ h => h) rfl dMo_frame_121 ?_
    refine lv_iload hx hb dMo_frame_124 (lv_at hl 0 rfl) ?_
    refine k_iald hx hb hE.1 hP 5 0 (n := 24) (g := (M 5)) rfl rfl (i := ((12 * s₀) + k₀)) (by omega) (by decide) dMo_frame_126 ?_
    exact Co.reti hx hb hret hlk dMo_frame_127 hS hP hD () (by rw [sel8, if_neg (by omega), if_neg (by omega), if_neg (by omega), if_pos (by omega)]) trivial rfl (Nat.le_of_ble_eq_true rfl) (Nat.le_of_ble_eq_true rfl)
  · refine k_tab (tgt := 128) hx hb 4 h50 dMo_frame_50 (by decide) (by decide) rfl rfl ?_
    refine lv_aload_n hx hb dMo_frame_128 rfl (lv_at hl 1 rfl) ?_
    refine va_get (D := D) (ci := 4) (v := .ref (ad 6)) (C := RMo) (T := TMo) (N := 29) hx hb ht inMo hown hE.1 hP 0 rfl rfl 6 (by decide) (ht _ tw_593) (fun _ h => h) rfl dMo_frame_129 ?_
    refine lv_iload hx hb dMo_frame_132 (lv_at hl 0 rfl) ?_
    refine k_iald hx hb hE.1 hP 6 0 (n := 24) (g := (M 6)) rfl rfl (i := ((12 * s₀) + k₀)) (by omega) (by decide) dMo_frame_134 ?_
    exact Co.reti hx hb hret hlk dMo_frame_135 hS hP hD () (by rw [sel8, if_neg (by omega), if_neg (by omega), if_neg (by omega), if_neg (by omega), if_pos (by omega)]) trivial rfl (Nat.le_of_ble_eq_true rfl) (Nat.le_of_ble_eq_true rfl)
  · refine k_tab (tgt := 136) hx hb 5 h50 dMo_frame_50 (by decide) (by decide) rfl rfl ?_
    refine lv_aload_n hx hb dMo_frame_136 rfl (lv_at hl 1 rfl) ?_
    refine va_get (D := D) (ci := 4) (v := .ref (ad 7)) (C := RMo) (T := TMo) (N := 29) hx hb ht inMo hown hE.1 hP 0 rfl rfl 7 (by decide) (ht _ tw_594) (fun _ h => h) rfl dMo_frame_137 ?_
    refine lv_iload hx hb dMo_frame_140 (lv_at hl 0 rfl) ?_
    refine k_iald hx hb hE.1 hP 7 0 (n := 24) (g := (M 7)) rfl rfl (i := ((12 * s₀) + k₀)) (by omega) (by decide) dMo_frame_142 ?_
    exact Co.reti hx hb hret hlk dMo_frame_143 hS hP hD () (by rw [sel8, if_neg (by omega), if_neg (by omega), if_neg (by omega), if_neg (by omega), if_neg (by omega), if_pos (by omega)]) trivial rfl (Nat.le_of_ble_eq_true rfl) (Nat.le_of_ble_eq_true rfl)
  · refine k_tab (tgt := 144) hx hb 6 h50 dMo_frame_50 (by decide) (by decide) rfl rfl ?_
    refine lv_aload_n hx hb dMo_frame_144 rfl (lv_at hl 1 rfl) ?_
    refine va_get (D := D) (ci := 4) (v := .ref (ad 8)) (C := RMo) (T := TMo) (N := 29) hx hb ht inMo hown hE.1 hP 0 rfl rfl 8 (by decide) (ht _ tw_595) (fun _ h => h) rfl dMo_frame_145 ?_
    refine lv_iload hx hb dMo_frame_148 (lv_at hl 0 rfl) ?_
    refine k_iald hx hb hE.1 hP 8 0 (n := 24) (g := (M 8)) rfl rfl (i := ((12 * s₀) + k₀)) (by omega) (by decide) dMo_frame_150 ?_
    exact Co.reti hx hb hret hlk dMo_frame_151 hS hP hD () (by rw [sel8, if_neg (by omega), if_neg (by omega), if_neg (by omega), if_neg (by omega), if_neg (by omega), if_neg (by omega), if_pos (by omega)]) trivial rfl (Nat.le_of_ble_eq_true rfl) (Nat.le_of_ble_eq_true rfl)
  · refine k_tab (tgt := 152) hx hb 7 h50 dMo_frame_50 (by decide) (by decide) rfl rfl ?_
    refine lv_aload_n hx hb dMo_frame_152 rfl (lv_at hl 1 rfl) ?_
    refine va_get (D := D) (ci := 4) (v := .ref (ad 9)) (C := RMo) (T := TMo) (N := 29) hx hb ht inMo hown hE.1 hP 0 rfl rfl 9 (by decide) (ht _ tw_596) (fun _ h => h) rfl dMo_frame_153 ?_
    refine lv_iload hx hb dMo_frame_156 (lv_at hl 0 rfl) ?_
    refine k_iald hx hb hE.1 hP 9 0 (n := 24) (g := (M 9)) rfl rfl (i := ((12 * s₀) + k₀)) (by omega) (by decide) dMo_frame_158 ?_
    exact Co.reti hx hb hret hlk dMo_frame_159 hS hP hD () (by rw [sel8, if_neg (by omega), if_neg (by omega), if_neg (by omega), if_neg (by omega), if_neg (by omega), if_neg (by omega), if_neg (by omega)]) trivial rfl (Nat.le_of_ble_eq_true rfl) (Nat.le_of_ble_eq_true rfl)
  · exfalso; omega
set_option maxHeartbeats 4000000 in
set_option maxRecDepth 100000 in
theorem c_Mo_frameW (l : Launch) (D : va_G) (ca : Nat → ClassId) (h : Nat) (ad : Nat → Nat) (co : Nat) (M : Nat → Nat → Nat) (s₀ k₀ : Nat) (hM : mOk M) (hs : s₀ < 2) (hk0 : k₀ < M 1 s₀) (w₁ : Int32) (hw1 : w₁.toInt < 0 ∨ 7 < w₁.toInt) : Co (S := Unit) l yMo_frame (Cond.code yMo_frame cMo_frame 5 (some FieldType.int) :: tb_) { frames := 1, cells := 0, slots := 0, locals := 32 } D ca [.ref h, .int (nI s₀), .int (nI k₀), .int w₁] (mW h ad ca co M) (fun _ => some (.int (-1))) (fun _ => True) (fun _ => (mW h ad ca 0 M)) 0 0 := by
  refine Co.of cMo_frame 5 (some FieldType.int) (by decide) (Nat.le_of_ble_eq_true rfl) ?_
  intro p e s m args below meth c A ls fx hret hlk hin hE hP hD hS hA hl
  have hx := fx.1
  have hb := fx.2.1
  have hown : s.vm.findClass RMo = some m.cls := fx.2.2.2.1
  have hts := fx.2.2.2.2
  have ht : ∀ w ∈ tb_, w.before args s = true := fun w h => hts w (List.mem_cons_of_mem _ h)
  have b1 : M 1 s₀ < 13 := hM 1 _
  have hl : lv_has ls 5 [(0, .ref h), (1, .int (nI s₀)), (2, .int (nI k₀)), (3, .int w₁)] := hl
  refine lv_aload_n hx hb dMo_frame_0 rfl (lv_at hl 0 rfl) ?_
  refine lv_iload_n hx hb dMo_frame_1 rfl (lv_at hl 1 rfl) ?_
  refine kI (rS fx (c_Mo_station l D ca s₀ (by omega)) ⟨callB_of 1 hts (tb_gi tw_686) rfl rfl rfl (ht _ tw_5) (ht _ tw_684) (by decide +kernel) ⟨(Nat.le_of_ble_eq_true rfl), (Nat.le_of_ble_eq_true rfl)⟩, ht _ tw_685⟩ hE hP hD [] rfl rfl rfl hl.1 rfl (Nat.le_of_ble_eq_true rfl) dMo_frame_2 ⟨(Nat.le_of_ble_eq_true rfl), (Nat.le_of_ble_eq_true rfl)⟩) hP hD hS hA [] [0, 1, 2, 3, 4, 5, 6, 7, 8, 9, 10, 11, 12, 13, 14, 15, 16, 17, 18, 19, 20, 21, 22, 23, 24, 25, 26, 27, 28] rfl rfl rfl (by decide) (fun _ H locs _ hP hD hS => ?_)
  have hP : va_P D cls_ (mW h ad ca co M) H := hP
  have hD : va_D A (mW h ad ca co M) := hD
  refine k_if_eq (tgt := 12) hx hb (by omega) dMo_frame_5 rfl (fun hz => absurd hz (by omega)) (fun h5 => ?_)
  refine lv_iconst (v := nI 0) hx hb dMo_frame_8 (by decide) ?_
  refine lv_goto (tgt := 13) hx hb dMo_frame_9 rfl ?_
  refine va_put (D := D) (ci := 4) (v := .int (nI 0)) (ty := .int) (C := RMo) (T := TMo) (N := 29) hx hb ht inMo tyMo tyMo_ok nmMo hown hE.1 hP hD hS 0 rfl rfl 0 (by decide) (ht _ tw_587) (fun _ h => h) rfl (by decide +kernel) rfl rfl (Nat.le_of_ble_eq_true rfl) dMo_frame_13 (fun H locs hP hD hS => ?_)
  have hP : va_P D cls_ (mW h ad ca 0 M) H := hP
  have hD : va_D A (mW h ad ca 0 M) := hD
  refine lv_aload_n hx hb dMo_frame_16 rfl (lv_at hl 0 rfl) ?_
  refine va_get (D := D) (ci := 4) (v := .int (nI 0)) (C := RMo) (T := TMo) (N := 29) hx hb ht inMo hown hE.1 hP 0 rfl rfl 0 (by decide) (ht _ tw_587) (fun _ h => h) rfl dMo_frame_17 ?_
  refine k_if_le (tgt := 25) hx hb (by omega) dMo_frame_20 rfl (fun h20 => ?_) (fun hz => absurd hz (by omega))
  refine lv_iload_n hx hb dMo_frame_25 rfl (lv_at hl 2 rfl) ?_
  refine k_if_lt (tgt := 39) hx hb (by omega) dMo_frame_26 rfl ?_
  refine lv_iload_n hx hb dMo_frame_29 rfl (lv_at hl 2 rfl) ?_
  refine lv_aload_n hx hb dMo_frame_30 rfl (lv_at hl 0 rfl) ?_
  refine va_get (D := D) (ci := 4) (v := .ref (ad 1)) (C := RMo) (T := TMo) (N := 29) hx hb ht inMo hown hE.1 hP 0 rfl rfl 1 (by decide) (ht _ tw_588) (fun _ h => h) rfl dMo_frame_31 ?_
  refine lv_iload_n hx hb dMo_frame_34 rfl (lv_at hl 1 rfl) ?_
  refine k_iald hx hb hE.1 hP 1 0 (n := 2) (g := (M 1)) rfl rfl (i := s₀) (by omega) (by decide) dMo_frame_35 ?_
  refine k_icmp_lt (tgt := 41) hx hb (by omega) (by omega) dMo_frame_36 rfl (fun h36 => ?_) (fun hz => absurd hz (by omega))
  refine lv_bipush (v := nI 12) hx hb dMo_frame_41 (by decide) ?_
  refine lv_iload_n hx hb dMo_frame_43 rfl (lv_at hl 1 rfl) ?_
  refine k_imul hx hb dMo_frame_44 ?_
  refine lv_iload_n hx hb dMo_frame_45 rfl (lv_at hl 2 rfl) ?_
  refine k_iadd hx hb dMo_frame_46 ?_
  refine lv_istore hx hb dMo_frame_47 hl (by decide) rfl (fun ls hl => ?_)
  have hl : lv_has ls 5 [(4, .int (nI ((12 * s₀) + k₀))), (0, .ref h), (1, .int (nI s₀)), (2, .int (nI k₀)), (3, .int w₁)] := hl
  refine lv_iload_n hx hb dMo_frame_49 rfl (lv_at hl 4 rfl) ?_
  refine lv_tableOut (tgt := 160) hx hb dMo_frame_50 hw1 rfl ?_
  refine lv_iconst (v := (-1)) hx hb dMo_frame_160 (by decide) ?_
  exact Co.reti hx hb hret hlk dMo_frame_161 hS hP hD () rfl trivial rfl (Nat.le_of_ble_eq_true rfl) (Nat.le_of_ble_eq_true rfl)
set_option maxHeartbeats 4000000 in
set_option maxRecDepth 100000 in
theorem c_Mo_frameN (l : Launch) (D : va_G) (ca : Nat → ClassId) (h : Nat) (ad : Nat → Nat) (co : Nat) (M : Nat → Nat → Nat) (s₀ : Nat) (hs : s₀ < 2) (k₁ w₁ : Int32) (hk1 : k₁ < 0 ∨ nI (M 1 s₀) ≤ k₁) : Co (S := Unit) l yMo_frame (Cond.code yMo_frame cMo_frame 5 (some FieldType.int) :: tb_) { frames := 1, cells := 0, slots := 0, locals := 32 } D ca [.ref h, .int (nI s₀), .int k₁, .int w₁] (mW h ad ca co M) (fun _ => some (.int (-1))) (fun _ => True) (fun _ => (mW h ad ca 0 M)) 0 0 := by
  refine Co.of cMo_frame 5 (some FieldType.int) (by decide) (Nat.le_of_ble_eq_true rfl) ?_
  intro p e s m args below meth c A ls fx hret hlk hin hE hP hD hS hA hl
  have hx := fx.1
  have hb := fx.2.1
  have hown : s.vm.findClass RMo = some m.cls := fx.2.2.2.1
  have hts := fx.2.2.2.2
  have ht : ∀ w ∈ tb_, w.before args s = true := fun w h => hts w (List.mem_cons_of_mem _ h)
  have hl : lv_has ls 5 [(0, .ref h), (1, .int (nI s₀)), (2, .int k₁), (3, .int w₁)] := hl
  refine lv_aload_n hx hb dMo_frame_0 rfl (lv_at hl 0 rfl) ?_
  refine lv_iload_n hx hb dMo_frame_1 rfl (lv_at hl 1 rfl) ?_
  refine kI (rS fx (c_Mo_station l D ca s₀ (by omega)) ⟨callB_of 1 hts (tb_gi tw_686) rfl rfl rfl (ht _ tw_5) (ht _ tw_684) (by decide +kernel) ⟨(Nat.le_of_ble_eq_true rfl), (Nat.le_of_ble_eq_true rfl)⟩, ht _ tw_685⟩ hE hP hD [] rfl rfl rfl hl.1 rfl (Nat.le_of_ble_eq_true rfl) dMo_frame_2 ⟨(Nat.le_of_ble_eq_true rfl), (Nat.le_of_ble_eq_true rfl)⟩) hP hD hS hA [] [0, 1, 2, 3, 4, 5, 6, 7, 8, 9, 10, 11, 12, 13, 14, 15, 16, 17, 18, 19, 20, 21, 22, 23, 24, 25, 26, 27, 28] rfl rfl rfl (by decide) (fun _ H locs _ hP hD hS => ?_)
  have hP : va_P D cls_ (mW h ad ca co M) H := hP
  have hD : va_D A (mW h ad ca co M) := hD
  refine k_if_eq (tgt := 12) hx hb (by omega) dMo_frame_5 rfl (fun hz => absurd hz (by omega)) (fun h5 => ?_)
  refine lv_iconst (v := nI 0) hx hb dMo_frame_8 (by decide) ?_
  refine lv_goto (tgt := 13) hx hb dMo_frame_9 rfl ?_
  refine va_put (D := D) (ci := 4) (v := .int (nI 0)) (ty := .int) (C := RMo) (T := TMo) (N := 29) hx hb ht inMo tyMo tyMo_ok nmMo hown hE.1 hP hD hS 0 rfl rfl 0 (by decide) (ht _ tw_587) (fun _ h => h) rfl (by decide +kernel) rfl rfl (Nat.le_of_ble_eq_true rfl) dMo_frame_13 (fun H locs hP hD hS => ?_)
  have hP : va_P D cls_ (mW h ad ca 0 M) H := hP
  have hD : va_D A (mW h ad ca 0 M) := hD
  refine lv_aload_n hx hb dMo_frame_16 rfl (lv_at hl 0 rfl) ?_
  refine va_get (D := D) (ci := 4) (v := .int (nI 0)) (C := RMo) (T := TMo) (N := 29) hx hb ht inMo hown hE.1 hP 0 rfl rfl 0 (by decide) (ht _ tw_587) (fun _ h => h) rfl dMo_frame_17 ?_
  refine k_if_le (tgt := 25) hx hb (by omega) dMo_frame_20 rfl (fun h20 => ?_) (fun hz => absurd hz (by omega))
  refine lv_iload_n hx hb dMo_frame_25 rfl (lv_at hl 2 rfl) ?_
  refine lv_if_lt (tgt := 39) hx hb dMo_frame_26 rfl (fun h26 => ?_) (fun h26 => ?_)
  · refine lv_iconst (v := (-1)) hx hb dMo_frame_39 (by decide) ?_
    exact Co.reti hx hb hret hlk dMo_frame_40 hS hP hD () rfl trivial rfl (Nat.le_of_ble_eq_true rfl) (Nat.le_of_ble_eq_true rfl)
  · refine lv_iload_n hx hb dMo_frame_29 rfl (lv_at hl 2 rfl) ?_
    refine lv_aload_n hx hb dMo_frame_30 rfl (lv_at hl 0 rfl) ?_
    refine va_get (D := D) (ci := 4) (v := .ref (ad 1)) (C := RMo) (T := TMo) (N := 29) hx hb ht inMo hown hE.1 hP 0 rfl rfl 1 (by decide) (ht _ tw_588) (fun _ h => h) rfl dMo_frame_31 ?_
    refine lv_iload_n hx hb dMo_frame_34 rfl (lv_at hl 1 rfl) ?_
    refine k_iald hx hb hE.1 hP 1 0 (n := 2) (g := (M 1)) rfl rfl (i := s₀) (by omega) (by decide) dMo_frame_35 ?_
    refine lv_icmp_lt (tgt := 41) hx hb dMo_frame_36 rfl (fun hz => absurd hz (Int32.not_lt.mpr (hk1.resolve_left h26))) (fun h36 => ?_)
    refine lv_iconst (v := (-1)) hx hb dMo_frame_39 (by decide) ?_
    exact Co.reti hx hb hret hlk dMo_frame_40 hS hP hD () rfl trivial rfl (Nat.le_of_ble_eq_true rfl) (Nat.le_of_ble_eq_true rfl)
set_option maxHeartbeats 4000000 in
set_option maxRecDepth 100000 in
theorem c_Mo_frameX (l : Launch) (D : va_G) (ca : Nat → ClassId) (h : Nat) (ad : Nat → Nat) (co : Nat) (M : Nat → Nat → Nat) (x₀ : Int32) (hx0 : ¬ x₀ = 0) (hx1 : ¬ x₀ = nI 1) (k₁ w₁ : Int32) : Co (S := Unit) l yMo_frame (Cond.code yMo_frame cMo_frame 5 (some FieldType.int) :: tb_) { frames := 1, cells := 0, slots := 0, locals := 32 } D ca [.ref h, .int x₀, .int k₁, .int w₁] (mW h ad ca co M) (fun _ => some (.int (nI 0))) (fun _ => True) (fun _ => (mW h ad ca 1 M)) 0 0 := by
  refine Co.of cMo_frame 5 (some FieldType.int) (by decide) (Nat.le_of_ble_eq_true rfl) ?_
  intro p e s m args below meth c A ls fx hret hlk hin hE hP hD hS hA hl
  have hx := fx.1
  have hb := fx.2.1
  have hown : s.vm.findClass RMo = some m.cls := fx.2.2.2.1
  have hts := fx.2.2.2.2
  have ht : ∀ w ∈ tb_, w.before args s = true := fun w h => hts w (List.mem_cons_of_mem _ h)
  have hl : lv_has ls 5 [(0, .ref h), (1, .int x₀), (2, .int k₁), (3, .int w₁)] := hl
  refine lv_aload_n hx hb dMo_frame_0 rfl (lv_at hl 0 rfl) ?_
  refine lv_iload_n hx hb dMo_frame_1 rfl (lv_at hl 1 rfl) ?_
  refine kI (rS fx (c_Mo_stationX l D ca x₀ hx0 hx1) ⟨callB_of 1 hts (tb_gi tw_686) rfl rfl rfl (ht _ tw_5) (ht _ tw_684) (by decide +kernel) ⟨(Nat.le_of_ble_eq_true rfl), (Nat.le_of_ble_eq_true rfl)⟩, ht _ tw_685⟩ hE hP hD [] rfl rfl rfl hl.1 rfl (Nat.le_of_ble_eq_true rfl) dMo_frame_2 ⟨(Nat.le_of_ble_eq_true rfl), (Nat.le_of_ble_eq_true rfl)⟩) hP hD hS hA [] [0, 1, 2, 3, 4, 5, 6, 7, 8, 9, 10, 11, 12, 13, 14, 15, 16, 17, 18, 19, 20, 21, 22, 23, 24, 25, 26, 27, 28] rfl rfl rfl (by decide) (fun _ H locs _ hP hD hS => ?_)
  have hP : va_P D cls_ (mW h ad ca co M) H := hP
  have hD : va_D A (mW h ad ca co M) := hD
  refine k_if_eq (tgt := 12) hx hb (by omega) dMo_frame_5 rfl (fun h5 => ?_) (fun hz => absurd hz (by omega))
  refine lv_iconst (v := nI 1) hx hb dMo_frame_12 (by decide) ?_
  refine va_put (D := D) (ci := 4) (v := .int (nI 1)) (ty := .int) (C := RMo) (T := TMo) (N := 29) hx hb ht inMo tyMo tyMo_ok nmMo hown hE.1 hP hD hS 0 rfl rfl 0 (by decide) (ht _ tw_587) (fun _ h => h) rfl (by decide +kernel) rfl rfl (Nat.le_of_ble_eq_true rfl) dMo_frame_13 (fun H locs hP hD hS => ?_)
  have hP : va_P D cls_ (mW h ad ca 1 M) H := hP
  have hD : va_D A (mW h ad ca 1 M) := hD
  refine lv_aload_n hx hb dMo_frame_16 rfl (lv_at hl 0 rfl) ?_
  refine va_get (D := D) (ci := 4) (v := .int (nI 1)) (C := RMo) (T := TMo) (N := 29) hx hb ht inMo hown hE.1 hP 0 rfl rfl 0 (by decide) (ht _ tw_587) (fun _ h => h) rfl dMo_frame_17 ?_
  refine k_if_le (tgt := 25) hx hb (by omega) dMo_frame_20 rfl (fun hz => absurd hz (by omega)) (fun h20 => ?_)
  refine lv_iconst (v := nI 0) hx hb dMo_frame_23 (by decide) ?_
  exact Co.reti hx hb hret hlk dMo_frame_24 hS hP hD () rfl trivial rfl (Nat.le_of_ble_eq_true rfl) (Nat.le_of_ble_eq_true rfl)
set_option maxHeartbeats 4000000 in
set_option maxRecDepth 100000 in
theorem c_Mo_peek (l : Launch) (D : va_G) (ca : Nat → ClassId) (h : Nat) (ad : Nat → Nat) (co : Nat) (M : Nat → Nat → Nat) (s₀ cn : Nat) (hM : mOk M) (hs : s₀ < 2) (hc : cn < 3) (hne : M 26 (3 * s₀ + cn) ≠ M 27 (3 * s₀ + cn)) : Co (S := Unit) l yMo_peek (Cond.code yMo_peek cMo_peek 4 (some FieldType.int) :: tb_) { frames := 2, cells := 0, slots := 0, locals := 64 } D ca [.ref h, .int (nI s₀), .int (nI cn)] (mW h ad ca co M) (fun _ => some (.int (nI (M 28 (2 * (3 * s₀ + cn)))))) (fun _ => True) (fun _ => (mW h ad ca 0 M)) 0 0 := by
  refine Co.of cMo_peek 4 (some FieldType.int) (by decide) (Nat.le_of_ble_eq_true rfl) ?_
  intro p e s m args below meth c A ls fx hret hlk hin hE hP hD hS hA hl
  have hx := fx.1
  have hb := fx.2.1
  have hown : s.vm.findClass RMo = some m.cls := fx.2.2.2.1
  have hts := fx.2.2.2.2
  have ht : ∀ w ∈ tb_, w.before args s = true := fun w h => hts w (List.mem_cons_of_mem _ h)
  have b1 : M 26 (3 * s₀ + cn) < 8 := hM 26 _
  have b2 : M 27 (3 * s₀ + cn) < 8 := hM 27 _
  have hl : lv_has ls 4 [(0, .ref h), (1, .int (nI s₀)), (2, .int (nI cn))] := hl
  refine lv_aload_n hx hb dMo_peek_0 rfl (lv_at hl 0 rfl) ?_
  refine lv_iload_n hx hb dMo_peek_1 rfl (lv_at hl 1 rfl) ?_
  refine lv_iload_n hx hb dMo_peek_2 rfl (lv_at hl 2 rfl) ?_
  refine kI (rS fx (c_Mo_channelOf l D ca s₀ cn (by omega) (by omega)) ⟨callB_of 2 hts (tb_gi tw_767) rfl rfl rfl (ht _ tw_5) (ht _ tw_765) (by decide +kernel) ⟨(Nat.le_of_ble_eq_true rfl), (Nat.le_of_ble_eq_true rfl)⟩, ht _ tw_766⟩ hE hP hD [] rfl rfl rfl hl.1 rfl (Nat.le_of_ble_eq_true rfl) dMo_peek_3 ⟨(Nat.le_of_ble_eq_true rfl), (Nat.le_of_ble_eq_true rfl)⟩) hP hD hS hA [] [0, 1, 2, 3, 4, 5, 6, 7, 8, 9, 10, 11, 12, 13, 14, 15, 16, 17, 18, 19, 20, 21, 22, 23, 24, 25, 26, 27, 28] rfl rfl rfl (by decide) (fun _ H locs _ hP hD hS => ?_)
  have hP : va_P D cls_ (mW h ad ca co M) H := hP
  have hD : va_D A (mW h ad ca co M) := hD
  refine k_if_eq (tgt := 13) hx hb (by omega) dMo_peek_6 rfl (fun hz => absurd hz (by omega)) (fun h6 => ?_)
  refine lv_iconst (v := nI 0) hx hb dMo_peek_9 (by decide) ?_
  refine lv_goto (tgt := 14) hx hb dMo_peek_10 rfl ?_
  refine va_put (D := D) (ci := 4) (v := .int (nI 0)) (ty := .int) (C := RMo) (T := TMo) (N := 29) hx hb ht inMo tyMo tyMo_ok nmMo hown hE.1 hP hD hS 0 rfl rfl 0 (by decide) (ht _ tw_587) (fun _ h => h) rfl (by decide +kernel) rfl rfl (Nat.le_of_ble_eq_true rfl) dMo_peek_14 (fun H locs hP hD hS => ?_)
  have hP : va_P D cls_ (mW h ad ca 0 M) H := hP
  have hD : va_D A (mW h ad ca 0 M) := hD
  refine lv_aload_n hx hb dMo_peek_17 rfl (lv_at hl 0 rfl) ?_
  refine va_get (D := D) (ci := 4) (v := .int (nI 0)) (C := RMo) (T := TMo) (N := 29) hx hb ht inMo hown hE.1 hP 0 rfl rfl 0 (by decide) (ht _ tw_587) (fun _ h => h) rfl dMo_peek_18 ?_
  refine k_if_le (tgt := 26) hx hb (by omega) dMo_peek_21 rfl (fun h21 => ?_) (fun hz => absurd hz (by omega))
  refine lv_iconst (v := nI 3) hx hb dMo_peek_26 (by decide) ?_
  refine lv_iload_n hx hb dMo_peek_27 rfl (lv_at hl 1 rfl) ?_
  refine k_imul hx hb dMo_peek_28 ?_
  refine lv_iload_n hx hb dMo_peek_29 rfl (lv_at hl 2 rfl) ?_
  refine k_iadd hx hb dMo_peek_30 ?_
  refine lv_istore_n hx hb dMo_peek_31 rfl hl (by decide) rfl (fun ls hl => ?_)
  have hl : lv_has ls 4 [(3, .int (nI ((3 * s₀) + cn))), (0, .ref h), (1, .int (nI s₀)), (2, .int (nI cn))] := hl
  refine lv_aload_n hx hb dMo_peek_32 rfl (lv_at hl 1 rfl) ?_
  refine va_get (D := D) (ci := 4) (v := .ref (ad 26)) (C := RMo) (T := TMo) (N := 29) hx hb ht inMo hown hE.1 hP 0 rfl rfl 26 (by decide) (ht _ tw_613) (fun _ h => h) rfl dMo_peek_33 ?_
  refine lv_iload_n hx hb dMo_peek_36 rfl (lv_at hl 0 rfl) ?_
  refine k_iald hx hb hE.1 hP 26 0 (n := 6) (g := (M 26)) rfl rfl (i := ((3 * s₀) + cn)) (by omega) (by decide) dMo_peek_37 ?_
  refine lv_aload_n hx hb dMo_peek_38 rfl (lv_at hl 1 rfl) ?_
  refine va_get (D := D) (ci := 4) (v := .ref (ad 27)) (C := RMo) (T := TMo) (N := 29) hx hb ht inMo hown hE.1 hP 0 rfl rfl 27 (by decide) (ht _ tw_614) (fun _ h => h) rfl dMo_peek_39 ?_
  refine lv_iload_n hx hb dMo_peek_42 rfl (lv_at hl 0 rfl) ?_
  refine k_iald hx hb hE.1 hP 27 0 (n := 6) (g := (M 27)) rfl rfl (i := ((3 * s₀) + cn)) (by omega) (by decide) dMo_peek_43 ?_
  refine k_icmp_ne (tgt := 51) hx hb (by omega) (by omega) dMo_peek_44 rfl (fun h44 => ?_) (fun hz => absurd hz (by omega))
  refine lv_aload_n hx hb dMo_peek_51 rfl (lv_at hl 1 rfl) ?_
  refine va_get (D := D) (ci := 4) (v := .ref (ad 28)) (C := RMo) (T := TMo) (N := 29) hx hb ht inMo hown hE.1 hP 0 rfl rfl 28 (by decide) (ht _ tw_615) (fun _ h => h) rfl dMo_peek_52 ?_
  refine lv_iconst (v := nI 2) hx hb dMo_peek_55 (by decide) ?_
  refine lv_iload_n hx hb dMo_peek_56 rfl (lv_at hl 0 rfl) ?_
  refine k_imul hx hb dMo_peek_57 ?_
  refine k_iald hx hb hE.1 hP 28 0 (n := 12) (g := (M 28)) rfl rfl (i := (2 * ((3 * s₀) + cn))) (by omega) (by decide) dMo_peek_58 ?_
  exact Co.reti hx hb hret hlk dMo_peek_59 hS hP hD () rfl trivial rfl (Nat.le_of_ble_eq_true rfl) (Nat.le_of_ble_eq_true rfl)
set_option maxHeartbeats 4000000 in
set_option maxRecDepth 100000 in
theorem c_Mo_peekN (l : Launch) (D : va_G) (ca : Nat → ClassId) (h : Nat) (ad : Nat → Nat) (co : Nat) (M : Nat → Nat → Nat) (s₀ cn : Nat) (hM : mOk M) (hs : s₀ < 2) (hc : cn < 3) (hne : M 26 (3 * s₀ + cn) = M 27 (3 * s₀ + cn)) : Co (S := Unit) l yMo_peek (Cond.code yMo_peek cMo_peek 4 (some FieldType.int) :: tb_) { frames := 2, cells := 0, slots := 0, locals := 64 } D ca [.ref h, .int (nI s₀), .int (nI cn)] (mW h ad ca co M) (fun _ => some (.int (-1))) (fun _ => True) (fun _ => (mW h ad ca 0 M)) 0 0 := by
  refine Co.of cMo_peek 4 (some FieldType.int) (by decide) (Nat.le_of_ble_eq_true rfl) ?_
  intro p e s m args below meth c A ls fx hret hlk hin hE hP hD hS hA hl
  have hx := fx.1
  have hb := fx.2.1
  have hown : s.vm.findClass RMo = some m.cls := fx.2.2.2.1
  have hts := fx.2.2.2.2
  have ht : ∀ w ∈ tb_, w.before args s = true := fun w h => hts w (List.mem_cons_of_mem _ h)
  have b1 : M 26 (3 * s₀ + cn) < 8 := hM 26 _
  have b2 : M 27 (3 * s₀ + cn) < 8 := hM 27 _
  have hl : lv_has ls 4 [(0, .ref h), (1, .int (nI s₀)), (2, .int (nI cn))] := hl
  refine lv_aload_n hx hb dMo_peek_0 rfl (lv_at hl 0 rfl) ?_
  refine lv_iload_n hx hb dMo_peek_1 rfl (lv_at hl 1 rfl) ?_
  refine lv_iload_n hx hb dMo_peek_2 rfl (lv_at hl 2 rfl) ?_
  refine kI (rS fx (c_Mo_channelOf l D ca s₀ cn (by omega) (by omega)) ⟨callB_of 2 hts (tb_gi tw_767) rfl rfl rfl (ht _ tw_5) (ht _ tw_765) (by decide +kernel) ⟨(Nat.le_of_ble_eq_true rfl), (Nat.le_of_ble_eq_true rfl)⟩, ht _ tw_766⟩ hE hP hD [] rfl rfl rfl hl.1 rfl (Nat.le_of_ble_eq_true rfl) dMo_peek_3 ⟨(Nat.le_of_ble_eq_true rfl), (Nat.le_of_ble_eq_true rfl)⟩) hP hD hS hA [] [0, 1, 2, 3, 4, 5, 6, 7, 8, 9, 10, 11, 12, 13, 14, 15, 16, 17, 18, 19, 20, 21, 22, 23, 24, 25, 26, 27, 28] rfl rfl rfl (by decide) (fun _ H locs _ hP hD hS => ?_)
  have hP : va_P D cls_ (mW h ad ca co M) H := hP
  have hD : va_D A (mW h ad ca co M) := hD
  refine k_if_eq (tgt := 13) hx hb (by omega) dMo_peek_6 rfl (fun hz => absurd hz (by omega)) (fun h6 => ?_)
  refine lv_iconst (v := nI 0) hx hb dMo_peek_9 (by decide) ?_
  refine lv_goto (tgt := 14) hx hb dMo_peek_10 rfl ?_
  refine va_put (D := D) (ci := 4) (v := .int (nI 0)) (ty := .int) (C := RMo) (T := TMo) (N := 29) hx hb ht inMo tyMo tyMo_ok nmMo hown hE.1 hP hD hS 0 rfl rfl 0 (by decide) (ht _ tw_587) (fun _ h => h) rfl (by decide +kernel) rfl rfl (Nat.le_of_ble_eq_true rfl) dMo_peek_14 (fun H locs hP hD hS => ?_)
  have hP : va_P D cls_ (mW h ad ca 0 M) H := hP
  have hD : va_D A (mW h ad ca 0 M) := hD
  refine lv_aload_n hx hb dMo_peek_17 rfl (lv_at hl 0 rfl) ?_
  refine va_get (D := D) (ci := 4) (v := .int (nI 0)) (C := RMo) (T := TMo) (N := 29) hx hb ht inMo hown hE.1 hP 0 rfl rfl 0 (by decide) (ht _ tw_587) (fun _ h => h) rfl dMo_peek_18 ?_
  refine k_if_le (tgt := 26) hx hb (by omega) dMo_peek_21 rfl (fun h21 => ?_) (fun hz => absurd hz (by omega))
  refine lv_iconst (v := nI 3) hx hb dMo_peek_26 (by decide) ?_
  refine lv_iload_n hx hb dMo_peek_27 rfl (lv_at hl 1 rfl) ?_
  refine k_imul hx hb dMo_peek_28 ?_
  refine lv_iload_n hx hb dMo_peek_29 rfl (lv_at hl 2 rfl) ?_
  refine k_iadd hx hb dMo_peek_30 ?_
  refine lv_istore_n hx hb dMo_peek_31 rfl hl (by decide) rfl (fun ls hl => ?_)
  have hl : lv_has ls 4 [(3, .int (nI ((3 * s₀) + cn))), (0, .ref h), (1, .int (nI s₀)), (2, .int (nI cn))] := hl
  refine lv_aload_n hx hb dMo_peek_32 rfl (lv_at hl 1 rfl) ?_
  refine va_get (D := D) (ci := 4) (v := .ref (ad 26)) (C := RMo) (T := TMo) (N := 29) hx hb ht inMo hown hE.1 hP 0 rfl rfl 26 (by decide) (ht _ tw_613) (fun _ h => h) rfl dMo_peek_33 ?_
  refine lv_iload_n hx hb dMo_peek_36 rfl (lv_at hl 0 rfl) ?_
  refine k_iald hx hb hE.1 hP 26 0 (n := 6) (g := (M 26)) rfl rfl (i := ((3 * s₀) + cn)) (by omega) (by decide) dMo_peek_37 ?_
  refine lv_aload_n hx hb dMo_peek_38 rfl (lv_at hl 1 rfl) ?_
  refine va_get (D := D) (ci := 4) (v := .ref (ad 27)) (C := RMo) (T := TMo) (N := 29) hx hb ht inMo hown hE.1 hP 0 rfl rfl 27 (by decide) (ht _ tw_614) (fun _ h => h) rfl dMo_peek_39 ?_
  refine lv_iload_n hx hb dMo_peek_42 rfl (lv_at hl 0 rfl) ?_
  refine k_iald hx hb hE.1 hP 27 0 (n := 6) (g := (M 27)) rfl rfl (i := ((3 * s₀) + cn)) (by omega) (by decide) dMo_peek_43 ?_
  refine k_icmp_ne (tgt := 51) hx hb (by omega) (by omega) dMo_peek_44 rfl (fun hz => absurd hz (by omega)) (fun h44 => ?_)
  refine lv_iconst (v := (-1)) hx hb dMo_peek_47 (by decide) ?_
  refine lv_goto (tgt := 59) hx hb dMo_peek_48 rfl ?_
  exact Co.reti hx hb hret hlk dMo_peek_59 hS hP hD () rfl trivial rfl (Nat.le_of_ble_eq_true rfl) (Nat.le_of_ble_eq_true rfl)
set_option maxHeartbeats 4000000 in
set_option maxRecDepth 100000 in
theorem c_Mo_peekX (l : Launch) (D : va_G) (ca : Nat → ClassId) (h : Nat) (ad : Nat → Nat) (co : Nat) (M : Nat → Nat → Nat) (x₀ : Int32) (hx0 : ¬ x₀ = 0) (hx1 : ¬ x₀ = nI 1) (y₀ : Int32) : Co (S := Unit) l yMo_peek (Cond.code yMo_peek cMo_peek 4 (some FieldType.int) :: tb_) { frames := 2, cells := 0, slots := 0, locals := 64 } D ca [.ref h, .int x₀, .int y₀] (mW h ad ca co M) (fun _ => some (.int (nI 0))) (fun _ => True) (fun _ => (mW h ad ca 1 M)) 0 0 := by
  refine Co.of cMo_peek 4 (some FieldType.int) (by decide) (Nat.le_of_ble_eq_true rfl) ?_
  intro p e s m args below meth c A ls fx hret hlk hin hE hP hD hS hA hl
  have hx := fx.1
  have hb := fx.2.1
  have hown : s.vm.findClass RMo = some m.cls := fx.2.2.2.1
  have hts := fx.2.2.2.2
  have ht : ∀ w ∈ tb_, w.before args s = true := fun w h => hts w (List.mem_cons_of_mem _ h)
  have hl : lv_has ls 4 [(0, .ref h), (1, .int x₀), (2, .int y₀)] := hl
  refine lv_aload_n hx hb dMo_peek_0 rfl (lv_at hl 0 rfl) ?_
  refine lv_iload_n hx hb dMo_peek_1 rfl (lv_at hl 1 rfl) ?_
  refine lv_iload_n hx hb dMo_peek_2 rfl (lv_at hl 2 rfl) ?_
  refine kI (rS fx (c_Mo_channelOfX l D ca x₀ hx0 hx1 y₀) ⟨callB_of 2 hts (tb_gi tw_767) rfl rfl rfl (ht _ tw_5) (ht _ tw_765) (by decide +kernel) ⟨(Nat.le_of_ble_eq_true rfl), (Nat.le_of_ble_eq_true rfl)⟩, ht _ tw_766⟩ hE hP hD [] rfl rfl rfl hl.1 rfl (Nat.le_of_ble_eq_true rfl) dMo_peek_3 ⟨(Nat.le_of_ble_eq_true rfl), (Nat.le_of_ble_eq_true rfl)⟩) hP hD hS hA [] [0, 1, 2, 3, 4, 5, 6, 7, 8, 9, 10, 11, 12, 13, 14, 15, 16, 17, 18, 19, 20, 21, 22, 23, 24, 25, 26, 27, 28] rfl rfl rfl (by decide) (fun _ H locs _ hP hD hS => ?_)
  have hP : va_P D cls_ (mW h ad ca co M) H := hP
  have hD : va_D A (mW h ad ca co M) := hD
  refine k_if_eq (tgt := 13) hx hb (by omega) dMo_peek_6 rfl (fun h6 => ?_) (fun hz => absurd hz (by omega))
  refine lv_iconst (v := nI 1) hx hb dMo_peek_13 (by decide) ?_
  refine va_put (D := D) (ci := 4) (v := .int (nI 1)) (ty := .int) (C := RMo) (T := TMo) (N := 29) hx hb ht inMo tyMo tyMo_ok nmMo hown hE.1 hP hD hS 0 rfl rfl 0 (by decide) (ht _ tw_587) (fun _ h => h) rfl (by decide +kernel) rfl rfl (Nat.le_of_ble_eq_true rfl) dMo_peek_14 (fun H locs hP hD hS => ?_)
  have hP : va_P D cls_ (mW h ad ca 1 M) H := hP
  have hD : va_D A (mW h ad ca 1 M) := hD
  refine lv_aload_n hx hb dMo_peek_17 rfl (lv_at hl 0 rfl) ?_
  refine va_get (D := D) (ci := 4) (v := .int (nI 1)) (C := RMo) (T := TMo) (N := 29) hx hb ht inMo hown hE.1 hP 0 rfl rfl 0 (by decide) (ht _ tw_587) (fun _ h => h) rfl dMo_peek_18 ?_
  refine k_if_le (tgt := 26) hx hb (by omega) dMo_peek_21 rfl (fun hz => absurd hz (by omega)) (fun h21 => ?_)
  refine lv_iconst (v := nI 0) hx hb dMo_peek_24 (by decide) ?_
  exact Co.reti hx hb hret hlk dMo_peek_25 hS hP hD () rfl trivial rfl (Nat.le_of_ble_eq_true rfl) (Nat.le_of_ble_eq_true rfl)
set_option maxHeartbeats 4000000 in
set_option maxRecDepth 100000 in
theorem c_Mo_peekC (l : Launch) (D : va_G) (ca : Nat → ClassId) (h : Nat) (ad : Nat → Nat) (co : Nat) (M : Nat → Nat → Nat) (s₀ : Nat) (hs : s₀ < 2) (y₀ : Int32) (hy0 : y₀ < 0 ∨ nI 3 ≤ y₀) : Co (S := Unit) l yMo_peek (Cond.code yMo_peek cMo_peek 4 (some FieldType.int) :: tb_) { frames := 2, cells := 0, slots := 0, locals := 64 } D ca [.ref h, .int (nI s₀), .int y₀] (mW h ad ca co M) (fun _ => some (.int (nI 0))) (fun _ => True) (fun _ => (mW h ad ca 1 M)) 0 0 := by
  refine Co.of cMo_peek 4 (some FieldType.int) (by decide) (Nat.le_of_ble_eq_true rfl) ?_
  intro p e s m args below meth c A ls fx hret hlk hin hE hP hD hS hA hl
  have hx := fx.1
  have hb := fx.2.1
  have hown : s.vm.findClass RMo = some m.cls := fx.2.2.2.1
  have hts := fx.2.2.2.2
  have ht : ∀ w ∈ tb_, w.before args s = true := fun w h => hts w (List.mem_cons_of_mem _ h)
  have hl : lv_has ls 4 [(0, .ref h), (1, .int (nI s₀)), (2, .int y₀)] := hl
  refine lv_aload_n hx hb dMo_peek_0 rfl (lv_at hl 0 rfl) ?_
  refine lv_iload_n hx hb dMo_peek_1 rfl (lv_at hl 1 rfl) ?_
  refine lv_iload_n hx hb dMo_peek_2 rfl (lv_at hl 2 rfl) ?_
  refine kI (rS fx (c_Mo_channelOfC l D ca s₀ (by omega) y₀ hy0) ⟨callB_of 2 hts (tb_gi tw_767) rfl rfl rfl (ht _ tw_5) (ht _ tw_765) (by decide +kernel) ⟨(Nat.le_of_ble_eq_true rfl), (Nat.le_of_ble_eq_true rfl)⟩, ht _ tw_766⟩ hE hP hD [] rfl rfl rfl hl.1 rfl (Nat.le_of_ble_eq_true rfl) dMo_peek_3 ⟨(Nat.le_of_ble_eq_true rfl), (Nat.le_of_ble_eq_true rfl)⟩) hP hD hS hA [] [0, 1, 2, 3, 4, 5, 6, 7, 8, 9, 10, 11, 12, 13, 14, 15, 16, 17, 18, 19, 20, 21, 22, 23, 24, 25, 26, 27, 28] rfl rfl rfl (by decide) (fun _ H locs _ hP hD hS => ?_)
  have hP : va_P D cls_ (mW h ad ca co M) H := hP
  have hD : va_D A (mW h ad ca co M) := hD
  refine k_if_eq (tgt := 13) hx hb (by omega) dMo_peek_6 rfl (fun h6 => ?_) (fun hz => absurd hz (by omega))
  refine lv_iconst (v := nI 1) hx hb dMo_peek_13 (by decide) ?_
  refine va_put (D := D) (ci := 4) (v := .int (nI 1)) (ty := .int) (C := RMo) (T := TMo) (N := 29) hx hb ht inMo tyMo tyMo_ok nmMo hown hE.1 hP hD hS 0 rfl rfl 0 (by decide) (ht _ tw_587) (fun _ h => h) rfl (by decide +kernel) rfl rfl (Nat.le_of_ble_eq_true rfl) dMo_peek_14 (fun H locs hP hD hS => ?_)
  have hP : va_P D cls_ (mW h ad ca 1 M) H := hP
  have hD : va_D A (mW h ad ca 1 M) := hD
  refine lv_aload_n hx hb dMo_peek_17 rfl (lv_at hl 0 rfl) ?_
  refine va_get (D := D) (ci := 4) (v := .int (nI 1)) (C := RMo) (T := TMo) (N := 29) hx hb ht inMo hown hE.1 hP 0 rfl rfl 0 (by decide) (ht _ tw_587) (fun _ h => h) rfl dMo_peek_18 ?_
  refine k_if_le (tgt := 26) hx hb (by omega) dMo_peek_21 rfl (fun hz => absurd hz (by omega)) (fun h21 => ?_)
  refine lv_iconst (v := nI 0) hx hb dMo_peek_24 (by decide) ?_
  exact Co.reti hx hb hret hlk dMo_peek_25 hS hP hD () rfl trivial rfl (Nat.le_of_ble_eq_true rfl) (Nat.le_of_ble_eq_true rfl)
