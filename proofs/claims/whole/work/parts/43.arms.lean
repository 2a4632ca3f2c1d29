/-! The arms of the law's switch. -/
theorem csw_of {R : Room} {s : State} {args : Array Value} {c0 : Cond} {own : String} {index maxL : Nat} {y : MethodName} {bytes : ByteArray} {ret : Option FieldType} {hh : List (Nat × Nat × Nat × Nat)} {rm : Room} (n : Nat) (ht : ∀ w ∈ c0 :: tb_, w.before args s = true) (hc : Cond.codeWith y bytes maxL ret hh ∈ tb_) (hi : Cond.initialized y.cls ∈ tb_) (hl : Cond.methodLink own index y ∈ tb_) (hst : Cond.static y ∈ tb_)
    (hd : y.cls ≠ "java/lang/invoke/MethodHandle" ∧ y.cls ≠ "java/lang/invoke/VarHandle" ∧ (parseMethodDescriptor y.desc).map (fun d => d.parameters.length) = some n) (hR : rm.frames + 1 ≤ R.frames ∧ 8 + (maxL + 11) + rm.locals ≤ R.locals) :
    vx_CSW R s args own index y bytes maxL ret hh (Cond.codeWith y bytes maxL ret hh :: tb_) rm rm.cells rm.slots n := by
  refine ⟨⟨rfl, rfl, hR.1, hR.2, pay_in ht (tb_gi hc), List.mem_cons_self⟩, ht _ (List.mem_cons_of_mem _ hc), ht _ (List.mem_cons_of_mem _ hi), ⟨hd.1, hd.2.1⟩, fun sig h => ?_, ht _ (List.mem_cons_of_mem _ hl), ht _ (List.mem_cons_of_mem _ hst)⟩
  have h2 := hd.2.2
  rw [h] at h2
  exact (Option.some.inj h2).symm
theorem cmp_self (a : Int64) : lg_cmp a a = nI 0 := by
  unfold lg_cmp
  rw [if_neg (fun h => Int64.lt_irrefl h), if_pos rfl]
  rfl
set_option maxHeartbeats 4000000 in
set_option maxRecDepth 100000 in
theorem a_open {p : Program} {l : Launch} {e : Env} {s : State} {m : MethodId} {below : List Frame} {meth : Method} {c : Code} {b L : Nat} {xs : Nat → Int32} {D : va_G} {ca : Nat → ClassId} {A : Nat → Prop} {Q : State → Prop} {H : Heap} {locs : List Loc} {cells slots : Nat} {ls : Array Slot} {x oq h : Nat} {v ad : Nat → Nat} {co : Nat} {C : CS_} {G : Nat → Int64} {M : Nat → Nat → Nat} {i : Nat} (hlT : l.stackTraces = false) (fx : CallFix p m c code 7 s #[Value.ref b] (Cond.initialized "ChannelledLinkLaw" :: tb_) RLw) (hX : va_X b L xs s s.heap) (hbl : b < s.heap.size) (hbA : ¬ A b) (hL : L ≤ 3072) (hE : Ev D ca s) (hZ : Zx A s s.heap) (hA : ∀ q : Nat, s.heap.size ≤ q → A q) (hi : i + 6 ≤ L) (hf : cells + 1 ≤ room_1.cells ∧ slots + 6 ≤ room_1.slots) (hR : RR C M) (hP : va_P D cls_ (sysO x v ca oq C G ++ mW h ad ca co M) H) (hD : va_D A (sysO x v ca oq C G ++ mW h ad ca co M)) (hS : va_S A s.heap H locs) (hl : lv_has ls 7 [(4, .int (nI i)), (3, .ref oq), (2, .ref h), (1, .ref x), (0, .ref b)])
    (kk : ∀ (C : CS_) (G : Nat → Int64) (M : Nat → Nat → Nat) (co : Nat) (H : Heap) (locs : List Loc) (ls : Array Slot), RR C M → va_P D cls_ (sysO x v ca oq C G ++ mW h ad ca co M) H → va_D A (sysO x v ca oq C G ++ mW h ad ca co M) → va_S A s.heap H locs → lv_has ls 7 [(4, .int (nI i)), (3, .ref oq), (2, .ref h), (1, .ref x), (0, .ref b)] → W p l e room_1 s m #[Value.ref b] below meth c H locs (cells + 1) (slots + 6) Q (F0 m 1102 ls [])) : W p l e room_1 s m #[Value.ref b] below meth c H locs cells slots Q (F0 m 116 ls []) := by
  have hx := fx.1
  have hb := fx.2.1
  have hts := fx.2.2.2.2
  have ht : ∀ w ∈ tb_, w.before #[Value.ref b] s = true := fun w h => hts w (List.mem_cons_of_mem _ h)
  refine lv_aload_n hx hb dLw_law_116 rfl (lv_at hl 3 rfl) ?_
  refine lv_aload_n hx hb dLw_law_117 rfl (lv_at hl 4 rfl) ?_
  refine lv_iload hx hb dLw_law_118 (lv_at hl 0 rfl) ?_
  refine lv_iconst (v := nI 1) hx hb dLw_law_120 (by decide) ?_
  refine k_iadd hx hb dLw_law_121 ?_
  refine va_sld hx hb hX hbl hbA hS (vp_in_nI (by omega) (by omega)) dLw_law_122 ?_
  obtain ⟨κ, β, C1, G1, M1, hκ, hw, hm, hR1, hv⟩ := o_open l hlT D ca x oq h v ad co C G M hR (xs (nI (i + 1)).toNatClampNeg)
  refine kI (r := fun _ => nI κ) (rW fx hw (csw_of 2 hts tw_134 tw_0 tw_132 tw_133 (by decide +kernel) ⟨(Nat.le_of_ble_eq_true rfl), (Nat.le_of_ble_eq_true rfl)⟩) hE hZ hP hD hS hA [0, 1, 2, 3, 4, 5, 6, 7, 8, 9, 10, 11, 12, 13, 14, 15, 16, 17, 18, 19, 20, 21, 22, 23, 24, 25, 26, 27, 28, 29, 30, 31, 32] rfl rfl rfl hl.1 rfl (Nat.le_of_ble_eq_true rfl) dLw_law_123 hf) hP hD hS hA [0, 1, 2, 3, 4, 5, 6, 7, 8, 9, 10, 11, 12, 13, 14, 15, 16, 17, 18, 19, 20, 21, 22, 23, 24, 25, 26, 27, 28, 29, 30, 31, 32] [33, 34, 35, 36, 37, 38, 39, 40, 41, 42, 43, 44, 45, 46, 47, 48, 49, 50, 51, 52, 53, 54, 55, 56, 57, 58, 59, 60, 61] rfl rfl rfl (by decide) (fun _ H locs _ hP hD hS => ?_)
  have hP : va_P D cls_ (mW h ad ca co M ++ sysO x v ca oq C1 G1) H := hP
  have hD : va_D A (mW h ad ca co M ++ sysO x v ca oq C1 G1) := hD
  refine lv_istore hx hb dLw_law_126 hl (by decide) rfl (fun ls hl => ?_)
  have hl : lv_has ls 7 [(5, .int (nI κ)), (4, .int (nI i)), (3, .ref oq), (2, .ref h), (1, .ref x), (0, .ref b)] := hl
  refine lv_aload_n hx hb dLw_law_128 rfl (lv_at hl 3 rfl) ?_
  refine lv_aload_n hx hb dLw_law_129 rfl (lv_at hl 5 rfl) ?_
  refine lv_iload hx hb dLw_law_130 (lv_at hl 1 rfl) ?_
  refine lv_iconst (v := nI 1) hx hb dLw_law_132 (by decide) ?_
  refine k_iadd hx hb dLw_law_133 ?_
  refine va_sld hx hb hX hbl hbA hS (vp_in_nI (by omega) (by omega)) dLw_law_134 ?_
  refine kV (rV fx hm ⟨callB_of 1 hts (tb_gi tw_771) rfl rfl rfl (ht _ tw_5) (ht _ tw_768) (by decide +kernel) ⟨(Nat.le_of_ble_eq_true rfl), (Nat.le_of_ble_eq_true rfl)⟩, ht _ tw_769, ht _ tw_770⟩ hE hP hD 0 rfl rfl rfl [0, 1, 2, 3, 4, 5, 6, 7, 8, 9, 10, 11, 12, 13, 14, 15, 16, 17, 18, 19, 20, 21, 22, 23, 24, 25, 26, 27, 28] rfl rfl rfl hl.1 rfl (Nat.le_of_ble_eq_true rfl) dLw_law_135 hf) hP hD hS hA [0, 1, 2, 3, 4, 5, 6, 7, 8, 9, 10, 11, 12, 13, 14, 15, 16, 17, 18, 19, 20, 21, 22, 23, 24, 25, 26, 27, 28] [29, 30, 31, 32, 33, 34, 35, 36, 37, 38, 39, 40, 41, 42, 43, 44, 45, 46, 47, 48, 49, 50, 51, 52, 53, 54, 55, 56, 57, 58, 59, 60, 61] rfl rfl rfl (by decide) (fun _ H locs _ hP hD hS => ?_)
  have hP : va_P D cls_ (sysO x v ca oq C1 G1 ++ mW h ad ca κ M1) H := hP
  have hD : va_D A (sysO x v ca oq C1 G1 ++ mW h ad ca κ M1) := hD
  refine lv_aload_n hx hb dLw_law_138 rfl (lv_at hl 3 rfl) ?_
  refine kI (r := fun _ => nI κ) (rV fx (c_Mo_thrown l D ca h ad κ M1) ⟨callB_of 0 hts (tb_gi tw_679) rfl rfl rfl (ht _ tw_5) (ht _ tw_676) (by decide +kernel) ⟨(Nat.le_of_ble_eq_true rfl), (Nat.le_of_ble_eq_true rfl)⟩, ht _ tw_677, ht _ tw_678⟩ hE hP hD 33 rfl rfl rfl [33, 34, 35, 36, 37, 38, 39, 40, 41, 42, 43, 44, 45, 46, 47, 48, 49, 50, 51, 52, 53, 54, 55, 56, 57, 58, 59, 60, 61] rfl rfl rfl hl.1 rfl (Nat.le_of_ble_eq_true rfl) dLw_law_139 hf) hP hD hS hA [33, 34, 35, 36, 37, 38, 39, 40, 41, 42, 43, 44, 45, 46, 47, 48, 49, 50, 51, 52, 53, 54, 55, 56, 57, 58, 59, 60, 61] [0, 1, 2, 3, 4, 5, 6, 7, 8, 9, 10, 11, 12, 13, 14, 15, 16, 17, 18, 19, 20, 21, 22, 23, 24, 25, 26, 27, 28, 29, 30, 31, 32] rfl rfl rfl (by decide) (fun _ H locs _ hP hD hS => ?_)
  have hP : va_P D cls_ (sysO x v ca oq C1 G1 ++ mW h ad ca κ M1) H := hP
  have hD : va_D A (sysO x v ca oq C1 G1 ++ mW h ad ca κ M1) := hD
  refine lv_iload hx hb dLw_law_142 (lv_at hl 0 rfl) ?_
  refine k_icmp_eq hx hb (a := κ) (b := κ) (by omega) (by omega) (tgt := 149) dLw_law_144 rfl (fun _ => ?_) (fun z => absurd rfl z)
  refine lv_goto (tgt := 1102) hx hb dLw_law_149 rfl ?_
  exact kk _ _ _ _ _ _ _ hR1 hP hD hS (lv_sub hl [1, 2, 3, 4, 5] rfl)
set_option maxHeartbeats 4000000 in
set_option maxRecDepth 100000 in
theorem a_expire {p : Program} {l : Launch} {e : Env} {s : State} {m : MethodId} {below : List Frame} {meth : Method} {c : Code} {b L : Nat} {xs : Nat → Int32} {D : va_G} {ca : Nat → ClassId} {A : Nat → Prop} {Q : State → Prop} {H : Heap} {locs : List Loc} {cells slots : Nat} {ls : Array Slot} {x oq h : Nat} {v ad : Nat → Nat} {co : Nat} {C : CS_} {G : Nat → Int64} {M : Nat → Nat → Nat} {i : Nat} (hlT : l.stackTraces = false) (fx : CallFix p m c code 7 s #[Value.ref b] (Cond.initialized "ChannelledLinkLaw" :: tb_) RLw) (hX : va_X b L xs s s.heap) (hbl : b < s.heap.size) (hbA : ¬ A b) (hL : L ≤ 3072) (hE : Ev D ca s) (hZ : Zx A s s.heap) (hA : ∀ q : Nat, s.heap.size ≤ q → A q) (hi : i + 6 ≤ L) (hf : cells + 1 ≤ room_1.cells ∧ slots + 6 ≤ room_1.slots) (hR : RR C M) (hP : va_P D cls_ (sysO x v ca oq C G ++ mW h ad ca co M) H) (hD : va_D A (sysO x v ca oq C G ++ mW h ad ca co M)) (hS : va_S A s.heap H locs) (hl : lv_has ls 7 [(4, .int (nI i)), (3, .ref oq), (2, .ref h), (1, .ref x), (0, .ref b)])
    (kk : ∀ (C : CS_) (G : Nat → Int64) (M : Nat → Nat → Nat) (co : Nat) (H : Heap) (locs : List Loc) (ls : Array Slot), RR C M → va_P D cls_ (sysO x v ca oq C G ++ mW h ad ca co M) H → va_D A (sysO x v ca oq C G ++ mW h ad ca co M) → va_S A s.heap H locs → lv_has ls 7 [(4, .int (nI i)), (3, .ref oq), (2, .ref h), (1, .ref x), (0, .ref b)] → W p l e room_1 s m #[Value.ref b] below meth c H locs (cells + 1) (slots + 6) Q (F0 m 1102 ls [])) : W p l e room_1 s m #[Value.ref b] below meth c H locs cells slots Q (F0 m 152 ls []) := by
  have hx := fx.1
  have hb := fx.2.1
  have hts := fx.2.2.2.2
  have ht : ∀ w ∈ tb_, w.before #[Value.ref b] s = true := fun w h => hts w (List.mem_cons_of_mem _ h)
  refine lv_aload_n hx hb dLw_law_152 rfl (lv_at hl 3 rfl) ?_
  refine lv_aload_n hx hb dLw_law_153 rfl (lv_at hl 4 rfl) ?_
  refine lv_iload hx hb dLw_law_154 (lv_at hl 0 rfl) ?_
  refine lv_iconst (v := nI 1) hx hb dLw_law_156 (by decide) ?_
  refine k_iadd hx hb dLw_law_157 ?_
  refine va_sld hx hb hX hbl hbA hS (vp_in_nI (by omega) (by omega)) dLw_law_158 ?_
  refine lv_aload_n hx hb dLw_law_159 rfl (lv_at hl 1 rfl) ?_
  obtain ⟨κ, β, C1, G1, M1, hκ, hw, hm, hR1, hv⟩ := o_expire l hlT D ca x oq h v ad co C G M hR (xs (nI (i + 1)).toNatClampNeg)
  refine kI (r := fun _ => nI κ) (rW fx hw (csw_of 3 hts tw_237 tw_0 tw_235 tw_236 (by decide +kernel) ⟨(Nat.le_of_ble_eq_true rfl), (Nat.le_of_ble_eq_true rfl)⟩) hE hZ hP hD hS hA [0, 1, 2, 3, 4, 5, 6, 7, 8, 9, 10, 11, 12, 13, 14, 15, 16, 17, 18, 19, 20, 21, 22, 23, 24, 25, 26, 27, 28, 29, 30, 31, 32] rfl rfl rfl hl.1 rfl (Nat.le_of_ble_eq_true rfl) dLw_law_160 hf) hP hD hS hA [0, 1, 2, 3, 4, 5, 6, 7, 8, 9, 10, 11, 12, 13, 14, 15, 16, 17, 18, 19, 20, 21, 22, 23, 24, 25, 26, 27, 28, 29, 30, 31, 32] [33, 34, 35, 36, 37, 38, 39, 40, 41, 42, 43, 44, 45, 46, 47, 48, 49, 50, 51, 52, 53, 54, 55, 56, 57, 58, 59, 60, 61] rfl rfl rfl (by decide) (fun _ H locs _ hP hD hS => ?_)
  have hP : va_P D cls_ (mW h ad ca co M ++ sysO x v ca oq C1 G1) H := hP
  have hD : va_D A (mW h ad ca co M ++ sysO x v ca oq C1 G1) := hD
  refine lv_istore hx hb dLw_law_163 hl (by decide) rfl (fun ls hl => ?_)
  have hl : lv_has ls 7 [(5, .int (nI κ)), (4, .int (nI i)), (3, .ref oq), (2, .ref h), (1, .ref x), (0, .ref b)] := hl
  refine lv_aload_n hx hb dLw_law_165 rfl (lv_at hl 3 rfl) ?_
  refine lv_aload_n hx hb dLw_law_166 rfl (lv_at hl 5 rfl) ?_
  refine lv_iload hx hb dLw_law_167 (lv_at hl 1 rfl) ?_
  refine lv_iconst (v := nI 1) hx hb dLw_law_169 (by decide) ?_
  refine k_iadd hx hb dLw_law_170 ?_
  refine va_sld hx hb hX hbl hbA hS (vp_in_nI (by omega) (by omega)) dLw_law_171 ?_
  refine kI (r := fun _ => β) (rV fx hm ⟨callB_of 1 hts (tb_gi tw_775) rfl rfl rfl (ht _ tw_5) (ht _ tw_772) (by decide +kernel) ⟨(Nat.le_of_ble_eq_true rfl), (Nat.le_of_ble_eq_true rfl)⟩, ht _ tw_773, ht _ tw_774⟩ hE hP hD 0 rfl rfl rfl [0, 1, 2, 3, 4, 5, 6, 7, 8, 9, 10, 11, 12, 13, 14, 15, 16, 17, 18, 19, 20, 21, 22, 23, 24, 25, 26, 27, 28] rfl rfl rfl hl.1 rfl (Nat.le_of_ble_eq_true rfl) dLw_law_172 hf) hP hD hS hA [0, 1, 2, 3, 4, 5, 6, 7, 8, 9, 10, 11, 12, 13, 14, 15, 16, 17, 18, 19, 20, 21, 22, 23, 24, 25, 26, 27, 28] [29, 30, 31, 32, 33, 34, 35, 36, 37, 38, 39, 40, 41, 42, 43, 44, 45, 46, 47, 48, 49, 50, 51, 52, 53, 54, 55, 56, 57, 58, 59, 60, 61] rfl rfl rfl (by decide) (fun _ H locs _ hP hD hS => ?_)
  have hP : va_P D cls_ (sysO x v ca oq C1 G1 ++ mW h ad ca κ M1) H := hP
  have hD : va_D A (sysO x v ca oq C1 G1 ++ mW h ad ca κ M1) := hD
  refine lv_istore hx hb dLw_law_175 hl (by decide) rfl (fun ls hl => ?_)
  have hl : lv_has ls 7 [(6, .int β), (5, .int (nI κ)), (4, .int (nI i)), (3, .ref oq), (2, .ref h), (1, .ref x), (0, .ref b)] := hl
  refine lv_aload_n hx hb dLw_law_177 rfl (lv_at hl 4 rfl) ?_
  refine kI (r := fun _ => nI κ) (rV fx (c_Mo_thrown l D ca h ad κ M1) ⟨callB_of 0 hts (tb_gi tw_679) rfl rfl rfl (ht _ tw_5) (ht _ tw_676) (by decide +kernel) ⟨(Nat.le_of_ble_eq_true rfl), (Nat.le_of_ble_eq_true rfl)⟩, ht _ tw_677, ht _ tw_678⟩ hE hP hD 33 rfl rfl rfl [33, 34, 35, 36, 37, 38, 39, 40, 41, 42, 43, 44, 45, 46, 47, 48, 49, 50, 51, 52, 53, 54, 55, 56, 57, 58, 59, 60, 61] rfl rfl rfl hl.1 rfl (Nat.le_of_ble_eq_true rfl) dLw_law_178 hf) hP hD hS hA [33, 34, 35, 36, 37, 38, 39, 40, 41, 42, 43, 44, 45, 46, 47, 48, 49, 50, 51, 52, 53, 54, 55, 56, 57, 58, 59, 60, 61] [0, 1, 2, 3, 4, 5, 6, 7, 8, 9, 10, 11, 12, 13, 14, 15, 16, 17, 18, 19, 20, 21, 22, 23, 24, 25, 26, 27, 28, 29, 30, 31, 32] rfl rfl rfl (by decide) (fun _ H locs _ hP hD hS => ?_)
  have hP : va_P D cls_ (sysO x v ca oq C1 G1 ++ mW h ad ca κ M1) H := hP
  have hD : va_D A (sysO x v ca oq C1 G1 ++ mW h ad ca κ M1) := hD
  refine lv_iload hx hb dLw_law_181 (lv_at hl 1 rfl) ?_
  refine k_icmp_eq hx hb (a := κ) (b := κ) (by omega) (by omega) (tgt := 188) dLw_law_183 rfl (fun _ => ?_) (fun z => absurd rfl z)
  refine lv_iload hx hb dLw_law_188 (lv_at hl 1 rfl) ?_
  refine k_if_ne hx hb (a := κ) (by omega) (tgt := 205) dLw_law_190 rfl (fun _ => ?_) (fun hz => ?_)
  · refine lv_goto (tgt := 1102) hx hb dLw_law_205 rfl ?_
    exact kk _ _ _ _ _ _ _ hR1 hP hD hS (lv_sub hl [2, 3, 4, 5, 6] rfl)
  refine lv_aload_n hx hb dLw_law_193 rfl (lv_at hl 3 rfl) ?_
  refine lv_iconst (v := nI 0) hx hb dLw_law_194 (by decide) ?_
  refine va_lald hx hb hE.1 hP 32 4 rfl rfl (vp_in_nI (n := 0) (N := 1) (by decide) (by decide)) dLw_law_195 ?_
  refine lv_iload hx hb dLw_law_196 (lv_at hl 0 rfl) ?_
  refine lv_i2l (v := G1 0) hx hb dLw_law_198 (hv hz).symm ?_
  refine W.lcmp hx hb dLw_law_199 ?_
  refine k_is (y := nI 0) (cmp_self _) ?_
  refine k_if_eq hx hb (a := 0) (by decide) (tgt := 205) dLw_law_200 rfl (fun _ => ?_) (fun z => absurd rfl z)
  refine lv_goto (tgt := 1102) hx hb dLw_law_205 rfl ?_
  exact kk _ _ _ _ _ _ _ hR1 hP hD hS (lv_sub hl [2, 3, 4, 5, 6] rfl)
set_option maxHeartbeats 4000000 in
set_option maxRecDepth 100000 in
theorem a_deliver {p : Program} {l : Launch} {e : Env} {s : State} {m : MethodId} {below : List Frame} {meth : Method} {c : Code} {b L : Nat} {xs : Nat → Int32} {D : va_G} {ca : Nat → ClassId} {A : Nat → Prop} {Q : State → Prop} {H : Heap} {locs : List Loc} {cells slots : Nat} {ls : Array Slot} {x oq h : Nat} {v ad : Nat → Nat} {co : Nat} {C : CS_} {G : Nat → Int64} {M : Nat → Nat → Nat} {i : Nat} (hlT : l.stackTraces = false) (fx : CallFix p m c code 7 s #[Value.ref b] (Cond.initialized "ChannelledLinkLaw" :: tb_) RLw) (hX : va_X b L xs s s.heap) (hbl : b < s.heap.size) (hbA : ¬ A b) (hL : L ≤ 3072) (hE : Ev D ca s) (hZ : Zx A s s.heap) (hA : ∀ q : Nat, s.heap.size ≤ q → A q) (hi : i + 6 ≤ L) (hf : cells + 1 ≤ room_1.cells ∧ slots + 6 ≤ room_1.slots) (hR : RR C M) (hP : va_P D cls_ (sysO x v ca oq C G ++ mW h ad ca co M) H) (hD : va_D A (sysO x v ca oq C G ++ mW h ad ca co M)) (hS : va_S A s.heap H locs) (hl : lv_has ls 7 [(4, .int (nI i)), (3, .ref oq), (2, .ref h), (1, .ref x), (0, .ref b)])
    (kk : ∀ (C : CS_) (G : Nat → Int64) (M : Nat → Nat → Nat) (co : Nat) (H : Heap) (locs : List Loc) (ls : Array Slot), RR C M → va_P D cls_ (sysO x v ca oq C G ++ mW h ad ca co M) H → va_D A (sysO x v ca oq C G ++ mW h ad ca co M) → va_S A s.heap H locs → lv_has ls 7 [(4, .int (nI i)), (3, .ref oq), (2, .ref h), (1, .ref x), (0, .ref b)] → W p l e room_1 s m #[Value.ref b] below meth c H locs (cells + 1) (slots + 6) Q (F0 m 1102 ls [])) : W p l e room_1 s m #[Value.ref b] below meth c H locs cells slots Q (F0 m 208 ls []) := by
  have hx := fx.1
  have hb := fx.2.1
  have hts := fx.2.2.2.2
  have ht : ∀ w ∈ tb_, w.before #[Value.ref b] s = true := fun w h => hts w (List.mem_cons_of_mem _ h)
  refine lv_aload_n hx hb dLw_law_208 rfl (lv_at hl 3 rfl) ?_
  refine lv_aload_n hx hb dLw_law_209 rfl (lv_at hl 4 rfl) ?_
  refine lv_iload hx hb dLw_law_210 (lv_at hl 0 rfl) ?_
  refine lv_iconst (v := nI 1) hx hb dLw_law_212 (by decide) ?_
  refine k_iadd hx hb dLw_law_213 ?_
  refine va_sld hx hb hX hbl hbA hS (vp_in_nI (by omega) (by omega)) dLw_law_214 ?_
  refine lv_aload_n hx hb dLw_law_215 rfl (lv_at hl 1 rfl) ?_
  obtain ⟨κ, β, C1, G1, M1, hκ, hw, hm, hR1, hv⟩ := o_deliver l hlT D ca x oq h v ad co C G M hR (xs (nI (i + 1)).toNatClampNeg)
  refine kI (r := fun _ => nI κ) (rW fx hw (csw_of 3 hts tw_292 tw_0 tw_290 tw_291 (by decide +kernel) ⟨(Nat.le_of_ble_eq_true rfl), (Nat.le_of_ble_eq_true rfl)⟩) hE hZ hP hD hS hA [0, 1, 2, 3, 4, 5, 6, 7, 8, 9, 10, 11, 12, 13, 14, 15, 16, 17, 18, 19, 20, 21, 22, 23, 24, 25, 26, 27, 28, 29, 30, 31, 32] rfl rfl rfl hl.1 rfl (Nat.le_of_ble_eq_true rfl) dLw_law_216 hf) hP hD hS hA [0, 1, 2, 3, 4, 5, 6, 7, 8, 9, 10, 11, 12, 13, 14, 15, 16, 17, 18, 19, 20, 21, 22, 23, 24, 25, 26, 27, 28, 29, 30, 31, 32] [33, 34, 35, 36, 37, 38, 39, 40, 41, 42, 43, 44, 45, 46, 47, 48, 49, 50, 51, 52, 53, 54, 55, 56, 57, 58, 59, 60, 61] rfl rfl rfl (by decide) (fun _ H locs _ hP hD hS => ?_)
  have hP : va_P D cls_ (mW h ad ca co M ++ sysO x v ca oq C1 G1) H := hP
  have hD : va_D A (mW h ad ca co M ++ sysO x v ca oq C1 G1) := hD
  refine lv_istore hx hb dLw_law_219 hl (by decide) rfl (fun ls hl => ?_)
  have hl : lv_has ls 7 [(5, .int (nI κ)), (4, .int (nI i)), (3, .ref oq), (2, .ref h), (1, .ref x), (0, .ref b)] := hl
  refine lv_aload_n hx hb dLw_law_221 rfl (lv_at hl 3 rfl) ?_
  refine lv_aload_n hx hb dLw_law_222 rfl (lv_at hl 5 rfl) ?_
  refine lv_iload hx hb dLw_law_223 (lv_at hl 1 rfl) ?_
  refine lv_iconst (v := nI 1) hx hb dLw_law_225 (by decide) ?_
  refine k_iadd hx hb dLw_law_226 ?_
  refine va_sld hx hb hX hbl hbA hS (vp_in_nI (by omega) (by omega)) dLw_law_227 ?_
  refine kI (r := fun _ => β) (rV fx hm ⟨callB_of 1 hts (tb_gi tw_683) rfl rfl rfl (ht _ tw_5) (ht _ tw_680) (by decide +kernel) ⟨(Nat.le_of_ble_eq_true rfl), (Nat.le_of_ble_eq_true rfl)⟩, ht _ tw_681, ht _ tw_682⟩ hE hP hD 0 rfl rfl rfl [0, 1, 2, 3, 4, 5, 6, 7, 8, 9, 10, 11, 12, 13, 14, 15, 16, 17, 18, 19, 20, 21, 22, 23, 24, 25, 26, 27, 28] rfl rfl rfl hl.1 rfl (Nat.le_of_ble_eq_true rfl) dLw_law_228 hf) hP hD hS hA [0, 1, 2, 3, 4, 5, 6, 7, 8, 9, 10, 11, 12, 13, 14, 15, 16, 17, 18, 19, 20, 21, 22, 23, 24, 25, 26, 27, 28] [29, 30, 31, 32, 33, 34, 35, 36, 37, 38, 39, 40, 41, 42, 43, 44, 45, 46, 47, 48, 49, 50, 51, 52, 53, 54, 55, 56, 57, 58, 59, 60, 61] rfl rfl rfl (by decide) (fun _ H locs _ hP hD hS => ?_)
  have hP : va_P D cls_ (sysO x v ca oq C1 G1 ++ mW h ad ca κ M1) H := hP
  have hD : va_D A (sysO x v ca oq C1 G1 ++ mW h ad ca κ M1) := hD
  refine lv_istore hx hb dLw_law_231 hl (by decide) rfl (fun ls hl => ?_)
  have hl : lv_has ls 7 [(6, .int β), (5, .int (nI κ)), (4, .int (nI i)), (3, .ref oq), (2, .ref h), (1, .ref x), (0, .ref b)] := hl
  refine lv_aload_n hx hb dLw_law_233 rfl (lv_at hl 4 rfl) ?_
  refine kI (r := fun _ => nI κ) (rV fx (c_Mo_thrown l D ca h ad κ M1) ⟨callB_of 0 hts (tb_gi tw_679) rfl rfl rfl (ht _ tw_5) (ht _ tw_676) (by decide +kernel) ⟨(Nat.le_of_ble_eq_true rfl), (Nat.le_of_ble_eq_true rfl)⟩, ht _ tw_677, ht _ tw_678⟩ hE hP hD 33 rfl rfl rfl [33, 34, 35, 36, 37, 38, 39, 40, 41, 42, 43, 44, 45, 46, 47, 48, 49, 50, 51, 52, 53, 54, 55, 56, 57, 58, 59, 60, 61] rfl rfl rfl hl.1 rfl (Nat.le_of_ble_eq_true rfl) dLw_law_234 hf) hP hD hS hA [33, 34, 35, 36, 37, 38, 39, 40, 41, 42, 43, 44, 45, 46, 47, 48, 49, 50, 51, 52, 53, 54, 55, 56, 57, 58, 59, 60, 61] [0, 1, 2, 3, 4, 5, 6, 7, 8, 9, 10, 11, 12, 13, 14, 15, 16, 17, 18, 19, 20, 21, 22, 23, 24, 25, 26, 27, 28, 29, 30, 31, 32] rfl rfl rfl (by decide) (fun _ H locs _ hP hD hS => ?_)
  have hP : va_P D cls_ (sysO x v ca oq C1 G1 ++ mW h ad ca κ M1) H := hP
  have hD : va_D A (sysO x v ca oq C1 G1 ++ mW h ad ca κ M1) := hD
  refine lv_iload hx hb dLw_law_237 (lv_at hl 1 rfl) ?_
  refine k_icmp_eq hx hb (a := κ) (b := κ) (by omega) (by omega) (tgt := 244) dLw_law_239 rfl (fun _ => ?_) (fun z => absurd rfl z)
  refine lv_iload hx hb dLw_law_244 (lv_at hl 1 rfl) ?_
  refine k_if_ne hx hb (a := κ) (by omega) (tgt := 261) dLw_law_246 rfl (fun _ => ?_) (fun hz => ?_)
  · refine lv_goto (tgt := 1102) hx hb dLw_law_261 rfl ?_
    exact kk _ _ _ _ _ _ _ hR1 hP hD hS (lv_sub hl [2, 3, 4, 5, 6] rfl)
  refine lv_aload_n hx hb dLw_law_249 rfl (lv_at hl 3 rfl) ?_
  refine lv_iconst (v := nI 0) hx hb dLw_law_250 (by decide) ?_
  refine va_lald hx hb hE.1 hP 32 4 rfl rfl (vp_in_nI (n := 0) (N := 1) (by decide) (by decide)) dLw_law_251 ?_
  refine lv_iload hx hb dLw_law_252 (lv_at hl 0 rfl) ?_
  refine lv_i2l (v := G1 0) hx hb dLw_law_254 (hv hz).symm ?_
  refine W.lcmp hx hb dLw_law_255 ?_
  refine k_is (y := nI 0) (cmp_self _) ?_
  refine k_if_eq hx hb (a := 0) (by decide) (tgt := 261) dLw_law_256 rfl (fun _ => ?_) (fun z => absurd rfl z)
  refine lv_goto (tgt := 1102) hx hb dLw_law_261 rfl ?_
  exact kk _ _ _ _ _ _ _ hR1 hP hD hS (lv_sub hl [2, 3, 4, 5, 6] rfl)
set_option maxHeartbeats 4000000 in
set_option maxRecDepth 100000 in
theorem a_lose {p : Program} {l : Launch} {e : Env} {s : State} {m : MethodId} {below : List Frame} {meth : Method} {c : Code} {b L : Nat} {xs : Nat → Int32} {D : va_G} {ca : Nat → ClassId} {A : Nat → Prop} {Q : State → Prop} {H : Heap} {locs : List Loc} {cells slots : Nat} {ls : Array Slot} {x oq h : Nat} {v ad : Nat → Nat} {co : Nat} {C : CS_} {G : Nat → Int64} {M : Nat → Nat → Nat} {i : Nat} (hlT : l.stackTraces = false) (fx : CallFix p m c code 7 s #[Value.ref b] (Cond.initialized "ChannelledLinkLaw" :: tb_) RLw) (hX : va_X b L xs s s.heap) (hbl : b < s.heap.size) (hbA : ¬ A b) (hL : L ≤ 3072) (hE : Ev D ca s) (hZ : Zx A s s.heap) (hA : ∀ q : Nat, s.heap.size ≤ q → A q) (hi : i + 6 ≤ L) (hf : cells + 1 ≤ room_1.cells ∧ slots + 6 ≤ room_1.slots) (hR : RR C M) (hP : va_P D cls_ (sysO x v ca oq C G ++ mW h ad ca co M) H) (hD : va_D A (sysO x v ca oq C G ++ mW h ad ca co M)) (hS : va_S A s.heap H locs) (hl : lv_has ls 7 [(4, .int (nI i)), (3, .ref oq), (2, .ref h), (1, .ref x), (0, .ref b)])
    (kk : ∀ (C : CS_) (G : Nat → Int64) (M : Nat → Nat → Nat) (co : Nat) (H : Heap) (locs : List Loc) (ls : Array Slot), RR C M → va_P D cls_ (sysO x v ca oq C G ++ mW h ad ca co M) H → va_D A (sysO x v ca oq C G ++ mW h ad ca co M) → va_S A s.heap H locs → lv_has ls 7 [(4, .int (nI i)), (3, .ref oq), (2, .ref h), (1, .ref x), (0, .ref b)] → W p l e room_1 s m #[Value.ref b] below meth c H locs (cells + 1) (slots + 6) Q (F0 m 1102 ls [])) : W p l e room_1 s m #[Value.ref b] below meth c H locs cells slots Q (F0 m 264 ls []) := by
  have hx := fx.1
  have hb := fx.2.1
  have hts := fx.2.2.2.2
  have ht : ∀ w ∈ tb_, w.before #[Value.ref b] s = true := fun w h => hts w (List.mem_cons_of_mem _ h)
  refine lv_aload_n hx hb dLw_law_264 rfl (lv_at hl 3 rfl) ?_
  refine lv_aload_n hx hb dLw_law_265 rfl (lv_at hl 4 rfl) ?_
  refine lv_iload hx hb dLw_law_266 (lv_at hl 0 rfl) ?_
  refine lv_iconst (v := nI 1) hx hb dLw_law_268 (by decide) ?_
  refine k_iadd hx hb dLw_law_269 ?_
  refine va_sld hx hb hX hbl hbA hS (vp_in_nI (by omega) (by omega)) dLw_law_270 ?_
  refine lv_aload_n hx hb dLw_law_271 rfl (lv_at hl 1 rfl) ?_
  obtain ⟨κ, β, C1, G1, M1, hκ, hw, hm, hR1, hv⟩ := o_lose l hlT D ca x oq h v ad co C G M hR (xs (nI (i + 1)).toNatClampNeg)
  refine kI (r := fun _ => nI κ) (rW fx hw (csw_of 3 hts tw_443 tw_0 tw_441 tw_442 (by decide +kernel) ⟨(Nat.le_of_ble_eq_true rfl), (Nat.le_of_ble_eq_true rfl)⟩) hE hZ hP hD hS hA [0, 1, 2, 3, 4, 5, 6, 7, 8, 9, 10, 11, 12, 13, 14, 15, 16, 17, 18, 19, 20, 21, 22, 23, 24, 25, 26, 27, 28, 29, 30, 31, 32] rfl rfl rfl hl.1 rfl (Nat.le_of_ble_eq_true rfl) dLw_law_272 hf) hP hD hS hA [0, 1, 2, 3, 4, 5, 6, 7, 8, 9, 10, 11, 12, 13, 14, 15, 16, 17, 18, 19, 20, 21, 22, 23, 24, 25, 26, 27, 28, 29, 30, 31, 32] [33, 34, 35, 36, 37, 38, 39, 40, 41, 42, 43, 44, 45, 46, 47, 48, 49, 50, 51, 52, 53, 54, 55, 56, 57, 58, 59, 60, 61] rfl rfl rfl (by decide) (fun _ H locs _ hP hD hS => ?_)
  have hP : va_P D cls_ (mW h ad ca co M ++ sysO x v ca oq C1 G1) H := hP
  have hD : va_D A (mW h ad ca co M ++ sysO x v ca oq C1 G1) := hD
  refine lv_istore hx hb dLw_law_275 hl (by decide) rfl (fun ls hl => ?_)
  have hl : lv_has ls 7 [(5, .int (nI κ)), (4, .int (nI i)), (3, .ref oq), (2, .ref h), (1, .ref x), (0, .ref b)] := hl
  refine lv_aload_n hx hb dLw_law_277 rfl (lv_at hl 3 rfl) ?_
  refine lv_aload_n hx hb dLw_law_278 rfl (lv_at hl 5 rfl) ?_
  refine lv_iload hx hb dLw_law_279 (lv_at hl 1 rfl) ?_
  refine lv_iconst (v := nI 1) hx hb dLw_law_281 (by decide) ?_
  refine k_iadd hx hb dLw_law_282 ?_
  refine va_sld hx hb hX hbl hbA hS (vp_in_nI (by omega) (by omega)) dLw_law_283 ?_
  refine kI (r := fun _ => β) (rV fx hm ⟨callB_of 1 hts (tb_gi tw_760) rfl rfl rfl (ht _ tw_5) (ht _ tw_757) (by decide +kernel) ⟨(Nat.le_of_ble_eq_true rfl), (Nat.le_of_ble_eq_true rfl)⟩, ht _ tw_758, ht _ tw_759⟩ hE hP hD 0 rfl rfl rfl [0, 1, 2, 3, 4, 5, 6, 7, 8, 9, 10, 11, 12, 13, 14, 15, 16, 17, 18, 19, 20, 21, 22, 23, 24, 25, 26, 27, 28] rfl rfl rfl hl.1 rfl (Nat.le_of_ble_eq_true rfl) dLw_law_284 hf) hP hD hS hA [0, 1, 2, 3, 4, 5, 6, 7, 8, 9, 10, 11, 12, 13, 14, 15, 16, 17, 18, 19, 20, 21, 22, 23, 24, 25, 26, 27, 28] [29, 30, 31, 32, 33, 34, 35, 36, 37, 38, 39, 40, 41, 42, 43, 44, 45, 46, 47, 48, 49, 50, 51, 52, 53, 54, 55, 56, 57, 58, 59, 60, 61] rfl rfl rfl (by decide) (fun _ H locs _ hP hD hS => ?_)
  have hP : va_P D cls_ (sysO x v ca oq C1 G1 ++ mW h ad ca κ M1) H := hP
  have hD : va_D A (sysO x v ca oq C1 G1 ++ mW h ad ca κ M1) := hD
  refine lv_istore hx hb dLw_law_287 hl (by decide) rfl (fun ls hl => ?_)
  have hl : lv_has ls 7 [(6, .int β), (5, .int (nI κ)), (4, .int (nI i)), (3, .ref oq), (2, .ref h), (1, .ref x), (0, .ref b)] := hl
  refine lv_aload_n hx hb dLw_law_289 rfl (lv_at hl 4 rfl) ?_
  refine kI (r := fun _ => nI κ) (rV fx (c_Mo_thrown l D ca h ad κ M1) ⟨callB_of 0 hts (tb_gi tw_679) rfl rfl rfl (ht _ tw_5) (ht _ tw_676) (by decide +kernel) ⟨(Nat.le_of_ble_eq_true rfl), (Nat.le_of_ble_eq_true rfl)⟩, ht _ tw_677, ht _ tw_678⟩ hE hP hD 33 rfl rfl rfl [33, 34, 35, 36, 37, 38, 39, 40, 41, 42, 43, 44, 45, 46, 47, 48, 49, 50, 51, 52, 53, 54, 55, 56, 57, 58, 59, 60, 61] rfl rfl rfl hl.1 rfl (Nat.le_of_ble_eq_true rfl) dLw_law_290 hf) hP hD hS hA [33, 34, 35, 36, 37, 38, 39, 40, 41, 42, 43, 44, 45, 46, 47, 48, 49, 50, 51, 52, 53, 54, 55, 56, 57, 58, 59, 60, 61] [0, 1, 2, 3, 4, 5, 6, 7, 8, 9, 10, 11, 12, 13, 14, 15, 16, 17, 18, 19, 20, 21, 22, 23, 24, 25, 26, 27, 28, 29, 30, 31, 32] rfl rfl rfl (by decide) (fun _ H locs _ hP hD hS => ?_)
  have hP : va_P D cls_ (sysO x v ca oq C1 G1 ++ mW h ad ca κ M1) H := hP
  have hD : va_D A (sysO x v ca oq C1 G1 ++ mW h ad ca κ M1) := hD
  refine lv_iload hx hb dLw_law_293 (lv_at hl 1 rfl) ?_
  refine k_icmp_eq hx hb (a := κ) (b := κ) (by omega) (by omega) (tgt := 300) dLw_law_295 rfl (fun _ => ?_) (fun z => absurd rfl z)
  refine lv_iload hx hb dLw_law_300 (lv_at hl 1 rfl) ?_
  refine k_if_ne hx hb (a := κ) (by omega) (tgt := 317) dLw_law_302 rfl (fun _ => ?_) (fun hz => ?_)
  · refine lv_goto (tgt := 1102) hx hb dLw_law_317 rfl ?_
    exact kk _ _ _ _ _ _ _ hR1 hP hD hS (lv_sub hl [2, 3, 4, 5, 6] rfl)
  refine lv_aload_n hx hb dLw_law_305 rfl (lv_at hl 3 rfl) ?_
  refine lv_iconst (v := nI 0) hx hb dLw_law_306 (by decide) ?_
  refine va_lald hx hb hE.1 hP 32 4 rfl rfl (vp_in_nI (n := 0) (N := 1) (by decide) (by decide)) dLw_law_307 ?_
  refine lv_iload hx hb dLw_law_308 (lv_at hl 0 rfl) ?_
  refine lv_i2l (v := G1 0) hx hb dLw_law_310 (hv hz).symm ?_
  refine W.lcmp hx hb dLw_law_311 ?_
  refine k_is (y := nI 0) (cmp_self _) ?_
  refine k_if_eq hx hb (a := 0) (by decide) (tgt := 317) dLw_law_312 rfl (fun _ => ?_) (fun z => absurd rfl z)
  refine lv_goto (tgt := 1102) hx hb dLw_law_317 rfl ?_
  exact kk _ _ _ _ _ _ _ hR1 hP hD hS (lv_sub hl [2, 3, 4, 5, 6] rfl)
set_option maxHeartbeats 4000000 in
set_option maxRecDepth 100000 in
theorem a_hand {p : Program} {l : Launch} {e : Env} {s : State} {m : MethodId} {below : List Frame} {meth : Method} {c : Code} {b L : Nat} {xs : Nat → Int32} {D : va_G} {ca : Nat → ClassId} {A : Nat → Prop} {Q : State → Prop} {H : Heap} {locs : List Loc} {cells slots : Nat} {ls : Array Slot} {x oq h : Nat} {v ad : Nat → Nat} {co : Nat} {C : CS_} {G : Nat → Int64} {M : Nat → Nat → Nat} {i : Nat} (hlT : l.stackTraces = false) (fx : CallFix p m c code 7 s #[Value.ref b] (Cond.initialized "ChannelledLinkLaw" :: tb_) RLw) (hX : va_X b L xs s s.heap) (hbl : b < s.heap.size) (hbA : ¬ A b) (hL : L ≤ 3072) (hE : Ev D ca s) (hZ : Zx A s s.heap) (hA : ∀ q : Nat, s.heap.size ≤ q → A q) (hi : i + 6 ≤ L) (hf : cells + 1 ≤ room_1.cells ∧ slots + 6 ≤ room_1.slots) (hR : RR C M) (hP : va_P D cls_ (sysO x v ca oq C G ++ mW h ad ca co M) H) (hD : va_D A (sysO x v ca oq C G ++ mW h ad ca co M)) (hS : va_S A s.heap H locs) (hl : lv_has ls 7 [(4, .int (nI i)), (3, .ref oq), (2, .ref h), (1, .ref x), (0, .ref b)])
    (kk : ∀ (C : CS_) (G : Nat → Int64) (M : Nat → Nat → Nat) (co : Nat) (H : Heap) (locs : List Loc) (ls : Array Slot), RR C M → va_P D cls_ (sysO x v ca oq C G ++ mW h ad ca co M) H → va_D A (sysO x v ca oq C G ++ mW h ad ca co M) → va_S A s.heap H locs → lv_has ls 7 [(4, .int (nI i)), (3, .ref oq), (2, .ref h), (1, .ref x), (0, .ref b)] → W p l e room_1 s m #[Value.ref b] below meth c H locs (cells + 1) (slots + 6) Q (F0 m 1102 ls [])) : W p l e room_1 s m #[Value.ref b] below meth c H locs cells slots Q (F0 m 320 ls []) := by
  have hx := fx.1
  have hb := fx.2.1
  have hts := fx.2.2.2.2
  have ht : ∀ w ∈ tb_, w.before #[Value.ref b] s = true := fun w h => hts w (List.mem_cons_of_mem _ h)
  refine lv_aload_n hx hb dLw_law_320 rfl (lv_at hl 3 rfl) ?_
  refine lv_aload_n hx hb dLw_law_321 rfl (lv_at hl 4 rfl) ?_
  refine lv_iload hx hb dLw_law_322 (lv_at hl 0 rfl) ?_
  refine lv_iconst (v := nI 1) hx hb dLw_law_324 (by decide) ?_
  refine k_iadd hx hb dLw_law_325 ?_
  refine va_sld hx hb hX hbl hbA hS (vp_in_nI (by omega) (by omega)) dLw_law_326 ?_
  refine lv_aload_n hx hb dLw_law_327 rfl (lv_at hl 4 rfl) ?_
  refine lv_iload hx hb dLw_law_328 (lv_at hl 0 rfl) ?_
  refine lv_iconst (v := nI 2) hx hb dLw_law_330 (by decide) ?_
  refine k_iadd hx hb dLw_law_331 ?_
  refine va_sld hx hb hX hbl hbA hS (vp_in_nI (by omega) (by omega)) dLw_law_332 ?_
  refine lv_aload_n hx hb dLw_law_333 rfl (lv_at hl 4 rfl) ?_
  refine lv_iload hx hb dLw_law_334 (lv_at hl 0 rfl) ?_
  refine lv_iconst (v := nI 3) hx hb dLw_law_336 (by decide) ?_
  refine k_iadd hx hb dLw_law_337 ?_
  refine va_sld hx hb hX hbl hbA hS (vp_in_nI (by omega) (by omega)) dLw_law_338 ?_
  refine lv_aload_n hx hb dLw_law_339 rfl (lv_at hl 4 rfl) ?_
  refine lv_iload hx hb dLw_law_340 (lv_at hl 0 rfl) ?_
  refine lv_iconst (v := nI 4) hx hb dLw_law_342 (by decide) ?_
  refine k_iadd hx hb dLw_law_343 ?_
  refine va_sld hx hb hX hbl hbA hS (vp_in_nI (by omega) (by omega)) dLw_law_344 ?_
  refine lv_aload_n hx hb dLw_law_345 rfl (lv_at hl 4 rfl) ?_
  refine lv_iload hx hb dLw_law_346 (lv_at hl 0 rfl) ?_
  refine lv_iconst (v := nI 5) hx hb dLw_law_348 (by decide) ?_
  refine k_iadd hx hb dLw_law_349 ?_
  refine va_sld hx hb hX hbl hbA hS (vp_in_nI (by omega) (by omega)) dLw_law_350 ?_
  refine lv_aload_n hx hb dLw_law_351 rfl (lv_at hl 1 rfl) ?_
  obtain ⟨κ, β, C1, G1, M1, hκ, hw, hm, hR1, hv⟩ := o_hand l hlT D ca x oq h v ad co C G M hR (xs (nI (i + 1)).toNatClampNeg) (xs (nI (i + 2)).toNatClampNeg) (xs (nI (i + 3)).toNatClampNeg) (xs (nI (i + 4)).toNatClampNeg) (xs (nI (i + 5)).toNatClampNeg)
  refine kI (r := fun _ => nI κ) (rW fx hw (csw_of 7 hts tw_450 tw_0 tw_448 tw_449 (by decide +kernel) ⟨(Nat.le_of_ble_eq_true rfl), (Nat.le_of_ble_eq_true rfl)⟩) hE hZ hP hD hS hA [0, 1, 2, 3, 4, 5, 6, 7, 8, 9, 10, 11, 12, 13, 14, 15, 16, 17, 18, 19, 20, 21, 22, 23, 24, 25, 26, 27, 28, 29, 30, 31, 32] rfl rfl rfl hl.1 rfl (Nat.le_of_ble_eq_true rfl) dLw_law_352 hf) hP hD hS hA [0, 1, 2, 3, 4, 5, 6, 7, 8, 9, 10, 11, 12, 13, 14, 15, 16, 17, 18, 19, 20, 21, 22, 23, 24, 25, 26, 27, 28, 29, 30, 31, 32] [33, 34, 35, 36, 37, 38, 39, 40, 41, 42, 43, 44, 45, 46, 47, 48, 49, 50, 51, 52, 53, 54, 55, 56, 57, 58, 59, 60, 61] rfl rfl rfl (by decide) (fun _ H locs _ hP hD hS => ?_)
  have hP : va_P D cls_ (mW h ad ca co M ++ sysO x v ca oq C1 G1) H := hP
  have hD : va_D A (mW h ad ca co M ++ sysO x v ca oq C1 G1) := hD
  refine lv_istore hx hb dLw_law_355 hl (by decide) rfl (fun ls hl => ?_)
  have hl : lv_has ls 7 [(5, .int (nI κ)), (4, .int (nI i)), (3, .ref oq), (2, .ref h), (1, .ref x), (0, .ref b)] := hl
  refine lv_aload_n hx hb dLw_law_357 rfl (lv_at hl 3 rfl) ?_
  refine lv_aload_n hx hb dLw_law_358 rfl (lv_at hl 5 rfl) ?_
  refine lv_iload hx hb dLw_law_359 (lv_at hl 1 rfl) ?_
  refine lv_iconst (v := nI 1) hx hb dLw_law_361 (by decide) ?_
  refine k_iadd hx hb dLw_law_362 ?_
  refine va_sld hx hb hX hbl hbA hS (vp_in_nI (by omega) (by omega)) dLw_law_363 ?_
  refine lv_aload_n hx hb dLw_law_364 rfl (lv_at hl 5 rfl) ?_
  refine lv_iload hx hb dLw_law_365 (lv_at hl 1 rfl) ?_
  refine lv_iconst (v := nI 2) hx hb dLw_law_367 (by decide) ?_
  refine k_iadd hx hb dLw_law_368 ?_
  refine va_sld hx hb hX hbl hbA hS (vp_in_nI (by omega) (by omega)) dLw_law_369 ?_
  refine lv_aload_n hx hb dLw_law_370 rfl (lv_at hl 5 rfl) ?_
  refine lv_iload hx hb dLw_law_371 (lv_at hl 1 rfl) ?_
  refine lv_iconst (v := nI 3) hx hb dLw_law_373 (by decide) ?_
  refine k_iadd hx hb dLw_law_374 ?_
  refine va_sld hx hb hX hbl hbA hS (vp_in_nI (by omega) (by omega)) dLw_law_375 ?_
  refine lv_aload_n hx hb dLw_law_376 rfl (lv_at hl 5 rfl) ?_
  refine lv_iload hx hb dLw_law_377 (lv_at hl 1 rfl) ?_
  refine lv_iconst (v := nI 4) hx hb dLw_law_379 (by decide) ?_
  refine k_iadd hx hb dLw_law_380 ?_
  refine va_sld hx hb hX hbl hbA hS (vp_in_nI (by omega) (by omega)) dLw_law_381 ?_
  refine lv_aload_n hx hb dLw_law_382 rfl (lv_at hl 5 rfl) ?_
  refine lv_iload hx hb dLw_law_383 (lv_at hl 1 rfl) ?_
  refine lv_iconst (v := nI 5) hx hb dLw_law_385 (by decide) ?_
  refine k_iadd hx hb dLw_law_386 ?_
  refine va_sld hx hb hX hbl hbA hS (vp_in_nI (by omega) (by omega)) dLw_law_387 ?_
  refine kI (r := fun _ => β) (rV fx hm ⟨callB_of 5 hts (tb_gi tw_764) rfl rfl rfl (ht _ tw_5) (ht _ tw_761) (by decide +kernel) ⟨(Nat.le_of_ble_eq_true rfl), (Nat.le_of_ble_eq_true rfl)⟩, ht _ tw_762, ht _ tw_763⟩ hE hP hD 0 rfl rfl rfl [0, 1, 2, 3, 4, 5, 6, 7, 8, 9, 10, 11, 12, 13, 14, 15, 16, 17, 18, 19, 20, 21, 22, 23, 24, 25, 26, 27, 28] rfl rfl rfl hl.1 rfl (Nat.le_of_ble_eq_true rfl) dLw_law_388 hf) hP hD hS hA [0, 1, 2, 3, 4, 5, 6, 7, 8, 9, 10, 11, 12, 13, 14, 15, 16, 17, 18, 19, 20, 21, 22, 23, 24, 25, 26, 27, 28] [29, 30, 31, 32, 33, 34, 35, 36, 37, 38, 39, 40, 41, 42, 43, 44, 45, 46, 47, 48, 49, 50, 51, 52, 53, 54, 55, 56, 57, 58, 59, 60, 61] rfl rfl rfl (by decide) (fun _ H locs _ hP hD hS => ?_)
  have hP : va_P D cls_ (sysO x v ca oq C1 G1 ++ mW h ad ca κ M1) H := hP
  have hD : va_D A (sysO x v ca oq C1 G1 ++ mW h ad ca κ M1) := hD
  refine lv_istore hx hb dLw_law_391 hl (by decide) rfl (fun ls hl => ?_)
  have hl : lv_has ls 7 [(6, .int β), (5, .int (nI κ)), (4, .int (nI i)), (3, .ref oq), (2, .ref h), (1, .ref x), (0, .ref b)] := hl
  refine lv_aload_n hx hb dLw_law_393 rfl (lv_at hl 4 rfl) ?_
  refine kI (r := fun _ => nI κ) (rV fx (c_Mo_thrown l D ca h ad κ M1) ⟨callB_of 0 hts (tb_gi tw_679) rfl rfl rfl (ht _ tw_5) (ht _ tw_676) (by decide +kernel) ⟨(Nat.le_of_ble_eq_true rfl), (Nat.le_of_ble_eq_true rfl)⟩, ht _ tw_677, ht _ tw_678⟩ hE hP hD 33 rfl rfl rfl [33, 34, 35, 36, 37, 38, 39, 40, 41, 42, 43, 44, 45, 46, 47, 48, 49, 50, 51, 52, 53, 54, 55, 56, 57, 58, 59, 60, 61] rfl rfl rfl hl.1 rfl (Nat.le_of_ble_eq_true rfl) dLw_law_394 hf) hP hD hS hA [33, 34, 35, 36, 37, 38, 39, 40, 41, 42, 43, 44, 45, 46, 47, 48, 49, 50, 51, 52, 53, 54, 55, 56, 57, 58, 59, 60, 61] [0, 1, 2, 3, 4, 5, 6, 7, 8, 9, 10, 11, 12, 13, 14, 15, 16, 17, 18, 19, 20, 21, 22, 23, 24, 25, 26, 27, 28, 29, 30, 31, 32] rfl rfl rfl (by decide) (fun _ H locs _ hP hD hS => ?_)
  have hP : va_P D cls_ (sysO x v ca oq C1 G1 ++ mW h ad ca κ M1) H := hP
  have hD : va_D A (sysO x v ca oq C1 G1 ++ mW h ad ca κ M1) := hD
  refine lv_iload hx hb dLw_law_397 (lv_at hl 1 rfl) ?_
  refine k_icmp_eq hx hb (a := κ) (b := κ) (by omega) (by omega) (tgt := 404) dLw_law_399 rfl (fun _ => ?_) (fun z => absurd rfl z)
  refine lv_iload hx hb dLw_law_404 (lv_at hl 1 rfl) ?_
  refine k_if_ne hx hb (a := κ) (by omega) (tgt := 428) dLw_law_406 rfl (fun _ => ?_) (fun hz => ?_)
  · refine lv_goto (tgt := 1102) hx hb dLw_law_428 rfl ?_
    exact kk _ _ _ _ _ _ _ hR1 hP hD hS (lv_sub hl [2, 3, 4, 5, 6] rfl)
  refine lv_aload_n hx hb dLw_law_409 rfl (lv_at hl 3 rfl) ?_
  refine lv_iconst (v := nI 0) hx hb dLw_law_410 (by decide) ?_
  refine va_lald hx hb hE.1 hP 32 4 rfl rfl (vp_in_nI (n := 0) (N := 1) (by decide) (by decide)) dLw_law_411 ?_
  refine lv_iload hx hb dLw_law_412 (lv_at hl 0 rfl) ?_
  obtain ⟨hβ, hg⟩ := hv hz
  rcases hβ with hβ | hβ
  · refine k_is hβ ?_
    refine k_if_eq hx hb (a := 0) (by decide) (tgt := 421) dLw_law_414 rfl (fun _ => ?_) (fun z => absurd rfl z)
    refine lv_lconst (v := 0) hx hb dLw_law_421 (by decide) ?_
    refine W.lcmp hx hb dLw_law_422 ?_
    refine k_is (y := nI 0) (by rw [show G1 (nI 0).toNatClampNeg = 0 from (hg.trans (by rw [hβ]; decide))]; exact cmp_self _) ?_
    refine k_if_eq hx hb (a := 0) (by decide) (tgt := 428) dLw_law_423 rfl (fun _ => ?_) (fun z => absurd rfl z)
    refine lv_goto (tgt := 1102) hx hb dLw_law_428 rfl ?_
    exact kk _ _ _ _ _ _ _ hR1 hP hD hS (lv_sub hl [2, 3, 4, 5, 6] rfl)
  · refine k_is hβ ?_
    refine k_if_eq hx hb (a := 1) (by decide) (tgt := 421) dLw_law_414 rfl (fun z => absurd z (by decide)) (fun _ => ?_)
    refine lv_lconst (v := 1) hx hb dLw_law_417 (by decide) ?_
    refine lv_goto (tgt := 422) hx hb dLw_law_418 rfl ?_
    refine W.lcmp hx hb dLw_law_422 ?_
    refine k_is (y := nI 0) (by rw [show G1 (nI 0).toNatClampNeg = 1 from (hg.trans (by rw [hβ]; decide))]; exact cmp_self _) ?_
    refine k_if_eq hx hb (a := 0) (by decide) (tgt := 428) dLw_law_423 rfl (fun _ => ?_) (fun z => absurd rfl z)
    refine lv_goto (tgt := 1102) hx hb dLw_law_428 rfl ?_
    exact kk _ _ _ _ _ _ _ hR1 hP hD hS (lv_sub hl [2, 3, 4, 5, 6] rfl)
set_option maxHeartbeats 4000000 in
set_option maxRecDepth 100000 in
theorem a_call {p : Program} {l : Launch} {e : Env} {s : State} {m : MethodId} {below : List Frame} {meth : Method} {c : Code} {b L : Nat} {xs : Nat → Int32} {D : va_G} {ca : Nat → ClassId} {A : Nat → Prop} {Q : State → Prop} {H : Heap} {locs : List Loc} {cells slots : Nat} {ls : Array Slot} {x oq h : Nat} {v ad : Nat → Nat} {co : Nat} {C : CS_} {G : Nat → Int64} {M : Nat → Nat → Nat} {i : Nat} (hlT : l.stackTraces = false) (fx : CallFix p m c code 7 s #[Value.ref b] (Cond.initialized "ChannelledLinkLaw" :: tb_) RLw) (hX : va_X b L xs s s.heap) (hbl : b < s.heap.size) (hbA : ¬ A b) (hL : L ≤ 3072) (hE : Ev D ca s) (hZ : Zx A s s.heap) (hA : ∀ q : Nat, s.heap.size ≤ q → A q) (hi : i + 6 ≤ L) (hf : cells + 1 ≤ room_1.cells ∧ slots + 6 ≤ room_1.slots) (hR : RR C M) (hP : va_P D cls_ (sysO x v ca oq C G ++ mW h ad ca co M) H) (hD : va_D A (sysO x v ca oq C G ++ mW h ad ca co M)) (hS : va_S A s.heap H locs) (hl : lv_has ls 7 [(4, .int (nI i)), (3, .ref oq), (2, .ref h), (1, .ref x), (0, .ref b)])
    (kk : ∀ (C : CS_) (G : Nat → Int64) (M : Nat → Nat → Nat) (co : Nat) (H : Heap) (locs : List Loc) (ls : Array Slot), RR C M → va_P D cls_ (sysO x v ca oq C G ++ mW h ad ca co M) H → va_D A (sysO x v ca oq C G ++ mW h ad ca co M) → va_S A s.heap H locs → lv_has ls 7 [(4, .int (nI i)), (3, .ref oq), (2, .ref h), (1, .ref x), (0, .ref b)] → W p l e room_1 s m #[Value.ref b] below meth c H locs (cells + 1) (slots + 6) Q (F0 m 1102 ls [])) : W p l e room_1 s m #[Value.ref b] below meth c H locs cells slots Q (F0 m 431 ls []) := by
  have hx := fx.1
  have hb := fx.2.1
  have hts := fx.2.2.2.2
  have ht : ∀ w ∈ tb_, w.before #[Value.ref b] s = true := fun w h => hts w (List.mem_cons_of_mem _ h)
  refine lv_aload_n hx hb dLw_law_431 rfl (lv_at hl 3 rfl) ?_
  refine lv_aload_n hx hb dLw_law_432 rfl (lv_at hl 4 rfl) ?_
  refine lv_iload hx hb dLw_law_433 (lv_at hl 0 rfl) ?_
  refine lv_iconst (v := nI 1) hx hb dLw_law_435 (by decide) ?_
  refine k_iadd hx hb dLw_law_436 ?_
  refine va_sld hx hb hX hbl hbA hS (vp_in_nI (by omega) (by omega)) dLw_law_437 ?_
  refine lv_aload_n hx hb dLw_law_438 rfl (lv_at hl 4 rfl) ?_
  refine lv_iload hx hb dLw_law_439 (lv_at hl 0 rfl) ?_
  refine lv_iconst (v := nI 2) hx hb dLw_law_441 (by decide) ?_
  refine k_iadd hx hb dLw_law_442 ?_
  refine va_sld hx hb hX hbl hbA hS (vp_in_nI (by omega) (by omega)) dLw_law_443 ?_
  obtain ⟨κ, β, C1, G1, M1, hκ, hw, hm, hR1, hv⟩ := o_call l hlT D ca x oq h v ad co C G M hR (xs (nI (i + 1)).toNatClampNeg) (xs (nI (i + 2)).toNatClampNeg)
  refine kI (r := fun _ => nI κ) (rW fx hw (csw_of 3 hts tw_467 tw_0 tw_465 tw_466 (by decide +kernel) ⟨(Nat.le_of_ble_eq_true rfl), (Nat.le_of_ble_eq_true rfl)⟩) hE hZ hP hD hS hA [0, 1, 2, 3, 4, 5, 6, 7, 8, 9, 10, 11, 12, 13, 14, 15, 16, 17, 18, 19, 20, 21, 22, 23, 24, 25, 26, 27, 28, 29, 30, 31, 32] rfl rfl rfl hl.1 rfl (Nat.le_of_ble_eq_true rfl) dLw_law_444 hf) hP hD hS hA [0, 1, 2, 3, 4, 5, 6, 7, 8, 9, 10, 11, 12, 13, 14, 15, 16, 17, 18, 19, 20, 21, 22, 23, 24, 25, 26, 27, 28, 29, 30, 31, 32] [33, 34, 35, 36, 37, 38, 39, 40, 41, 42, 43, 44, 45, 46, 47, 48, 49, 50, 51, 52, 53, 54, 55, 56, 57, 58, 59, 60, 61] rfl rfl rfl (by decide) (fun _ H locs _ hP hD hS => ?_)
  have hP : va_P D cls_ (mW h ad ca co M ++ sysO x v ca oq C1 G1) H := hP
  have hD : va_D A (mW h ad ca co M ++ sysO x v ca oq C1 G1) := hD
  refine lv_istore hx hb dLw_law_447 hl (by decide) rfl (fun ls hl => ?_)
  have hl : lv_has ls 7 [(5, .int (nI κ)), (4, .int (nI i)), (3, .ref oq), (2, .ref h), (1, .ref x), (0, .ref b)] := hl
  refine lv_aload_n hx hb dLw_law_449 rfl (lv_at hl 3 rfl) ?_
  refine lv_aload_n hx hb dLw_law_450 rfl (lv_at hl 5 rfl) ?_
  refine lv_iload hx hb dLw_law_451 (lv_at hl 1 rfl) ?_
  refine lv_iconst (v := nI 1) hx hb dLw_law_453 (by decide) ?_
  refine k_iadd hx hb dLw_law_454 ?_
  refine va_sld hx hb hX hbl hbA hS (vp_in_nI (by omega) (by omega)) dLw_law_455 ?_
  refine lv_aload_n hx hb dLw_law_456 rfl (lv_at hl 5 rfl) ?_
  refine lv_iload hx hb dLw_law_457 (lv_at hl 1 rfl) ?_
  refine lv_iconst (v := nI 2) hx hb dLw_law_459 (by decide) ?_
  refine k_iadd hx hb dLw_law_460 ?_
  refine va_sld hx hb hX hbl hbA hS (vp_in_nI (by omega) (by omega)) dLw_law_461 ?_
  refine kV (rV fx hm ⟨callB_of 2 hts (tb_gi tw_779) rfl rfl rfl (ht _ tw_5) (ht _ tw_776) (by decide +kernel) ⟨(Nat.le_of_ble_eq_true rfl), (Nat.le_of_ble_eq_true rfl)⟩, ht _ tw_777, ht _ tw_778⟩ hE hP hD 0 rfl rfl rfl [0, 1, 2, 3, 4, 5, 6, 7, 8, 9, 10, 11, 12, 13, 14, 15, 16, 17, 18, 19, 20, 21, 22, 23, 24, 25, 26, 27, 28] rfl rfl rfl hl.1 rfl (Nat.le_of_ble_eq_true rfl) dLw_law_462 hf) hP hD hS hA [0, 1, 2, 3, 4, 5, 6, 7, 8, 9, 10, 11, 12, 13, 14, 15, 16, 17, 18, 19, 20, 21, 22, 23, 24, 25, 26, 27, 28] [29, 30, 31, 32, 33, 34, 35, 36, 37, 38, 39, 40, 41, 42, 43, 44, 45, 46, 47, 48, 49, 50, 51, 52, 53, 54, 55, 56, 57, 58, 59, 60, 61] rfl rfl rfl (by decide) (fun _ H locs _ hP hD hS => ?_)
  have hP : va_P D cls_ (sysO x v ca oq C1 G1 ++ mW h ad ca κ M1) H := hP
  have hD : va_D A (sysO x v ca oq C1 G1 ++ mW h ad ca κ M1) := hD
  refine lv_aload_n hx hb dLw_law_465 rfl (lv_at hl 3 rfl) ?_
  refine kI (r := fun _ => nI κ) (rV fx (c_Mo_thrown l D ca h ad κ M1) ⟨callB_of 0 hts (tb_gi tw_679) rfl rfl rfl (ht _ tw_5) (ht _ tw_676) (by decide +kernel) ⟨(Nat.le_of_ble_eq_true rfl), (Nat.le_of_ble_eq_true rfl)⟩, ht _ tw_677, ht _ tw_678⟩ hE hP hD 33 rfl rfl rfl [33, 34, 35, 36, 37, 38, 39, 40, 41, 42, 43, 44, 45, 46, 47, 48, 49, 50, 51, 52, 53, 54, 55, 56, 57, 58, 59, 60, 61] rfl rfl rfl hl.1 rfl (Nat.le_of_ble_eq_true rfl) dLw_law_466 hf) hP hD hS hA [33, 34, 35, 36, 37, 38, 39, 40, 41, 42, 43, 44, 45, 46, 47, 48, 49, 50, 51, 52, 53, 54, 55, 56, 57, 58, 59, 60, 61] [0, 1, 2, 3, 4, 5, 6, 7, 8, 9, 10, 11, 12, 13, 14, 15, 16, 17, 18, 19, 20, 21, 22, 23, 24, 25, 26, 27, 28, 29, 30, 31, 32] rfl rfl rfl (by decide) (fun _ H locs _ hP hD hS => ?_)
  have hP : va_P D cls_ (sysO x v ca oq C1 G1 ++ mW h ad ca κ M1) H := hP
  have hD : va_D A (sysO x v ca oq C1 G1 ++ mW h ad ca κ M1) := hD
  refine lv_iload hx hb dLw_law_469 (lv_at hl 0 rfl) ?_
  refine k_icmp_eq hx hb (a := κ) (b := κ) (by omega) (by omega) (tgt := 476) dLw_law_471 rfl (fun _ => ?_) (fun z => absurd rfl z)
  refine lv_goto (tgt := 1102) hx hb dLw_law_476 rfl ?_
  exact kk _ _ _ _ _ _ _ hR1 hP hD hS (lv_sub hl [1, 2, 3, 4, 5] rfl)
set_option maxHeartbeats 4000000 in
set_option maxRecDepth 100000 in
theorem a_accept {p : Program} {l : Launch} {e : Env} {s : State} {m : MethodId} {below : List Frame} {meth : Method} {c : Code} {b L : Nat} {xs : Nat → Int32} {D : va_G} {ca : Nat → ClassId} {A : Nat → Prop} {Q : State → Prop} {H : Heap} {locs : List Loc} {cells slots : Nat} {ls : Array Slot} {x oq h : Nat} {v ad : Nat → Nat} {co : Nat} {C : CS_} {G : Nat → Int64} {M : Nat → Nat → Nat} {i : Nat} (hlT : l.stackTraces = false) (fx : CallFix p m c code 7 s #[Value.ref b] (Cond.initialized "ChannelledLinkLaw" :: tb_) RLw) (hX : va_X b L xs s s.heap) (hbl : b < s.heap.size) (hbA : ¬ A b) (hL : L ≤ 3072) (hE : Ev D ca s) (hZ : Zx A s s.heap) (hA : ∀ q : Nat, s.heap.size ≤ q → A q) (hi : i + 6 ≤ L) (hf : cells + 1 ≤ room_1.cells ∧ slots + 6 ≤ room_1.slots) (hR : RR C M) (hP : va_P D cls_ (sysO x v ca oq C G ++ mW h ad ca co M) H) (hD : va_D A (sysO x v ca oq C G ++ mW h ad ca co M)) (hS : va_S A s.heap H locs) (hl : lv_has ls 7 [(4, .int (nI i)), (3, .ref oq), (2, .ref h), (1, .ref x), (0, .ref b)])
    (kk : ∀ (C : CS_) (G : Nat → Int64) (M : Nat → Nat → Nat) (co : Nat) (H : Heap) (locs : List Loc) (ls : Array Slot), RR C M → va_P D cls_ (sysO x v ca oq C G ++ mW h ad ca co M) H → va_D A (sysO x v ca oq C G ++ mW h ad ca co M) → va_S A s.heap H locs → lv_has ls 7 [(4, .int (nI i)), (3, .ref oq), (2, .ref h), (1, .ref x), (0, .ref b)] → W p l e room_1 s m #[Value.ref b] below meth c H locs (cells + 1) (slots + 6) Q (F0 m 1102 ls [])) : W p l e room_1 s m #[Value.ref b] below meth c H locs cells slots Q (F0 m 479 ls []) := by
  have hx := fx.1
  have hb := fx.2.1
  have hts := fx.2.2.2.2
  have ht : ∀ w ∈ tb_, w.before #[Value.ref b] s = true := fun w h => hts w (List.mem_cons_of_mem _ h)
  refine lv_aload_n hx hb dLw_law_479 rfl (lv_at hl 3 rfl) ?_
  refine lv_aload_n hx hb dLw_law_480 rfl (lv_at hl 4 rfl) ?_
  refine lv_iload hx hb dLw_law_481 (lv_at hl 0 rfl) ?_
  refine lv_iconst (v := nI 1) hx hb dLw_law_483 (by decide) ?_
  refine k_iadd hx hb dLw_law_484 ?_
  refine va_sld hx hb hX hbl hbA hS (vp_in_nI (by omega) (by omega)) dLw_law_485 ?_
  refine lv_aload_n hx hb dLw_law_486 rfl (lv_at hl 4 rfl) ?_
  refine lv_iload hx hb dLw_law_487 (lv_at hl 0 rfl) ?_
  refine lv_iconst (v := nI 2) hx hb dLw_law_489 (by decide) ?_
  refine k_iadd hx hb dLw_law_490 ?_
  refine va_sld hx hb hX hbl hbA hS (vp_in_nI (by omega) (by omega)) dLw_law_491 ?_
  obtain ⟨κ, β, C1, G1, M1, hκ, hw, hm, hR1, hv⟩ := o_accept l hlT D ca x oq h v ad co C G M hR (xs (nI (i + 1)).toNatClampNeg) (xs (nI (i + 2)).toNatClampNeg)
  refine kI (r := fun _ => nI κ) (rW fx hw (csw_of 3 hts tw_484 tw_0 tw_482 tw_483 (by decide +kernel) ⟨(Nat.le_of_ble_eq_true rfl), (Nat.le_of_ble_eq_true rfl)⟩) hE hZ hP hD hS hA [0, 1, 2, 3, 4, 5, 6, 7, 8, 9, 10, 11, 12, 13, 14, 15, 16, 17, 18, 19, 20, 21, 22, 23, 24, 25, 26, 27, 28, 29, 30, 31, 32] rfl rfl rfl hl.1 rfl (Nat.le_of_ble_eq_true rfl) dLw_law_492 hf) hP hD hS hA [0, 1, 2, 3, 4, 5, 6, 7, 8, 9, 10, 11, 12, 13, 14, 15, 16, 17, 18, 19, 20, 21, 22, 23, 24, 25, 26, 27, 28, 29, 30, 31, 32] [33, 34, 35, 36, 37, 38, 39, 40, 41, 42, 43, 44, 45, 46, 47, 48, 49, 50, 51, 52, 53, 54, 55, 56, 57, 58, 59, 60, 61] rfl rfl rfl (by decide) (fun _ H locs _ hP hD hS => ?_)
  have hP : va_P D cls_ (mW h ad ca co M ++ sysO x v ca oq C1 G1) H := hP
  have hD : va_D A (mW h ad ca co M ++ sysO x v ca oq C1 G1) := hD
  refine lv_istore hx hb dLw_law_495 hl (by decide) rfl (fun ls hl => ?_)
  have hl : lv_has ls 7 [(5, .int (nI κ)), (4, .int (nI i)), (3, .ref oq), (2, .ref h), (1, .ref x), (0, .ref b)] := hl
  refine lv_aload_n hx hb dLw_law_497 rfl (lv_at hl 3 rfl) ?_
  refine lv_aload_n hx hb dLw_law_498 rfl (lv_at hl 5 rfl) ?_
  refine lv_iload hx hb dLw_law_499 (lv_at hl 1 rfl) ?_
  refine lv_iconst (v := nI 1) hx hb dLw_law_501 (by decide) ?_
  refine k_iadd hx hb dLw_law_502 ?_
  refine va_sld hx hb hX hbl hbA hS (vp_in_nI (by omega) (by omega)) dLw_law_503 ?_
  refine lv_aload_n hx hb dLw_law_504 rfl (lv_at hl 5 rfl) ?_
  refine lv_iload hx hb dLw_law_505 (lv_at hl 1 rfl) ?_
  refine lv_iconst (v := nI 2) hx hb dLw_law_507 (by decide) ?_
  refine k_iadd hx hb dLw_law_508 ?_
  refine va_sld hx hb hX hbl hbA hS (vp_in_nI (by omega) (by omega)) dLw_law_509 ?_
  refine kV (rV fx hm ⟨callB_of 2 hts (tb_gi tw_791) rfl rfl rfl (ht _ tw_5) (ht _ tw_788) (by decide +kernel) ⟨(Nat.le_of_ble_eq_true rfl), (Nat.le_of_ble_eq_true rfl)⟩, ht _ tw_789, ht _ tw_790⟩ hE hP hD 0 rfl rfl rfl [0, 1, 2, 3, 4, 5, 6, 7, 8, 9, 10, 11, 12, 13, 14, 15, 16, 17, 18, 19, 20, 21, 22, 23, 24, 25, 26, 27, 28] rfl rfl rfl hl.1 rfl (Nat.le_of_ble_eq_true rfl) dLw_law_510 hf) hP hD hS hA [0, 1, 2, 3, 4, 5, 6, 7, 8, 9, 10, 11, 12, 13, 14, 15, 16, 17, 18, 19, 20, 21, 22, 23, 24, 25, 26, 27, 28] [29, 30, 31, 32, 33, 34, 35, 36, 37, 38, 39, 40, 41, 42, 43, 44, 45, 46, 47, 48, 49, 50, 51, 52, 53, 54, 55, 56, 57, 58, 59, 60, 61] rfl rfl rfl (by decide) (fun _ H locs _ hP hD hS => ?_)
  have hP : va_P D cls_ (sysO x v ca oq C1 G1 ++ mW h ad ca κ M1) H := hP
  have hD : va_D A (sysO x v ca oq C1 G1 ++ mW h ad ca κ M1) := hD
  refine lv_aload_n hx hb dLw_law_513 rfl (lv_at hl 3 rfl) ?_
  refine kI (r := fun _ => nI κ) (rV fx (c_Mo_thrown l D ca h ad κ M1) ⟨callB_of 0 hts (tb_gi tw_679) rfl rfl rfl (ht _ tw_5) (ht _ tw_676) (by decide +kernel) ⟨(Nat.le_of_ble_eq_true rfl), (Nat.le_of_ble_eq_true rfl)⟩, ht _ tw_677, ht _ tw_678⟩ hE hP hD 33 rfl rfl rfl [33, 34, 35, 36, 37, 38, 39, 40, 41, 42, 43, 44, 45, 46, 47, 48, 49, 50, 51, 52, 53, 54, 55, 56, 57, 58, 59, 60, 61] rfl rfl rfl hl.1 rfl (Nat.le_of_ble_eq_true rfl) dLw_law_514 hf) hP hD hS hA [33, 34, 35, 36, 37, 38, 39, 40, 41, 42, 43, 44, 45, 46, 47, 48, 49, 50, 51, 52, 53, 54, 55, 56, 57, 58, 59, 60, 61] [0, 1, 2, 3, 4, 5, 6, 7, 8, 9, 10, 11, 12, 13, 14, 15, 16, 17, 18, 19, 20, 21, 22, 23, 24, 25, 26, 27, 28, 29, 30, 31, 32] rfl rfl rfl (by decide) (fun _ H locs _ hP hD hS => ?_)
  have hP : va_P D cls_ (sysO x v ca oq C1 G1 ++ mW h ad ca κ M1) H := hP
  have hD : va_D A (sysO x v ca oq C1 G1 ++ mW h ad ca κ M1) := hD
  refine lv_iload hx hb dLw_law_517 (lv_at hl 0 rfl) ?_
  refine k_icmp_eq hx hb (a := κ) (b := κ) (by omega) (by omega) (tgt := 524) dLw_law_519 rfl (fun _ => ?_) (fun z => absurd rfl z)
  refine lv_goto (tgt := 1102) hx hb dLw_law_524 rfl ?_
  exact kk _ _ _ _ _ _ _ hR1 hP hD hS (lv_sub hl [1, 2, 3, 4, 5] rfl)
set_option maxHeartbeats 4000000 in
set_option maxRecDepth 100000 in
theorem a_clear {p : Program} {l : Launch} {e : Env} {s : State} {m : MethodId} {below : List Frame} {meth : Method} {c : Code} {b L : Nat} {xs : Nat → Int32} {D : va_G} {ca : Nat → ClassId} {A : Nat → Prop} {Q : State → Prop} {H : Heap} {locs : List Loc} {cells slots : Nat} {ls : Array Slot} {x oq h : Nat} {v ad : Nat → Nat} {co : Nat} {C : CS_} {G : Nat → Int64} {M : Nat → Nat → Nat} {i : Nat} (hlT : l.stackTraces = false) (fx : CallFix p m c code 7 s #[Value.ref b] (Cond.initialized "ChannelledLinkLaw" :: tb_) RLw) (hX : va_X b L xs s s.heap) (hbl : b < s.heap.size) (hbA : ¬ A b) (hL : L ≤ 3072) (hE : Ev D ca s) (hZ : Zx A s s.heap) (hA : ∀ q : Nat, s.heap.size ≤ q → A q) (hi : i + 6 ≤ L) (hf : cells + 1 ≤ room_1.cells ∧ slots + 6 ≤ room_1.slots) (hR : RR C M) (hP : va_P D cls_ (sysO x v ca oq C G ++ mW h ad ca co M) H) (hD : va_D A (sysO x v ca oq C G ++ mW h ad ca co M)) (hS : va_S A s.heap H locs) (hl : lv_has ls 7 [(4, .int (nI i)), (3, .ref oq), (2, .ref h), (1, .ref x), (0, .ref b)])
    (kk : ∀ (C : CS_) (G : Nat → Int64) (M : Nat → Nat → Nat) (co : Nat) (H : Heap) (locs : List Loc) (ls : Array Slot), RR C M → va_P D cls_ (sysO x v ca oq C G ++ mW h ad ca co M) H → va_D A (sysO x v ca oq C G ++ mW h ad ca co M) → va_S A s.heap H locs → lv_has ls 7 [(4, .int (nI i)), (3, .ref oq), (2, .ref h), (1, .ref x), (0, .ref b)] → W p l e room_1 s m #[Value.ref b] below meth c H locs (cells + 1) (slots + 6) Q (F0 m 1102 ls [])) : W p l e room_1 s m #[Value.ref b] below meth c H locs cells slots Q (F0 m 527 ls []) := by
  have hx := fx.1
  have hb := fx.2.1
  have hts := fx.2.2.2.2
  have ht : ∀ w ∈ tb_, w.before #[Value.ref b] s = true := fun w h => hts w (List.mem_cons_of_mem _ h)
  refine lv_aload_n hx hb dLw_law_527 rfl (lv_at hl 3 rfl) ?_
  refine lv_aload_n hx hb dLw_law_528 rfl (lv_at hl 4 rfl) ?_
  refine lv_iload hx hb dLw_law_529 (lv_at hl 0 rfl) ?_
  refine lv_iconst (v := nI 1) hx hb dLw_law_531 (by decide) ?_
  refine k_iadd hx hb dLw_law_532 ?_
  refine va_sld hx hb hX hbl hbA hS (vp_in_nI (by omega) (by omega)) dLw_law_533 ?_
  refine lv_aload_n hx hb dLw_law_534 rfl (lv_at hl 4 rfl) ?_
  refine lv_iload hx hb dLw_law_535 (lv_at hl 0 rfl) ?_
  refine lv_iconst (v := nI 2) hx hb dLw_law_537 (by decide) ?_
  refine k_iadd hx hb dLw_law_538 ?_
  refine va_sld hx hb hX hbl hbA hS (vp_in_nI (by omega) (by omega)) dLw_law_539 ?_
  obtain ⟨κ, β, C1, G1, M1, hκ, hw, hm, hR1, hv⟩ := o_clear l hlT D ca x oq h v ad co C G M hR (xs (nI (i + 1)).toNatClampNeg) (xs (nI (i + 2)).toNatClampNeg)
  refine kI (r := fun _ => nI κ) (rW fx hw (csw_of 3 hts tw_491 tw_0 tw_489 tw_490 (by decide +kernel) ⟨(Nat.le_of_ble_eq_true rfl), (Nat.le_of_ble_eq_true rfl)⟩) hE hZ hP hD hS hA [0, 1, 2, 3, 4, 5, 6, 7, 8, 9, 10, 11, 12, 13, 14, 15, 16, 17, 18, 19, 20, 21, 22, 23, 24, 25, 26, 27, 28, 29, 30, 31, 32] rfl rfl rfl hl.1 rfl (Nat.le_of_ble_eq_true rfl) dLw_law_540 hf) hP hD hS hA [0, 1, 2, 3, 4, 5, 6, 7, 8, 9, 10, 11, 12, 13, 14, 15, 16, 17, 18, 19, 20, 21, 22, 23, 24, 25, 26, 27, 28, 29, 30, 31, 32] [33, 34, 35, 36, 37, 38, 39, 40, 41, 42, 43, 44, 45, 46, 47, 48, 49, 50, 51, 52, 53, 54, 55, 56, 57, 58, 59, 60, 61] rfl rfl rfl (by decide) (fun _ H locs _ hP hD hS => ?_)
  have hP : va_P D cls_ (mW h ad ca co M ++ sysO x v ca oq C1 G1) H := hP
  have hD : va_D A (mW h ad ca co M ++ sysO x v ca oq C1 G1) := hD
  refine lv_istore hx hb dLw_law_543 hl (by decide) rfl (fun ls hl => ?_)
  have hl : lv_has ls 7 [(5, .int (nI κ)), (4, .int (nI i)), (3, .ref oq), (2, .ref h), (1, .ref x), (0, .ref b)] := hl
  refine lv_aload_n hx hb dLw_law_545 rfl (lv_at hl 3 rfl) ?_
  refine lv_aload_n hx hb dLw_law_546 rfl (lv_at hl 5 rfl) ?_
  refine lv_iload hx hb dLw_law_547 (lv_at hl 1 rfl) ?_
  refine lv_iconst (v := nI 1) hx hb dLw_law_549 (by decide) ?_
  refine k_iadd hx hb dLw_law_550 ?_
  refine va_sld hx hb hX hbl hbA hS (vp_in_nI (by omega) (by omega)) dLw_law_551 ?_
  refine lv_aload_n hx hb dLw_law_552 rfl (lv_at hl 5 rfl) ?_
  refine lv_iload hx hb dLw_law_553 (lv_at hl 1 rfl) ?_
  refine lv_iconst (v := nI 2) hx hb dLw_law_555 (by decide) ?_
  refine k_iadd hx hb dLw_law_556 ?_
  refine va_sld hx hb hX hbl hbA hS (vp_in_nI (by omega) (by omega)) dLw_law_557 ?_
  refine kV (rV fx hm ⟨callB_of 2 hts (tb_gi tw_795) rfl rfl rfl (ht _ tw_5) (ht _ tw_792) (by decide +kernel) ⟨(Nat.le_of_ble_eq_true rfl), (Nat.le_of_ble_eq_true rfl)⟩, ht _ tw_793, ht _ tw_794⟩ hE hP hD 0 rfl rfl rfl [0, 1, 2, 3, 4, 5, 6, 7, 8, 9, 10, 11, 12, 13, 14, 15, 16, 17, 18, 19, 20, 21, 22, 23, 24, 25, 26, 27, 28] rfl rfl rfl hl.1 rfl (Nat.le_of_ble_eq_true rfl) dLw_law_558 hf) hP hD hS hA [0, 1, 2, 3, 4, 5, 6, 7, 8, 9, 10, 11, 12, 13, 14, 15, 16, 17, 18, 19, 20, 21, 22, 23, 24, 25, 26, 27, 28] [29, 30, 31, 32, 33, 34, 35, 36, 37, 38, 39, 40, 41, 42, 43, 44, 45, 46, 47, 48, 49, 50, 51, 52, 53, 54, 55, 56, 57, 58, 59, 60, 61] rfl rfl rfl (by decide) (fun _ H locs _ hP hD hS => ?_)
  have hP : va_P D cls_ (sysO x v ca oq C1 G1 ++ mW h ad ca κ M1) H := hP
  have hD : va_D A (sysO x v ca oq C1 G1 ++ mW h ad ca κ M1) := hD
  refine lv_aload_n hx hb dLw_law_561 rfl (lv_at hl 3 rfl) ?_
  refine kI (r := fun _ => nI κ) (rV fx (c_Mo_thrown l D ca h ad κ M1) ⟨callB_of 0 hts (tb_gi tw_679) rfl rfl rfl (ht _ tw_5) (ht _ tw_676) (by decide +kernel) ⟨(Nat.le_of_ble_eq_true rfl), (Nat.le_of_ble_eq_true rfl)⟩, ht _ tw_677, ht _ tw_678⟩ hE hP hD 33 rfl rfl rfl [33, 34, 35, 36, 37, 38, 39, 40, 41, 42, 43, 44, 45, 46, 47, 48, 49, 50, 51, 52, 53, 54, 55, 56, 57, 58, 59, 60, 61] rfl rfl rfl hl.1 rfl (Nat.le_of_ble_eq_true rfl) dLw_law_562 hf) hP hD hS hA [33, 34, 35, 36, 37, 38, 39, 40, 41, 42, 43, 44, 45, 46, 47, 48, 49, 50, 51, 52, 53, 54, 55, 56, 57, 58, 59, 60, 61] [0, 1, 2, 3, 4, 5, 6, 7, 8, 9, 10, 11, 12, 13, 14, 15, 16, 17, 18, 19, 20, 21, 22, 23, 24, 25, 26, 27, 28, 29, 30, 31, 32] rfl rfl rfl (by decide) (fun _ H locs _ hP hD hS => ?_)
  have hP : va_P D cls_ (sysO x v ca oq C1 G1 ++ mW h ad ca κ M1) H := hP
  have hD : va_D A (sysO x v ca oq C1 G1 ++ mW h ad ca κ M1) := hD
  refine lv_iload hx hb dLw_law_565 (lv_at hl 0 rfl) ?_
  refine k_icmp_eq hx hb (a := κ) (b := κ) (by omega) (by omega) (tgt := 572) dLw_law_567 rfl (fun _ => ?_) (fun z => absurd rfl z)
  refine lv_goto (tgt := 1102) hx hb dLw_law_572 rfl ?_
  exact kk _ _ _ _ _ _ _ hR1 hP hD hS (lv_sub hl [1, 2, 3, 4, 5] rfl)
set_option maxHeartbeats 4000000 in
set_option maxRecDepth 100000 in
theorem a_reset {p : Program} {l : Launch} {e : Env} {s : State} {m : MethodId} {below : List Frame} {meth : Method} {c : Code} {b L : Nat} {xs : Nat → Int32} {D : va_G} {ca : Nat → ClassId} {A : Nat → Prop} {Q : State → Prop} {H : Heap} {locs : List Loc} {cells slots : Nat} {ls : Array Slot} {x oq h : Nat} {v ad : Nat → Nat} {co : Nat} {C : CS_} {G : Nat → Int64} {M : Nat → Nat → Nat} {i : Nat} (hlT : l.stackTraces = false) (fx : CallFix p m c code 7 s #[Value.ref b] (Cond.initialized "ChannelledLinkLaw" :: tb_) RLw) (hX : va_X b L xs s s.heap) (hbl : b < s.heap.size) (hbA : ¬ A b) (hL : L ≤ 3072) (hE : Ev D ca s) (hZ : Zx A s s.heap) (hA : ∀ q : Nat, s.heap.size ≤ q → A q) (hi : i + 6 ≤ L) (hf : cells + 1 ≤ room_1.cells ∧ slots + 6 ≤ room_1.slots) (hR : RR C M) (hP : va_P D cls_ (sysO x v ca oq C G ++ mW h ad ca co M) H) (hD : va_D A (sysO x v ca oq C G ++ mW h ad ca co M)) (hS : va_S A s.heap H locs) (hl : lv_has ls 7 [(4, .int (nI i)), (3, .ref oq), (2, .ref h), (1, .ref x), (0, .ref b)])
    (kk : ∀ (C : CS_) (G : Nat → Int64) (M : Nat → Nat → Nat) (co : Nat) (H : Heap) (locs : List Loc) (ls : Array Slot), RR C M → va_P D cls_ (sysO x v ca oq C G ++ mW h ad ca co M) H → va_D A (sysO x v ca oq C G ++ mW h ad ca co M) → va_S A s.heap H locs → lv_has ls 7 [(4, .int (nI i)), (3, .ref oq), (2, .ref h), (1, .ref x), (0, .ref b)] → W p l e room_1 s m #[Value.ref b] below meth c H locs (cells + 1) (slots + 6) Q (F0 m 1102 ls [])) : W p l e room_1 s m #[Value.ref b] below meth c H locs cells slots Q (F0 m 575 ls []) := by
  have hx := fx.1
  have hb := fx.2.1
  have hts := fx.2.2.2.2
  have ht : ∀ w ∈ tb_, w.before #[Value.ref b] s = true := fun w h => hts w (List.mem_cons_of_mem _ h)
  refine lv_aload_n hx hb dLw_law_575 rfl (lv_at hl 3 rfl) ?_
  refine lv_aload_n hx hb dLw_law_576 rfl (lv_at hl 4 rfl) ?_
  refine lv_iload hx hb dLw_law_577 (lv_at hl 0 rfl) ?_
  refine lv_iconst (v := nI 1) hx hb dLw_law_579 (by decide) ?_
  refine k_iadd hx hb dLw_law_580 ?_
  refine va_sld hx hb hX hbl hbA hS (vp_in_nI (by omega) (by omega)) dLw_law_581 ?_
  refine lv_aload_n hx hb dLw_law_582 rfl (lv_at hl 4 rfl) ?_
  refine lv_iload hx hb dLw_law_583 (lv_at hl 0 rfl) ?_
  refine lv_iconst (v := nI 2) hx hb dLw_law_585 (by decide) ?_
  refine k_iadd hx hb dLw_law_586 ?_
  refine va_sld hx hb hX hbl hbA hS (vp_in_nI (by omega) (by omega)) dLw_law_587 ?_
  obtain ⟨κ, β, C1, G1, M1, hκ, hw, hm, hR1, hv⟩ := o_reset l hlT D ca x oq h v ad co C G M hR (xs (nI (i + 1)).toNatClampNeg) (xs (nI (i + 2)).toNatClampNeg)
  refine kI (r := fun _ => nI κ) (rW fx hw (csw_of 3 hts tw_498 tw_0 tw_496 tw_497 (by decide +kernel) ⟨(Nat.le_of_ble_eq_true rfl), (Nat.le_of_ble_eq_true rfl)⟩) hE hZ hP hD hS hA [0, 1, 2, 3, 4, 5, 6, 7, 8, 9, 10, 11, 12, 13, 14, 15, 16, 17, 18, 19, 20, 21, 22, 23, 24, 25, 26, 27, 28, 29, 30, 31, 32] rfl rfl rfl hl.1 rfl (Nat.le_of_ble_eq_true rfl) dLw_law_588 hf) hP hD hS hA [0, 1, 2, 3, 4, 5, 6, 7, 8, 9, 10, 11, 12, 13, 14, 15, 16, 17, 18, 19, 20, 21, 22, 23, 24, 25, 26, 27, 28, 29, 30, 31, 32] [33, 34, 35, 36, 37, 38, 39, 40, 41, 42, 43, 44, 45, 46, 47, 48, 49, 50, 51, 52, 53, 54, 55, 56, 57, 58, 59, 60, 61] rfl rfl rfl (by decide) (fun _ H locs _ hP hD hS => ?_)
  have hP : va_P D cls_ (mW h ad ca co M ++ sysO x v ca oq C1 G1) H := hP
  have hD : va_D A (mW h ad ca co M ++ sysO x v ca oq C1 G1) := hD
  refine lv_istore hx hb dLw_law_591 hl (by decide) rfl (fun ls hl => ?_)
  have hl : lv_has ls 7 [(5, .int (nI κ)), (4, .int (nI i)), (3, .ref oq), (2, .ref h), (1, .ref x), (0, .ref b)] := hl
  refine lv_aload_n hx hb dLw_law_593 rfl (lv_at hl 3 rfl) ?_
  refine lv_aload_n hx hb dLw_law_594 rfl (lv_at hl 5 rfl) ?_
  refine lv_iload hx hb dLw_law_595 (lv_at hl 1 rfl) ?_
  refine lv_iconst (v := nI 1) hx hb dLw_law_597 (by decide) ?_
  refine k_iadd hx hb dLw_law_598 ?_
  refine va_sld hx hb hX hbl hbA hS (vp_in_nI (by omega) (by omega)) dLw_law_599 ?_
  refine lv_aload_n hx hb dLw_law_600 rfl (lv_at hl 5 rfl) ?_
  refine lv_iload hx hb dLw_law_601 (lv_at hl 1 rfl) ?_
  refine lv_iconst (v := nI 2) hx hb dLw_law_603 (by decide) ?_
  refine k_iadd hx hb dLw_law_604 ?_
  refine va_sld hx hb hX hbl hbA hS (vp_in_nI (by omega) (by omega)) dLw_law_605 ?_
  refine kV (rV fx hm ⟨callB_of 2 hts (tb_gi tw_799) rfl rfl rfl (ht _ tw_5) (ht _ tw_796) (by decide +kernel) ⟨(Nat.le_of_ble_eq_true rfl), (Nat.le_of_ble_eq_true rfl)⟩, ht _ tw_797, ht _ tw_798⟩ hE hP hD 0 rfl rfl rfl [0, 1, 2, 3, 4, 5, 6, 7, 8, 9, 10, 11, 12, 13, 14, 15, 16, 17, 18, 19, 20, 21, 22, 23, 24, 25, 26, 27, 28] rfl rfl rfl hl.1 rfl (Nat.le_of_ble_eq_true rfl) dLw_law_606 hf) hP hD hS hA [0, 1, 2, 3, 4, 5, 6, 7, 8, 9, 10, 11, 12, 13, 14, 15, 16, 17, 18, 19, 20, 21, 22, 23, 24, 25, 26, 27, 28] [29, 30, 31, 32, 33, 34, 35, 36, 37, 38, 39, 40, 41, 42, 43, 44, 45, 46, 47, 48, 49, 50, 51, 52, 53, 54, 55, 56, 57, 58, 59, 60, 61] rfl rfl rfl (by decide) (fun _ H locs _ hP hD hS => ?_)
  have hP : va_P D cls_ (sysO x v ca oq C1 G1 ++ mW h ad ca κ M1) H := hP
  have hD : va_D A (sysO x v ca oq C1 G1 ++ mW h ad ca κ M1) := hD
  refine lv_aload_n hx hb dLw_law_609 rfl (lv_at hl 3 rfl) ?_
  refine kI (r := fun _ => nI κ) (rV fx (c_Mo_thrown l D ca h ad κ M1) ⟨callB_of 0 hts (tb_gi tw_679) rfl rfl rfl (ht _ tw_5) (ht _ tw_676) (by decide +kernel) ⟨(Nat.le_of_ble_eq_true rfl), (Nat.le_of_ble_eq_true rfl)⟩, ht _ tw_677, ht _ tw_678⟩ hE hP hD 33 rfl rfl rfl [33, 34, 35, 36, 37, 38, 39, 40, 41, 42, 43, 44, 45, 46, 47, 48, 49, 50, 51, 52, 53, 54, 55, 56, 57, 58, 59, 60, 61] rfl rfl rfl hl.1 rfl (Nat.le_of_ble_eq_true rfl) dLw_law_610 hf) hP hD hS hA [33, 34, 35, 36, 37, 38, 39, 40, 41, 42, 43, 44, 45, 46, 47, 48, 49, 50, 51, 52, 53, 54, 55, 56, 57, 58, 59, 60, 61] [0, 1, 2, 3, 4, 5, 6, 7, 8, 9, 10, 11, 12, 13, 14, 15, 16, 17, 18, 19, 20, 21, 22, 23, 24, 25, 26, 27, 28, 29, 30, 31, 32] rfl rfl rfl (by decide) (fun _ H locs _ hP hD hS => ?_)
  have hP : va_P D cls_ (sysO x v ca oq C1 G1 ++ mW h ad ca κ M1) H := hP
  have hD : va_D A (sysO x v ca oq C1 G1 ++ mW h ad ca κ M1) := hD
  refine lv_iload hx hb dLw_law_613 (lv_at hl 0 rfl) ?_
  refine k_icmp_eq hx hb (a := κ) (b := κ) (by omega) (by omega) (tgt := 620) dLw_law_615 rfl (fun _ => ?_) (fun z => absurd rfl z)
  refine lv_goto (tgt := 1102) hx hb dLw_law_620 rfl ?_
  exact kk _ _ _ _ _ _ _ hR1 hP hD hS (lv_sub hl [1, 2, 3, 4, 5] rfl)
set_option maxHeartbeats 4000000 in
set_option maxRecDepth 100000 in
theorem a_send {p : Program} {l : Launch} {e : Env} {s : State} {m : MethodId} {below : List Frame} {meth : Method} {c : Code} {b L : Nat} {xs : Nat → Int32} {D : va_G} {ca : Nat → ClassId} {A : Nat → Prop} {Q : State → Prop} {H : Heap} {locs : List Loc} {cells slots : Nat} {ls : Array Slot} {x oq h : Nat} {v ad : Nat → Nat} {co : Nat} {C : CS_} {G : Nat → Int64} {M : Nat → Nat → Nat} {i : Nat} (hlT : l.stackTraces = false) (fx : CallFix p m c code 7 s #[Value.ref b] (Cond.initialized "ChannelledLinkLaw" :: tb_) RLw) (hX : va_X b L xs s s.heap) (hbl : b < s.heap.size) (hbA : ¬ A b) (hL : L ≤ 3072) (hE : Ev D ca s) (hZ : Zx A s s.heap) (hA : ∀ q : Nat, s.heap.size ≤ q → A q) (hi : i + 6 ≤ L) (hf : cells + 1 ≤ room_1.cells ∧ slots + 6 ≤ room_1.slots) (hR : RR C M) (hP : va_P D cls_ (sysO x v ca oq C G ++ mW h ad ca co M) H) (hD : va_D A (sysO x v ca oq C G ++ mW h ad ca co M)) (hS : va_S A s.heap H locs) (hl : lv_has ls 7 [(4, .int (nI i)), (3, .ref oq), (2, .ref h), (1, .ref x), (0, .ref b)])
    (kk : ∀ (C : CS_) (G : Nat → Int64) (M : Nat → Nat → Nat) (co : Nat) (H : Heap) (locs : List Loc) (ls : Array Slot), RR C M → va_P D cls_ (sysO x v ca oq C G ++ mW h ad ca co M) H → va_D A (sysO x v ca oq C G ++ mW h ad ca co M) → va_S A s.heap H locs → lv_has ls 7 [(4, .int (nI i)), (3, .ref oq), (2, .ref h), (1, .ref x), (0, .ref b)] → W p l e room_1 s m #[Value.ref b] below meth c H locs (cells + 1) (slots + 6) Q (F0 m 1102 ls [])) : W p l e room_1 s m #[Value.ref b] below meth c H locs cells slots Q (F0 m 623 ls []) := by
  have hx := fx.1
  have hb := fx.2.1
  have hts := fx.2.2.2.2
  have ht : ∀ w ∈ tb_, w.before #[Value.ref b] s = true := fun w h => hts w (List.mem_cons_of_mem _ h)
  by_cases hq : xs (nI (i + 4)).toNatClampNeg = 0
  · refine lv_aload_n hx hb dLw_law_623 rfl (lv_at hl 3 rfl) ?_
    refine lv_aload_n hx hb dLw_law_624 rfl (lv_at hl 4 rfl) ?_
    refine lv_iload hx hb dLw_law_625 (lv_at hl 0 rfl) ?_
    refine lv_iconst (v := nI 1) hx hb dLw_law_627 (by decide) ?_
    refine k_iadd hx hb dLw_law_628 ?_
    refine va_sld hx hb hX hbl hbA hS (vp_in_nI (by omega) (by omega)) dLw_law_629 ?_
    refine lv_aload_n hx hb dLw_law_630 rfl (lv_at hl 4 rfl) ?_
    refine lv_iload hx hb dLw_law_631 (lv_at hl 0 rfl) ?_
    refine lv_iconst (v := nI 2) hx hb dLw_law_633 (by decide) ?_
    refine k_iadd hx hb dLw_law_634 ?_
    refine va_sld hx hb hX hbl hbA hS (vp_in_nI (by omega) (by omega)) dLw_law_635 ?_
    refine lv_aload_n hx hb dLw_law_636 rfl (lv_at hl 4 rfl) ?_
    refine lv_iload hx hb dLw_law_637 (lv_at hl 0 rfl) ?_
    refine lv_iconst (v := nI 3) hx hb dLw_law_639 (by decide) ?_
    refine k_iadd hx hb dLw_law_640 ?_
    refine va_sld hx hb hX hbl hbA hS (vp_in_nI (by omega) (by omega)) dLw_law_641 ?_
    refine lv_aload_n hx hb dLw_law_642 rfl (lv_at hl 4 rfl) ?_
    refine lv_iload hx hb dLw_law_643 (lv_at hl 0 rfl) ?_
    refine lv_iconst (v := nI 4) hx hb dLw_law_645 (by decide) ?_
    refine k_iadd hx hb dLw_law_646 ?_
    refine va_sld hx hb hX hbl hbA hS (vp_in_nI (by omega) (by omega)) dLw_law_647 ?_
    refine lv_if_eq hx hb (tgt := 655) dLw_law_648 rfl (fun _ => ?_) (fun z => absurd hq z)
    refine lv_iconst (v := nI 0) hx hb dLw_law_655 (by decide) ?_
    refine lv_aload_n hx hb dLw_law_656 rfl (lv_at hl 1 rfl) ?_
    obtain ⟨κ, β, C1, G1, M1, hκ, hw, hm, hR1, hv⟩ := o_send l hlT D ca x oq h v ad co C G M hR (xs (nI (i + 1)).toNatClampNeg) (xs (nI (i + 2)).toNatClampNeg) (xs (nI (i + 3)).toNatClampNeg) 0 (by decide)
    refine kI (r := fun _ => nI κ) (rW fx hw (csw_of 6 hts tw_505 tw_0 tw_503 tw_504 (by decide +kernel) ⟨(Nat.le_of_ble_eq_true rfl), (Nat.le_of_ble_eq_true rfl)⟩) hE hZ hP hD hS hA [0, 1, 2, 3, 4, 5, 6, 7, 8, 9, 10, 11, 12, 13, 14, 15, 16, 17, 18, 19, 20, 21, 22, 23, 24, 25, 26, 27, 28, 29, 30, 31, 32] rfl rfl rfl hl.1 rfl (Nat.le_of_ble_eq_true rfl) dLw_law_657 hf) hP hD hS hA [0, 1, 2, 3, 4, 5, 6, 7, 8, 9, 10, 11, 12, 13, 14, 15, 16, 17, 18, 19, 20, 21, 22, 23, 24, 25, 26, 27, 28, 29, 30, 31, 32] [33, 34, 35, 36, 37, 38, 39, 40, 41, 42, 43, 44, 45, 46, 47, 48, 49, 50, 51, 52, 53, 54, 55, 56, 57, 58, 59, 60, 61] rfl rfl rfl (by decide) (fun _ H locs _ hP hD hS => ?_)
    have hP : va_P D cls_ (mW h ad ca co M ++ sysO x v ca oq C1 G1) H := hP
    have hD : va_D A (mW h ad ca co M ++ sysO x v ca oq C1 G1) := hD
    refine lv_istore hx hb dLw_law_660 hl (by decide) rfl (fun ls hl => ?_)
    have hl : lv_has ls 7 [(5, .int (nI κ)), (4, .int (nI i)), (3, .ref oq), (2, .ref h), (1, .ref x), (0, .ref b)] := hl
    refine lv_aload_n hx hb dLw_law_662 rfl (lv_at hl 3 rfl) ?_
    refine lv_aload_n hx hb dLw_law_663 rfl (lv_at hl 5 rfl) ?_
    refine lv_iload hx hb dLw_law_664 (lv_at hl 1 rfl) ?_
    refine lv_iconst (v := nI 1) hx hb dLw_law_666 (by decide) ?_
    refine k_iadd hx hb dLw_law_667 ?_
    refine va_sld hx hb hX hbl hbA hS (vp_in_nI (by omega) (by omega)) dLw_law_668 ?_
    refine lv_aload_n hx hb dLw_law_669 rfl (lv_at hl 5 rfl) ?_
    refine lv_iload hx hb dLw_law_670 (lv_at hl 1 rfl) ?_
    refine lv_iconst (v := nI 2) hx hb dLw_law_672 (by decide) ?_
    refine k_iadd hx hb dLw_law_673 ?_
    refine va_sld hx hb hX hbl hbA hS (vp_in_nI (by omega) (by omega)) dLw_law_674 ?_
    refine lv_aload_n hx hb dLw_law_675 rfl (lv_at hl 5 rfl) ?_
    refine lv_iload hx hb dLw_law_676 (lv_at hl 1 rfl) ?_
    refine lv_iconst (v := nI 3) hx hb dLw_law_678 (by decide) ?_
    refine k_iadd hx hb dLw_law_679 ?_
    refine va_sld hx hb hX hbl hbA hS (vp_in_nI (by omega) (by omega)) dLw_law_680 ?_
    refine lv_aload_n hx hb dLw_law_681 rfl (lv_at hl 5 rfl) ?_
    refine lv_iload hx hb dLw_law_682 (lv_at hl 1 rfl) ?_
    refine lv_iconst (v := nI 4) hx hb dLw_law_684 (by decide) ?_
    refine k_iadd hx hb dLw_law_685 ?_
    refine va_sld hx hb hX hbl hbA hS (vp_in_nI (by omega) (by omega)) dLw_law_686 ?_
    refine lv_if_eq hx hb (tgt := 694) dLw_law_687 rfl (fun _ => ?_) (fun z => absurd hq z)
    refine lv_iconst (v := nI 0) hx hb dLw_law_694 (by decide) ?_
    refine kI (r := fun _ => β) (rV fx hm ⟨callB_of 4 hts (tb_gi tw_803) rfl rfl rfl (ht _ tw_5) (ht _ tw_800) (by decide +kernel) ⟨(Nat.le_of_ble_eq_true rfl), (Nat.le_of_ble_eq_true rfl)⟩, ht _ tw_801, ht _ tw_802⟩ hE hP hD 0 rfl rfl rfl [0, 1, 2, 3, 4, 5, 6, 7, 8, 9, 10, 11, 12, 13, 14, 15, 16, 17, 18, 19, 20, 21, 22, 23, 24, 25, 26, 27, 28] rfl rfl rfl hl.1 rfl (Nat.le_of_ble_eq_true rfl) dLw_law_695 hf) hP hD hS hA [0, 1, 2, 3, 4, 5, 6, 7, 8, 9, 10, 11, 12, 13, 14, 15, 16, 17, 18, 19, 20, 21, 22, 23, 24, 25, 26, 27, 28] [29, 30, 31, 32, 33, 34, 35, 36, 37, 38, 39, 40, 41, 42, 43, 44, 45, 46, 47, 48, 49, 50, 51, 52, 53, 54, 55, 56, 57, 58, 59, 60, 61] rfl rfl rfl (by decide) (fun _ H locs _ hP hD hS => ?_)
    have hP : va_P D cls_ (sysO x v ca oq C1 G1 ++ mW h ad ca κ M1) H := hP
    have hD : va_D A (sysO x v ca oq C1 G1 ++ mW h ad ca κ M1) := hD
    refine lv_istore hx hb dLw_law_698 hl (by decide) rfl (fun ls hl => ?_)
    have hl : lv_has ls 7 [(6, .int β), (5, .int (nI κ)), (4, .int (nI i)), (3, .ref oq), (2, .ref h), (1, .ref x), (0, .ref b)] := hl
    refine lv_aload_n hx hb dLw_law_700 rfl (lv_at hl 4 rfl) ?_
    refine kI (r := fun _ => nI κ) (rV fx (c_Mo_thrown l D ca h ad κ M1) ⟨callB_of 0 hts (tb_gi tw_679) rfl rfl rfl (ht _ tw_5) (ht _ tw_676) (by decide +kernel) ⟨(Nat.le_of_ble_eq_true rfl), (Nat.le_of_ble_eq_true rfl)⟩, ht _ tw_677, ht _ tw_678⟩ hE hP hD 33 rfl rfl rfl [33, 34, 35, 36, 37, 38, 39, 40, 41, 42, 43, 44, 45, 46, 47, 48, 49, 50, 51, 52, 53, 54, 55, 56, 57, 58, 59, 60, 61] rfl rfl rfl hl.1 rfl (Nat.le_of_ble_eq_true rfl) dLw_law_701 hf) hP hD hS hA [33, 34, 35, 36, 37, 38, 39, 40, 41, 42, 43, 44, 45, 46, 47, 48, 49, 50, 51, 52, 53, 54, 55, 56, 57, 58, 59, 60, 61] [0, 1, 2, 3, 4, 5, 6, 7, 8, 9, 10, 11, 12, 13, 14, 15, 16, 17, 18, 19, 20, 21, 22, 23, 24, 25, 26, 27, 28, 29, 30, 31, 32] rfl rfl rfl (by decide) (fun _ H locs _ hP hD hS => ?_)
    have hP : va_P D cls_ (sysO x v ca oq C1 G1 ++ mW h ad ca κ M1) H := hP
    have hD : va_D A (sysO x v ca oq C1 G1 ++ mW h ad ca κ M1) := hD
    refine lv_iload hx hb dLw_law_704 (lv_at hl 1 rfl) ?_
    refine k_icmp_eq hx hb (a := κ) (b := κ) (by omega) (by omega) (tgt := 711) dLw_law_706 rfl (fun _ => ?_) (fun z => absurd rfl z)
    refine lv_iload hx hb dLw_law_711 (lv_at hl 1 rfl) ?_
    refine k_if_ne hx hb (a := κ) (by omega) (tgt := 735) dLw_law_713 rfl (fun _ => ?_) (fun hz => ?_)
    · refine lv_goto (tgt := 1102) hx hb dLw_law_735 rfl ?_
      exact kk _ _ _ _ _ _ _ hR1 hP hD hS (lv_sub hl [2, 3, 4, 5, 6] rfl)
    refine lv_aload_n hx hb dLw_law_716 rfl (lv_at hl 3 rfl) ?_
    refine lv_iconst (v := nI 0) hx hb dLw_law_717 (by decide) ?_
    refine va_lald hx hb hE.1 hP 32 4 rfl rfl (vp_in_nI (n := 0) (N := 1) (by decide) (by decide)) dLw_law_718 ?_
    refine lv_iload hx hb dLw_law_719 (lv_at hl 0 rfl) ?_
    obtain ⟨hβ, hg⟩ := hv hz
    rcases hβ with hβ | hβ
    · refine k_is hβ ?_
      refine k_if_eq hx hb (a := 0) (by decide) (tgt := 728) dLw_law_721 rfl (fun _ => ?_) (fun z => absurd rfl z)
      refine lv_lconst (v := 0) hx hb dLw_law_728 (by decide) ?_
      refine W.lcmp hx hb dLw_law_729 ?_
      refine k_is (y := nI 0) (by rw [show G1 (nI 0).toNatClampNeg = 0 from (hg.trans (by rw [hβ]; decide))]; exact cmp_self _) ?_
      refine k_if_eq hx hb (a := 0) (by decide) (tgt := 735) dLw_law_730 rfl (fun _ => ?_) (fun z => absurd rfl z)
      refine lv_goto (tgt := 1102) hx hb dLw_law_735 rfl ?_
      exact kk _ _ _ _ _ _ _ hR1 hP hD hS (lv_sub hl [2, 3, 4, 5, 6] rfl)
    · refine k_is hβ ?_
      refine k_if_eq hx hb (a := 1) (by decide) (tgt := 728) dLw_law_721 rfl (fun z => absurd z (by decide)) (fun _ => ?_)
      refine lv_lconst (v := 1) hx hb dLw_law_724 (by decide) ?_
      refine lv_goto (tgt := 729) hx hb dLw_law_725 rfl ?_
      refine W.lcmp hx hb dLw_law_729 ?_
      refine k_is (y := nI 0) (by rw [show G1 (nI 0).toNatClampNeg = 1 from (hg.trans (by rw [hβ]; decide))]; exact cmp_self _) ?_
      refine k_if_eq hx hb (a := 0) (by decide) (tgt := 735) dLw_law_730 rfl (fun _ => ?_) (fun z => absurd rfl z)
      refine lv_goto (tgt := 1102) hx hb dLw_law_735 rfl ?_
      exact kk _ _ _ _ _ _ _ hR1 hP hD hS (lv_sub hl [2, 3, 4, 5, 6] rfl)
  · refine lv_aload_n hx hb dLw_law_623 rfl (lv_at hl 3 rfl) ?_
    refine lv_aload_n hx hb dLw_law_624 rfl (lv_at hl 4 rfl) ?_
    refine lv_iload hx hb dLw_law_625 (lv_at hl 0 rfl) ?_
    refine lv_iconst (v := nI 1) hx hb dLw_law_627 (by decide) ?_
    refine k_iadd hx hb dLw_law_628 ?_
    refine va_sld hx hb hX hbl hbA hS (vp_in_nI (by omega) (by omega)) dLw_law_629 ?_
    refine lv_aload_n hx hb dLw_law_630 rfl (lv_at hl 4 rfl) ?_
    refine lv_iload hx hb dLw_law_631 (lv_at hl 0 rfl) ?_
    refine lv_iconst (v := nI 2) hx hb dLw_law_633 (by decide) ?_
    refine k_iadd hx hb dLw_law_634 ?_
    refine va_sld hx hb hX hbl hbA hS (vp_in_nI (by omega) (by omega)) dLw_law_635 ?_
    refine lv_aload_n hx hb dLw_law_636 rfl (lv_at hl 4 rfl) ?_
    refine lv_iload hx hb dLw_law_637 (lv_at hl 0 rfl) ?_
    refine lv_iconst (v := nI 3) hx hb dLw_law_639 (by decide) ?_
    refine k_iadd hx hb dLw_law_640 ?_
    refine va_sld hx hb hX hbl hbA hS (vp_in_nI (by omega) (by omega)) dLw_law_641 ?_
    refine lv_aload_n hx hb dLw_law_642 rfl (lv_at hl 4 rfl) ?_
    refine lv_iload hx hb dLw_law_643 (lv_at hl 0 rfl) ?_
    refine lv_iconst (v := nI 4) hx hb dLw_law_645 (by decide) ?_
    refine k_iadd hx hb dLw_law_646 ?_
    refine va_sld hx hb hX hbl hbA hS (vp_in_nI (by omega) (by omega)) dLw_law_647 ?_
    refine lv_if_eq hx hb (tgt := 655) dLw_law_648 rfl (fun z => absurd z hq) (fun _ => ?_)
    refine lv_iconst (v := nI 1) hx hb dLw_law_651 (by decide) ?_
    refine lv_goto (tgt := 656) hx hb dLw_law_652 rfl ?_
    refine lv_aload_n hx hb dLw_law_656 rfl (lv_at hl 1 rfl) ?_
    obtain ⟨κ, β, C1, G1, M1, hκ, hw, hm, hR1, hv⟩ := o_send l hlT D ca x oq h v ad co C G M hR (xs (nI (i + 1)).toNatClampNeg) (xs (nI (i + 2)).toNatClampNeg) (xs (nI (i + 3)).toNatClampNeg) 1 (by decide)
    refine kI (r := fun _ => nI κ) (rW fx hw (csw_of 6 hts tw_505 tw_0 tw_503 tw_504 (by decide +kernel) ⟨(Nat.le_of_ble_eq_true rfl), (Nat.le_of_ble_eq_true rfl)⟩) hE hZ hP hD hS hA [0, 1, 2, 3, 4, 5, 6, 7, 8, 9, 10, 11, 12, 13, 14, 15, 16, 17, 18, 19, 20, 21, 22, 23, 24, 25, 26, 27, 28, 29, 30, 31, 32] rfl rfl rfl hl.1 rfl (Nat.le_of_ble_eq_true rfl) dLw_law_657 hf) hP hD hS hA [0, 1, 2, 3, 4, 5, 6, 7, 8, 9, 10, 11, 12, 13, 14, 15, 16, 17, 18, 19, 20, 21, 22, 23, 24, 25, 26, 27, 28, 29, 30, 31, 32] [33, 34, 35, 36, 37, 38, 39, 40, 41, 42, 43, 44, 45, 46, 47, 48, 49, 50, 51, 52, 53, 54, 55, 56, 57, 58, 59, 60, 61] rfl rfl rfl (by decide) (fun _ H locs _ hP hD hS => ?_)
    have hP : va_P D cls_ (mW h ad ca co M ++ sysO x v ca oq C1 G1) H := hP
    have hD : va_D A (mW h ad ca co M ++ sysO x v ca oq C1 G1) := hD
    refine lv_istore hx hb dLw_law_660 hl (by decide) rfl (fun ls hl => ?_)
    have hl : lv_has ls 7 [(5, .int (nI κ)), (4, .int (nI i)), (3, .ref oq), (2, .ref h), (1, .ref x), (0, .ref b)] := hl
    refine lv_aload_n hx hb dLw_law_662 rfl (lv_at hl 3 rfl) ?_
    refine lv_aload_n hx hb dLw_law_663 rfl (lv_at hl 5 rfl) ?_
    refine lv_iload hx hb dLw_law_664 (lv_at hl 1 rfl) ?_
    refine lv_iconst (v := nI 1) hx hb dLw_law_666 (by decide) ?_
    refine k_iadd hx hb dLw_law_667 ?_
    refine va_sld hx hb hX hbl hbA hS (vp_in_nI (by omega) (by omega)) dLw_law_668 ?_
    refine lv_aload_n hx hb dLw_law_669 rfl (lv_at hl 5 rfl) ?_
    refine lv_iload hx hb dLw_law_670 (lv_at hl 1 rfl) ?_
    refine lv_iconst (v := nI 2) hx hb dLw_law_672 (by decide) ?_
    refine k_iadd hx hb dLw_law_673 ?_
    refine va_sld hx hb hX hbl hbA hS (vp_in_nI (by omega) (by omega)) dLw_law_674 ?_
    refine lv_aload_n hx hb dLw_law_675 rfl (lv_at hl 5 rfl) ?_
    refine lv_iload hx hb dLw_law_676 (lv_at hl 1 rfl) ?_
    refine lv_iconst (v := nI 3) hx hb dLw_law_678 (by decide) ?_
    refine k_iadd hx hb dLw_law_679 ?_
    refine va_sld hx hb hX hbl hbA hS (vp_in_nI (by omega) (by omega)) dLw_law_680 ?_
    refine lv_aload_n hx hb dLw_law_681 rfl (lv_at hl 5 rfl) ?_
    refine lv_iload hx hb dLw_law_682 (lv_at hl 1 rfl) ?_
    refine lv_iconst (v := nI 4) hx hb dLw_law_684 (by decide) ?_
    refine k_iadd hx hb dLw_law_685 ?_
    refine va_sld hx hb hX hbl hbA hS (vp_in_nI (by omega) (by omega)) dLw_law_686 ?_
    refine lv_if_eq hx hb (tgt := 694) dLw_law_687 rfl (fun z => absurd z hq) (fun _ => ?_)
    refine lv_iconst (v := nI 1) hx hb dLw_law_690 (by decide) ?_
    refine lv_goto (tgt := 695) hx hb dLw_law_691 rfl ?_
    refine kI (r := fun _ => β) (rV fx hm ⟨callB_of 4 hts (tb_gi tw_803) rfl rfl rfl (ht _ tw_5) (ht _ tw_800) (by decide +kernel) ⟨(Nat.le_of_ble_eq_true rfl), (Nat.le_of_ble_eq_true rfl)⟩, ht _ tw_801, ht _ tw_802⟩ hE hP hD 0 rfl rfl rfl [0, 1, 2, 3, 4, 5, 6, 7, 8, 9, 10, 11, 12, 13, 14, 15, 16, 17, 18, 19, 20, 21, 22, 23, 24, 25, 26, 27, 28] rfl rfl rfl hl.1 rfl (Nat.le_of_ble_eq_true rfl) dLw_law_695 hf) hP hD hS hA [0, 1, 2, 3, 4, 5, 6, 7, 8, 9, 10, 11, 12, 13, 14, 15, 16, 17, 18, 19, 20, 21, 22, 23, 24, 25, 26, 27, 28] [29, 30, 31, 32, 33, 34, 35, 36, 37, 38, 39, 40, 41, 42, 43, 44, 45, 46, 47, 48, 49, 50, 51, 52, 53, 54, 55, 56, 57, 58, 59, 60, 61] rfl rfl rfl (by decide) (fun _ H locs _ hP hD hS => ?_)
    have hP : va_P D cls_ (sysO x v ca oq C1 G1 ++ mW h ad ca κ M1) H := hP
    have hD : va_D A (sysO x v ca oq C1 G1 ++ mW h ad ca κ M1) := hD
    refine lv_istore hx hb dLw_law_698 hl (by decide) rfl (fun ls hl => ?_)
    have hl : lv_has ls 7 [(6, .int β), (5, .int (nI κ)), (4, .int (nI i)), (3, .ref oq), (2, .ref h), (1, .ref x), (0, .ref b)] := hl
    refine lv_aload_n hx hb dLw_law_700 rfl (lv_at hl 4 rfl) ?_
    refine kI (r := fun _ => nI κ) (rV fx (c_Mo_thrown l D ca h ad κ M1) ⟨callB_of 0 hts (tb_gi tw_679) rfl rfl rfl (ht _ tw_5) (ht _ tw_676) (by decide +kernel) ⟨(Nat.le_of_ble_eq_true rfl), (Nat.le_of_ble_eq_true rfl)⟩, ht _ tw_677, ht _ tw_678⟩ hE hP hD 33 rfl rfl rfl [33, 34, 35, 36, 37, 38, 39, 40, 41, 42, 43, 44, 45, 46, 47, 48, 49, 50, 51, 52, 53, 54, 55, 56, 57, 58, 59, 60, 61] rfl rfl rfl hl.1 rfl (Nat.le_of_ble_eq_true rfl) dLw_law_701 hf) hP hD hS hA [33, 34, 35, 36, 37, 38, 39, 40, 41, 42, 43, 44, 45, 46, 47, 48, 49, 50, 51, 52, 53, 54, 55, 56, 57, 58, 59, 60, 61] [0, 1, 2, 3, 4, 5, 6, 7, 8, 9, 10, 11, 12, 13, 14, 15, 16, 17, 18, 19, 20, 21, 22, 23, 24, 25, 26, 27, 28, 29, 30, 31, 32] rfl rfl rfl (by decide) (fun _ H locs _ hP hD hS => ?_)
    have hP : va_P D cls_ (sysO x v ca oq C1 G1 ++ mW h ad ca κ M1) H := hP
    have hD : va_D A (sysO x v ca oq C1 G1 ++ mW h ad ca κ M1) := hD
    refine lv_iload hx hb dLw_law_704 (lv_at hl 1 rfl) ?_
    refine k_icmp_eq hx hb (a := κ) (b := κ) (by omega) (by omega) (tgt := 711) dLw_law_706 rfl (fun _ => ?_) (fun z => absurd rfl z)
    refine lv_iload hx hb dLw_law_711 (lv_at hl 1 rfl) ?_
    refine k_if_ne hx hb (a := κ) (by omega) (tgt := 735) dLw_law_713 rfl (fun _ => ?_) (fun hz => ?_)
    · refine lv_goto (tgt := 1102) hx hb dLw_law_735 rfl ?_
      exact kk _ _ _ _ _ _ _ hR1 hP hD hS (lv_sub hl [2, 3, 4, 5, 6] rfl)
    refine lv_aload_n hx hb dLw_law_716 rfl (lv_at hl 3 rfl) ?_
    refine lv_iconst (v := nI 0) hx hb dLw_law_717 (by decide) ?_
    refine va_lald hx hb hE.1 hP 32 4 rfl rfl (vp_in_nI (n := 0) (N := 1) (by decide) (by decide)) dLw_law_718 ?_
    refine lv_iload hx hb dLw_law_719 (lv_at hl 0 rfl) ?_
    obtain ⟨hβ, hg⟩ := hv hz
    rcases hβ with hβ | hβ
    · refine k_is hβ ?_
      refine k_if_eq hx hb (a := 0) (by decide) (tgt := 728) dLw_law_721 rfl (fun _ => ?_) (fun z => absurd rfl z)
      refine lv_lconst (v := 0) hx hb dLw_law_728 (by decide) ?_
      refine W.lcmp hx hb dLw_law_729 ?_
      refine k_is (y := nI 0) (by rw [show G1 (nI 0).toNatClampNeg = 0 from (hg.trans (by rw [hβ]; decide))]; exact cmp_self _) ?_
      refine k_if_eq hx hb (a := 0) (by decide) (tgt := 735) dLw_law_730 rfl (fun _ => ?_) (fun z => absurd rfl z)
      refine lv_goto (tgt := 1102) hx hb dLw_law_735 rfl ?_
      exact kk _ _ _ _ _ _ _ hR1 hP hD hS (lv_sub hl [2, 3, 4, 5, 6] rfl)
    · refine k_is hβ ?_
      refine k_if_eq hx hb (a := 1) (by decide) (tgt := 728) dLw_law_721 rfl (fun z => absurd z (by decide)) (fun _ => ?_)
      refine lv_lconst (v := 1) hx hb dLw_law_724 (by decide) ?_
      refine lv_goto (tgt := 729) hx hb dLw_law_725 rfl ?_
      refine W.lcmp hx hb dLw_law_729 ?_
      refine k_is (y := nI 0) (by rw [show G1 (nI 0).toNatClampNeg = 1 from (hg.trans (by rw [hβ]; decide))]; exact cmp_self _) ?_
      refine k_if_eq hx hb (a := 0) (by decide) (tgt := 735) dLw_law_730 rfl (fun _ => ?_) (fun z => absurd rfl z)
      refine lv_goto (tgt := 1102) hx hb dLw_law_735 rfl ?_
      exact kk _ _ _ _ _ _ _ hR1 hP hD hS (lv_sub hl [2, 3, 4, 5, 6] rfl)
set_option maxHeartbeats 4000000 in
set_option maxRecDepth 100000 in
theorem a_receive {p : Program} {l : Launch} {e : Env} {s : State} {m : MethodId} {below : List Frame} {meth : Method} {c : Code} {b L : Nat} {xs : Nat → Int32} {D : va_G} {ca : Nat → ClassId} {A : Nat → Prop} {Q : State → Prop} {H : Heap} {locs : List Loc} {cells slots : Nat} {ls : Array Slot} {x oq h : Nat} {v ad : Nat → Nat} {co : Nat} {C : CS_} {G : Nat → Int64} {M : Nat → Nat → Nat} {i : Nat} (hlT : l.stackTraces = false) (fx : CallFix p m c code 7 s #[Value.ref b] (Cond.initialized "ChannelledLinkLaw" :: tb_) RLw) (hX : va_X b L xs s s.heap) (hbl : b < s.heap.size) (hbA : ¬ A b) (hL : L ≤ 3072) (hE : Ev D ca s) (hZ : Zx A s s.heap) (hA : ∀ q : Nat, s.heap.size ≤ q → A q) (hi : i + 6 ≤ L) (hf : cells + 1 ≤ room_1.cells ∧ slots + 6 ≤ room_1.slots) (hR : RR C M) (hP : va_P D cls_ (sysO x v ca oq C G ++ mW h ad ca co M) H) (hD : va_D A (sysO x v ca oq C G ++ mW h ad ca co M)) (hS : va_S A s.heap H locs) (hl : lv_has ls 7 [(4, .int (nI i)), (3, .ref oq), (2, .ref h), (1, .ref x), (0, .ref b)])
    (kk : ∀ (C : CS_) (G : Nat → Int64) (M : Nat → Nat → Nat) (co : Nat) (H : Heap) (locs : List Loc) (ls : Array Slot), RR C M → va_P D cls_ (sysO x v ca oq C G ++ mW h ad ca co M) H → va_D A (sysO x v ca oq C G ++ mW h ad ca co M) → va_S A s.heap H locs → lv_has ls 7 [(4, .int (nI i)), (3, .ref oq), (2, .ref h), (1, .ref x), (0, .ref b)] → W p l e room_1 s m #[Value.ref b] below meth c H locs (cells + 1) (slots + 6) Q (F0 m 1102 ls [])) : W p l e room_1 s m #[Value.ref b] below meth c H locs cells slots Q (F0 m 738 ls []) := by
  have hx := fx.1
  have hb := fx.2.1
  have hts := fx.2.2.2.2
  have ht : ∀ w ∈ tb_, w.before #[Value.ref b] s = true := fun w h => hts w (List.mem_cons_of_mem _ h)
  refine lv_aload_n hx hb dLw_law_738 rfl (lv_at hl 3 rfl) ?_
  refine lv_aload_n hx hb dLw_law_739 rfl (lv_at hl 4 rfl) ?_
  refine lv_iload hx hb dLw_law_740 (lv_at hl 0 rfl) ?_
  refine lv_iconst (v := nI 1) hx hb dLw_law_742 (by decide) ?_
  refine k_iadd hx hb dLw_law_743 ?_
  refine va_sld hx hb hX hbl hbA hS (vp_in_nI (by omega) (by omega)) dLw_law_744 ?_
  refine lv_aload_n hx hb dLw_law_745 rfl (lv_at hl 4 rfl) ?_
  refine lv_iload hx hb dLw_law_746 (lv_at hl 0 rfl) ?_
  refine lv_iconst (v := nI 2) hx hb dLw_law_748 (by decide) ?_
  refine k_iadd hx hb dLw_law_749 ?_
  refine va_sld hx hb hX hbl hbA hS (vp_in_nI (by omega) (by omega)) dLw_law_750 ?_
  refine lv_aload_n hx hb dLw_law_751 rfl (lv_at hl 1 rfl) ?_
  obtain ⟨κ, β, C1, G1, M1, hκ, hw, hm, hR1, hv⟩ := o_receive l hlT D ca x oq h v ad co C G M hR (xs (nI (i + 1)).toNatClampNeg) (xs (nI (i + 2)).toNatClampNeg)
  refine kI (r := fun _ => nI κ) (rW fx hw (csw_of 4 hts tw_534 tw_0 tw_532 tw_533 (by decide +kernel) ⟨(Nat.le_of_ble_eq_true rfl), (Nat.le_of_ble_eq_true rfl)⟩) hE hZ hP hD hS hA [0, 1, 2, 3, 4, 5, 6, 7, 8, 9, 10, 11, 12, 13, 14, 15, 16, 17, 18, 19, 20, 21, 22, 23, 24, 25, 26, 27, 28, 29, 30, 31, 32] rfl rfl rfl hl.1 rfl (Nat.le_of_ble_eq_true rfl) dLw_law_752 hf) hP hD hS hA [0, 1, 2, 3, 4, 5, 6, 7, 8, 9, 10, 11, 12, 13, 14, 15, 16, 17, 18, 19, 20, 21, 22, 23, 24, 25, 26, 27, 28, 29, 30, 31, 32] [33, 34, 35, 36, 37, 38, 39, 40, 41, 42, 43, 44, 45, 46, 47, 48, 49, 50, 51, 52, 53, 54, 55, 56, 57, 58, 59, 60, 61] rfl rfl rfl (by decide) (fun _ H locs _ hP hD hS => ?_)
  have hP : va_P D cls_ (mW h ad ca co M ++ sysO x v ca oq C1 G1) H := hP
  have hD : va_D A (mW h ad ca co M ++ sysO x v ca oq C1 G1) := hD
  refine lv_istore hx hb dLw_law_755 hl (by decide) rfl (fun ls hl => ?_)
  have hl : lv_has ls 7 [(5, .int (nI κ)), (4, .int (nI i)), (3, .ref oq), (2, .ref h), (1, .ref x), (0, .ref b)] := hl
  refine lv_aload_n hx hb dLw_law_757 rfl (lv_at hl 3 rfl) ?_
  refine lv_aload_n hx hb dLw_law_758 rfl (lv_at hl 5 rfl) ?_
  refine lv_iload hx hb dLw_law_759 (lv_at hl 1 rfl) ?_
  refine lv_iconst (v := nI 1) hx hb dLw_law_761 (by decide) ?_
  refine k_iadd hx hb dLw_law_762 ?_
  refine va_sld hx hb hX hbl hbA hS (vp_in_nI (by omega) (by omega)) dLw_law_763 ?_
  refine lv_aload_n hx hb dLw_law_764 rfl (lv_at hl 5 rfl) ?_
  refine lv_iload hx hb dLw_law_765 (lv_at hl 1 rfl) ?_
  refine lv_iconst (v := nI 2) hx hb dLw_law_767 (by decide) ?_
  refine k_iadd hx hb dLw_law_768 ?_
  refine va_sld hx hb hX hbl hbA hS (vp_in_nI (by omega) (by omega)) dLw_law_769 ?_
  refine kI (r := fun _ => β) (rV fx hm ⟨callB_of 2 hts (tb_gi tw_807) rfl rfl rfl (ht _ tw_5) (ht _ tw_804) (by decide +kernel) ⟨(Nat.le_of_ble_eq_true rfl), (Nat.le_of_ble_eq_true rfl)⟩, ht _ tw_805, ht _ tw_806⟩ hE hP hD 0 rfl rfl rfl [0, 1, 2, 3, 4, 5, 6, 7, 8, 9, 10, 11, 12, 13, 14, 15, 16, 17, 18, 19, 20, 21, 22, 23, 24, 25, 26, 27, 28] rfl rfl rfl hl.1 rfl (Nat.le_of_ble_eq_true rfl) dLw_law_770 hf) hP hD hS hA [0, 1, 2, 3, 4, 5, 6, 7, 8, 9, 10, 11, 12, 13, 14, 15, 16, 17, 18, 19, 20, 21, 22, 23, 24, 25, 26, 27, 28] [29, 30, 31, 32, 33, 34, 35, 36, 37, 38, 39, 40, 41, 42, 43, 44, 45, 46, 47, 48, 49, 50, 51, 52, 53, 54, 55, 56, 57, 58, 59, 60, 61] rfl rfl rfl (by decide) (fun _ H locs _ hP hD hS => ?_)
  have hP : va_P D cls_ (sysO x v ca oq C1 G1 ++ mW h ad ca κ M1) H := hP
  have hD : va_D A (sysO x v ca oq C1 G1 ++ mW h ad ca κ M1) := hD
  refine lv_istore hx hb dLw_law_773 hl (by decide) rfl (fun ls hl => ?_)
  have hl : lv_has ls 7 [(6, .int β), (5, .int (nI κ)), (4, .int (nI i)), (3, .ref oq), (2, .ref h), (1, .ref x), (0, .ref b)] := hl
  refine lv_aload_n hx hb dLw_law_775 rfl (lv_at hl 4 rfl) ?_
  refine kI (r := fun _ => nI κ) (rV fx (c_Mo_thrown l D ca h ad κ M1) ⟨callB_of 0 hts (tb_gi tw_679) rfl rfl rfl (ht _ tw_5) (ht _ tw_676) (by decide +kernel) ⟨(Nat.le_of_ble_eq_true rfl), (Nat.le_of_ble_eq_true rfl)⟩, ht _ tw_677, ht _ tw_678⟩ hE hP hD 33 rfl rfl rfl [33, 34, 35, 36, 37, 38, 39, 40, 41, 42, 43, 44, 45, 46, 47, 48, 49, 50, 51, 52, 53, 54, 55, 56, 57, 58, 59, 60, 61] rfl rfl rfl hl.1 rfl (Nat.le_of_ble_eq_true rfl) dLw_law_776 hf) hP hD hS hA [33, 34, 35, 36, 37, 38, 39, 40, 41, 42, 43, 44, 45, 46, 47, 48, 49, 50, 51, 52, 53, 54, 55, 56, 57, 58, 59, 60, 61] [0, 1, 2, 3, 4, 5, 6, 7, 8, 9, 10, 11, 12, 13, 14, 15, 16, 17, 18, 19, 20, 21, 22, 23, 24, 25, 26, 27, 28, 29, 30, 31, 32] rfl rfl rfl (by decide) (fun _ H locs _ hP hD hS => ?_)
  have hP : va_P D cls_ (sysO x v ca oq C1 G1 ++ mW h ad ca κ M1) H := hP
  have hD : va_D A (sysO x v ca oq C1 G1 ++ mW h ad ca κ M1) := hD
  refine lv_iload hx hb dLw_law_779 (lv_at hl 1 rfl) ?_
  refine k_icmp_eq hx hb (a := κ) (b := κ) (by omega) (by omega) (tgt := 786) dLw_law_781 rfl (fun _ => ?_) (fun z => absurd rfl z)
  refine lv_iload hx hb dLw_law_786 (lv_at hl 1 rfl) ?_
  refine k_if_ne hx hb (a := κ) (by omega) (tgt := 803) dLw_law_788 rfl (fun _ => ?_) (fun hz => ?_)
  · refine lv_goto (tgt := 1102) hx hb dLw_law_803 rfl ?_
    exact kk _ _ _ _ _ _ _ hR1 hP hD hS (lv_sub hl [2, 3, 4, 5, 6] rfl)
  refine lv_aload_n hx hb dLw_law_791 rfl (lv_at hl 3 rfl) ?_
  refine lv_iconst (v := nI 0) hx hb dLw_law_792 (by decide) ?_
  refine va_lald hx hb hE.1 hP 32 4 rfl rfl (vp_in_nI (n := 0) (N := 1) (by decide) (by decide)) dLw_law_793 ?_
  refine lv_iload hx hb dLw_law_794 (lv_at hl 0 rfl) ?_
  refine lv_i2l (v := G1 0) hx hb dLw_law_796 (hv hz).symm ?_
  refine W.lcmp hx hb dLw_law_797 ?_
  refine k_is (y := nI 0) (cmp_self _) ?_
  refine k_if_eq hx hb (a := 0) (by decide) (tgt := 803) dLw_law_798 rfl (fun _ => ?_) (fun z => absurd rfl z)
  refine lv_goto (tgt := 1102) hx hb dLw_law_803 rfl ?_
  exact kk _ _ _ _ _ _ _ hR1 hP hD hS (lv_sub hl [2, 3, 4, 5, 6] rfl)
set_option maxHeartbeats 4000000 in
set_option maxRecDepth 100000 in
theorem a_link {p : Program} {l : Launch} {e : Env} {s : State} {m : MethodId} {below : List Frame} {meth : Method} {c : Code} {b L : Nat} {xs : Nat → Int32} {D : va_G} {ca : Nat → ClassId} {A : Nat → Prop} {Q : State → Prop} {H : Heap} {locs : List Loc} {cells slots : Nat} {ls : Array Slot} {x oq h : Nat} {v ad : Nat → Nat} {co : Nat} {C : CS_} {G : Nat → Int64} {M : Nat → Nat → Nat} {i : Nat} (hlT : l.stackTraces = false) (fx : CallFix p m c code 7 s #[Value.ref b] (Cond.initialized "ChannelledLinkLaw" :: tb_) RLw) (hX : va_X b L xs s s.heap) (hbl : b < s.heap.size) (hbA : ¬ A b) (hL : L ≤ 3072) (hE : Ev D ca s) (hZ : Zx A s s.heap) (hA : ∀ q : Nat, s.heap.size ≤ q → A q) (hi : i + 6 ≤ L) (hf : cells + 1 ≤ room_1.cells ∧ slots + 6 ≤ room_1.slots) (hR : RR C M) (hP : va_P D cls_ (sysO x v ca oq C G ++ mW h ad ca co M) H) (hD : va_D A (sysO x v ca oq C G ++ mW h ad ca co M)) (hS : va_S A s.heap H locs) (hl : lv_has ls 7 [(4, .int (nI i)), (3, .ref oq), (2, .ref h), (1, .ref x), (0, .ref b)])
    (kk : ∀ (C : CS_) (G : Nat → Int64) (M : Nat → Nat → Nat) (co : Nat) (H : Heap) (locs : List Loc) (ls : Array Slot), RR C M → va_P D cls_ (sysO x v ca oq C G ++ mW h ad ca co M) H → va_D A (sysO x v ca oq C G ++ mW h ad ca co M) → va_S A s.heap H locs → lv_has ls 7 [(4, .int (nI i)), (3, .ref oq), (2, .ref h), (1, .ref x), (0, .ref b)] → W p l e room_1 s m #[Value.ref b] below meth c H locs (cells + 1) (slots + 6) Q (F0 m 1102 ls [])) : W p l e room_1 s m #[Value.ref b] below meth c H locs cells slots Q (F0 m 806 ls []) := by
  have hx := fx.1
  have hb := fx.2.1
  have hts := fx.2.2.2.2
  have ht : ∀ w ∈ tb_, w.before #[Value.ref b] s = true := fun w h => hts w (List.mem_cons_of_mem _ h)
  refine lv_aload_n hx hb dLw_law_806 rfl (lv_at hl 3 rfl) ?_
  refine lv_aload_n hx hb dLw_law_807 rfl (lv_at hl 4 rfl) ?_
  refine lv_iload hx hb dLw_law_808 (lv_at hl 0 rfl) ?_
  refine lv_iconst (v := nI 1) hx hb dLw_law_810 (by decide) ?_
  refine k_iadd hx hb dLw_law_811 ?_
  refine va_sld hx hb hX hbl hbA hS (vp_in_nI (by omega) (by omega)) dLw_law_812 ?_
  refine lv_aload_n hx hb dLw_law_813 rfl (lv_at hl 4 rfl) ?_
  refine lv_iload hx hb dLw_law_814 (lv_at hl 0 rfl) ?_
  refine lv_iconst (v := nI 2) hx hb dLw_law_816 (by decide) ?_
  refine k_iadd hx hb dLw_law_817 ?_
  refine va_sld hx hb hX hbl hbA hS (vp_in_nI (by omega) (by omega)) dLw_law_818 ?_
  refine lv_aload_n hx hb dLw_law_819 rfl (lv_at hl 1 rfl) ?_
  obtain ⟨κ, β, C1, G1, M1, hκ, hw, hm, hR1, hv⟩ := o_link l hlT D ca x oq h v ad co C G M hR (xs (nI (i + 1)).toNatClampNeg) (xs (nI (i + 2)).toNatClampNeg)
  refine kI (r := fun _ => nI κ) (rW fx hw (csw_of 4 hts tw_547 tw_0 tw_545 tw_546 (by decide +kernel) ⟨(Nat.le_of_ble_eq_true rfl), (Nat.le_of_ble_eq_true rfl)⟩) hE hZ hP hD hS hA [0, 1, 2, 3, 4, 5, 6, 7, 8, 9, 10, 11, 12, 13, 14, 15, 16, 17, 18, 19, 20, 21, 22, 23, 24, 25, 26, 27, 28, 29, 30, 31, 32] rfl rfl rfl hl.1 rfl (Nat.le_of_ble_eq_true rfl) dLw_law_820 hf) hP hD hS hA [0, 1, 2, 3, 4, 5, 6, 7, 8, 9, 10, 11, 12, 13, 14, 15, 16, 17, 18, 19, 20, 21, 22, 23, 24, 25, 26, 27, 28, 29, 30, 31, 32] [33, 34, 35, 36, 37, 38, 39, 40, 41, 42, 43, 44, 45, 46, 47, 48, 49, 50, 51, 52, 53, 54, 55, 56, 57, 58, 59, 60, 61] rfl rfl rfl (by decide) (fun _ H locs _ hP hD hS => ?_)
  have hP : va_P D cls_ (mW h ad ca co M ++ sysO x v ca oq C1 G1) H := hP
  have hD : va_D A (mW h ad ca co M ++ sysO x v ca oq C1 G1) := hD
  refine lv_istore hx hb dLw_law_823 hl (by decide) rfl (fun ls hl => ?_)
  have hl : lv_has ls 7 [(5, .int (nI κ)), (4, .int (nI i)), (3, .ref oq), (2, .ref h), (1, .ref x), (0, .ref b)] := hl
  refine lv_aload_n hx hb dLw_law_825 rfl (lv_at hl 3 rfl) ?_
  refine lv_aload_n hx hb dLw_law_826 rfl (lv_at hl 5 rfl) ?_
  refine lv_iload hx hb dLw_law_827 (lv_at hl 1 rfl) ?_
  refine lv_iconst (v := nI 1) hx hb dLw_law_829 (by decide) ?_
  refine k_iadd hx hb dLw_law_830 ?_
  refine va_sld hx hb hX hbl hbA hS (vp_in_nI (by omega) (by omega)) dLw_law_831 ?_
  refine lv_aload_n hx hb dLw_law_832 rfl (lv_at hl 5 rfl) ?_
  refine lv_iload hx hb dLw_law_833 (lv_at hl 1 rfl) ?_
  refine lv_iconst (v := nI 2) hx hb dLw_law_835 (by decide) ?_
  refine k_iadd hx hb dLw_law_836 ?_
  refine va_sld hx hb hX hbl hbA hS (vp_in_nI (by omega) (by omega)) dLw_law_837 ?_
  refine kI (r := fun _ => β) (rV fx hm ⟨callB_of 2 hts (tb_gi tw_811) rfl rfl rfl (ht _ tw_5) (ht _ tw_808) (by decide +kernel) ⟨(Nat.le_of_ble_eq_true rfl), (Nat.le_of_ble_eq_true rfl)⟩, ht _ tw_809, ht _ tw_810⟩ hE hP hD 0 rfl rfl rfl [0, 1, 2, 3, 4, 5, 6, 7, 8, 9, 10, 11, 12, 13, 14, 15, 16, 17, 18, 19, 20, 21, 22, 23, 24, 25, 26, 27, 28] rfl rfl rfl hl.1 rfl (Nat.le_of_ble_eq_true rfl) dLw_law_838 hf) hP hD hS hA [0, 1, 2, 3, 4, 5, 6, 7, 8, 9, 10, 11, 12, 13, 14, 15, 16, 17, 18, 19, 20, 21, 22, 23, 24, 25, 26, 27, 28] [29, 30, 31, 32, 33, 34, 35, 36, 37, 38, 39, 40, 41, 42, 43, 44, 45, 46, 47, 48, 49, 50, 51, 52, 53, 54, 55, 56, 57, 58, 59, 60, 61] rfl rfl rfl (by decide) (fun _ H locs _ hP hD hS => ?_)
  have hP : va_P D cls_ (sysO x v ca oq C1 G1 ++ mW h ad ca κ M1) H := hP
  have hD : va_D A (sysO x v ca oq C1 G1 ++ mW h ad ca κ M1) := hD
  refine lv_istore hx hb dLw_law_841 hl (by decide) rfl (fun ls hl => ?_)
  have hl : lv_has ls 7 [(6, .int β), (5, .int (nI κ)), (4, .int (nI i)), (3, .ref oq), (2, .ref h), (1, .ref x), (0, .ref b)] := hl
  refine lv_aload_n hx hb dLw_law_843 rfl (lv_at hl 4 rfl) ?_
  refine kI (r := fun _ => nI κ) (rV fx (c_Mo_thrown l D ca h ad κ M1) ⟨callB_of 0 hts (tb_gi tw_679) rfl rfl rfl (ht _ tw_5) (ht _ tw_676) (by decide +kernel) ⟨(Nat.le_of_ble_eq_true rfl), (Nat.le_of_ble_eq_true rfl)⟩, ht _ tw_677, ht _ tw_678⟩ hE hP hD 33 rfl rfl rfl [33, 34, 35, 36, 37, 38, 39, 40, 41, 42, 43, 44, 45, 46, 47, 48, 49, 50, 51, 52, 53, 54, 55, 56, 57, 58, 59, 60, 61] rfl rfl rfl hl.1 rfl (Nat.le_of_ble_eq_true rfl) dLw_law_844 hf) hP hD hS hA [33, 34, 35, 36, 37, 38, 39, 40, 41, 42, 43, 44, 45, 46, 47, 48, 49, 50, 51, 52, 53, 54, 55, 56, 57, 58, 59, 60, 61] [0, 1, 2, 3, 4, 5, 6, 7, 8, 9, 10, 11, 12, 13, 14, 15, 16, 17, 18, 19, 20, 21, 22, 23, 24, 25, 26, 27, 28, 29, 30, 31, 32] rfl rfl rfl (by decide) (fun _ H locs _ hP hD hS => ?_)
  have hP : va_P D cls_ (sysO x v ca oq C1 G1 ++ mW h ad ca κ M1) H := hP
  have hD : va_D A (sysO x v ca oq C1 G1 ++ mW h ad ca κ M1) := hD
  refine lv_iload hx hb dLw_law_847 (lv_at hl 1 rfl) ?_
  refine k_icmp_eq hx hb (a := κ) (b := κ) (by omega) (by omega) (tgt := 854) dLw_law_849 rfl (fun _ => ?_) (fun z => absurd rfl z)
  refine lv_iload hx hb dLw_law_854 (lv_at hl 1 rfl) ?_
  refine k_if_ne hx hb (a := κ) (by omega) (tgt := 871) dLw_law_856 rfl (fun _ => ?_) (fun hz => ?_)
  · refine lv_goto (tgt := 1102) hx hb dLw_law_871 rfl ?_
    exact kk _ _ _ _ _ _ _ hR1 hP hD hS (lv_sub hl [2, 3, 4, 5, 6] rfl)
  refine lv_aload_n hx hb dLw_law_859 rfl (lv_at hl 3 rfl) ?_
  refine lv_iconst (v := nI 0) hx hb dLw_law_860 (by decide) ?_
  refine va_lald hx hb hE.1 hP 32 4 rfl rfl (vp_in_nI (n := 0) (N := 1) (by decide) (by decide)) dLw_law_861 ?_
  refine lv_iload hx hb dLw_law_862 (lv_at hl 0 rfl) ?_
  refine lv_i2l (v := G1 0) hx hb dLw_law_864 (hv hz).symm ?_
  refine W.lcmp hx hb dLw_law_865 ?_
  refine k_is (y := nI 0) (cmp_self _) ?_
  refine k_if_eq hx hb (a := 0) (by decide) (tgt := 871) dLw_law_866 rfl (fun _ => ?_) (fun z => absurd rfl z)
  refine lv_goto (tgt := 1102) hx hb dLw_law_871 rfl ?_
  exact kk _ _ _ _ _ _ _ hR1 hP hD hS (lv_sub hl [2, 3, 4, 5, 6] rfl)
set_option maxHeartbeats 4000000 in
set_option maxRecDepth 100000 in
theorem a_channel {p : Program} {l : Launch} {e : Env} {s : State} {m : MethodId} {below : List Frame} {meth : Method} {c : Code} {b L : Nat} {xs : Nat → Int32} {D : va_G} {ca : Nat → ClassId} {A : Nat → Prop} {Q : State → Prop} {H : Heap} {locs : List Loc} {cells slots : Nat} {ls : Array Slot} {x oq h : Nat} {v ad : Nat → Nat} {co : Nat} {C : CS_} {G : Nat → Int64} {M : Nat → Nat → Nat} {i : Nat} (hlT : l.stackTraces = false) (fx : CallFix p m c code 7 s #[Value.ref b] (Cond.initialized "ChannelledLinkLaw" :: tb_) RLw) (hX : va_X b L xs s s.heap) (hbl : b < s.heap.size) (hbA : ¬ A b) (hL : L ≤ 3072) (hE : Ev D ca s) (hZ : Zx A s s.heap) (hA : ∀ q : Nat, s.heap.size ≤ q → A q) (hi : i + 6 ≤ L) (hf : cells + 1 ≤ room_1.cells ∧ slots + 6 ≤ room_1.slots) (hR : RR C M) (hP : va_P D cls_ (sysO x v ca oq C G ++ mW h ad ca co M) H) (hD : va_D A (sysO x v ca oq C G ++ mW h ad ca co M)) (hS : va_S A s.heap H locs) (hl : lv_has ls 7 [(4, .int (nI i)), (3, .ref oq), (2, .ref h), (1, .ref x), (0, .ref b)])
    (kk : ∀ (C : CS_) (G : Nat → Int64) (M : Nat → Nat → Nat) (co : Nat) (H : Heap) (locs : List Loc) (ls : Array Slot), RR C M → va_P D cls_ (sysO x v ca oq C G ++ mW h ad ca co M) H → va_D A (sysO x v ca oq C G ++ mW h ad ca co M) → va_S A s.heap H locs → lv_has ls 7 [(4, .int (nI i)), (3, .ref oq), (2, .ref h), (1, .ref x), (0, .ref b)] → W p l e room_1 s m #[Value.ref b] below meth c H locs (cells + 1) (slots + 6) Q (F0 m 1102 ls [])) : W p l e room_1 s m #[Value.ref b] below meth c H locs cells slots Q (F0 m 874 ls []) := by
  have hx := fx.1
  have hb := fx.2.1
  have hts := fx.2.2.2.2
  have ht : ∀ w ∈ tb_, w.before #[Value.ref b] s = true := fun w h => hts w (List.mem_cons_of_mem _ h)
  refine lv_aload_n hx hb dLw_law_874 rfl (lv_at hl 3 rfl) ?_
  refine lv_aload_n hx hb dLw_law_875 rfl (lv_at hl 4 rfl) ?_
  refine lv_iload hx hb dLw_law_876 (lv_at hl 0 rfl) ?_
  refine lv_iconst (v := nI 1) hx hb dLw_law_878 (by decide) ?_
  refine k_iadd hx hb dLw_law_879 ?_
  refine va_sld hx hb hX hbl hbA hS (vp_in_nI (by omega) (by omega)) dLw_law_880 ?_
  refine lv_aload_n hx hb dLw_law_881 rfl (lv_at hl 4 rfl) ?_
  refine lv_iload hx hb dLw_law_882 (lv_at hl 0 rfl) ?_
  refine lv_iconst (v := nI 2) hx hb dLw_law_884 (by decide) ?_
  refine k_iadd hx hb dLw_law_885 ?_
  refine va_sld hx hb hX hbl hbA hS (vp_in_nI (by omega) (by omega)) dLw_law_886 ?_
  refine lv_aload_n hx hb dLw_law_887 rfl (lv_at hl 4 rfl) ?_
  refine lv_iload hx hb dLw_law_888 (lv_at hl 0 rfl) ?_
  refine lv_iconst (v := nI 3) hx hb dLw_law_890 (by decide) ?_
  refine k_iadd hx hb dLw_law_891 ?_
  refine va_sld hx hb hX hbl hbA hS (vp_in_nI (by omega) (by omega)) dLw_law_892 ?_
  refine lv_aload_n hx hb dLw_law_893 rfl (lv_at hl 1 rfl) ?_
  obtain ⟨κ, β, C1, G1, M1, hκ, hw, hm, hR1, hv⟩ := o_channel l hlT D ca x oq h v ad co C G M hR (xs (nI (i + 1)).toNatClampNeg) (xs (nI (i + 2)).toNatClampNeg) (xs (nI (i + 3)).toNatClampNeg)
  refine kI (r := fun _ => nI κ) (rW fx hw (csw_of 5 hts tw_554 tw_0 tw_552 tw_553 (by decide +kernel) ⟨(Nat.le_of_ble_eq_true rfl), (Nat.le_of_ble_eq_true rfl)⟩) hE hZ hP hD hS hA [0, 1, 2, 3, 4, 5, 6, 7, 8, 9, 10, 11, 12, 13, 14, 15, 16, 17, 18, 19, 20, 21, 22, 23, 24, 25, 26, 27, 28, 29, 30, 31, 32] rfl rfl rfl hl.1 rfl (Nat.le_of_ble_eq_true rfl) dLw_law_894 hf) hP hD hS hA [0, 1, 2, 3, 4, 5, 6, 7, 8, 9, 10, 11, 12, 13, 14, 15, 16, 17, 18, 19, 20, 21, 22, 23, 24, 25, 26, 27, 28, 29, 30, 31, 32] [33, 34, 35, 36, 37, 38, 39, 40, 41, 42, 43, 44, 45, 46, 47, 48, 49, 50, 51, 52, 53, 54, 55, 56, 57, 58, 59, 60, 61] rfl rfl rfl (by decide) (fun _ H locs _ hP hD hS => ?_)
  have hP : va_P D cls_ (mW h ad ca co M ++ sysO x v ca oq C1 G1) H := hP
  have hD : va_D A (mW h ad ca co M ++ sysO x v ca oq C1 G1) := hD
  refine lv_istore hx hb dLw_law_897 hl (by decide) rfl (fun ls hl => ?_)
  have hl : lv_has ls 7 [(5, .int (nI κ)), (4, .int (nI i)), (3, .ref oq), (2, .ref h), (1, .ref x), (0, .ref b)] := hl
  refine lv_aload_n hx hb dLw_law_899 rfl (lv_at hl 3 rfl) ?_
  refine lv_aload_n hx hb dLw_law_900 rfl (lv_at hl 5 rfl) ?_
  refine lv_iload hx hb dLw_law_901 (lv_at hl 1 rfl) ?_
  refine lv_iconst (v := nI 1) hx hb dLw_law_903 (by decide) ?_
  refine k_iadd hx hb dLw_law_904 ?_
  refine va_sld hx hb hX hbl hbA hS (vp_in_nI (by omega) (by omega)) dLw_law_905 ?_
  refine lv_aload_n hx hb dLw_law_906 rfl (lv_at hl 5 rfl) ?_
  refine lv_iload hx hb dLw_law_907 (lv_at hl 1 rfl) ?_
  refine lv_iconst (v := nI 2) hx hb dLw_law_909 (by decide) ?_
  refine k_iadd hx hb dLw_law_910 ?_
  refine va_sld hx hb hX hbl hbA hS (vp_in_nI (by omega) (by omega)) dLw_law_911 ?_
  refine lv_aload_n hx hb dLw_law_912 rfl (lv_at hl 5 rfl) ?_
  refine lv_iload hx hb dLw_law_913 (lv_at hl 1 rfl) ?_
  refine lv_iconst (v := nI 3) hx hb dLw_law_915 (by decide) ?_
  refine k_iadd hx hb dLw_law_916 ?_
  refine va_sld hx hb hX hbl hbA hS (vp_in_nI (by omega) (by omega)) dLw_law_917 ?_
  refine kI (r := fun _ => β) (rV fx hm ⟨callB_of 3 hts (tb_gi tw_815) rfl rfl rfl (ht _ tw_5) (ht _ tw_812) (by decide +kernel) ⟨(Nat.le_of_ble_eq_true rfl), (Nat.le_of_ble_eq_true rfl)⟩, ht _ tw_813, ht _ tw_814⟩ hE hP hD 0 rfl rfl rfl [0, 1, 2, 3, 4, 5, 6, 7, 8, 9, 10, 11, 12, 13, 14, 15, 16, 17, 18, 19, 20, 21, 22, 23, 24, 25, 26, 27, 28] rfl rfl rfl hl.1 rfl (Nat.le_of_ble_eq_true rfl) dLw_law_918 hf) hP hD hS hA [0, 1, 2, 3, 4, 5, 6, 7, 8, 9, 10, 11, 12, 13, 14, 15, 16, 17, 18, 19, 20, 21, 22, 23, 24, 25, 26, 27, 28] [29, 30, 31, 32, 33, 34, 35, 36, 37, 38, 39, 40, 41, 42, 43, 44, 45, 46, 47, 48, 49, 50, 51, 52, 53, 54, 55, 56, 57, 58, 59, 60, 61] rfl rfl rfl (by decide) (fun _ H locs _ hP hD hS => ?_)
  have hP : va_P D cls_ (sysO x v ca oq C1 G1 ++ mW h ad ca κ M1) H := hP
  have hD : va_D A (sysO x v ca oq C1 G1 ++ mW h ad ca κ M1) := hD
  refine lv_istore hx hb dLw_law_921 hl (by decide) rfl (fun ls hl => ?_)
  have hl : lv_has ls 7 [(6, .int β), (5, .int (nI κ)), (4, .int (nI i)), (3, .ref oq), (2, .ref h), (1, .ref x), (0, .ref b)] := hl
  refine lv_aload_n hx hb dLw_law_923 rfl (lv_at hl 4 rfl) ?_
  refine kI (r := fun _ => nI κ) (rV fx (c_Mo_thrown l D ca h ad κ M1) ⟨callB_of 0 hts (tb_gi tw_679) rfl rfl rfl (ht _ tw_5) (ht _ tw_676) (by decide +kernel) ⟨(Nat.le_of_ble_eq_true rfl), (Nat.le_of_ble_eq_true rfl)⟩, ht _ tw_677, ht _ tw_678⟩ hE hP hD 33 rfl rfl rfl [33, 34, 35, 36, 37, 38, 39, 40, 41, 42, 43, 44, 45, 46, 47, 48, 49, 50, 51, 52, 53, 54, 55, 56, 57, 58, 59, 60, 61] rfl rfl rfl hl.1 rfl (Nat.le_of_ble_eq_true rfl) dLw_law_924 hf) hP hD hS hA [33, 34, 35, 36, 37, 38, 39, 40, 41, 42, 43, 44, 45, 46, 47, 48, 49, 50, 51, 52, 53, 54, 55, 56, 57, 58, 59, 60, 61] [0, 1, 2, 3, 4, 5, 6, 7, 8, 9, 10, 11, 12, 13, 14, 15, 16, 17, 18, 19, 20, 21, 22, 23, 24, 25, 26, 27, 28, 29, 30, 31, 32] rfl rfl rfl (by decide) (fun _ H locs _ hP hD hS => ?_)
  have hP : va_P D cls_ (sysO x v ca oq C1 G1 ++ mW h ad ca κ M1) H := hP
  have hD : va_D A (sysO x v ca oq C1 G1 ++ mW h ad ca κ M1) := hD
  refine lv_iload hx hb dLw_law_927 (lv_at hl 1 rfl) ?_
  refine k_icmp_eq hx hb (a := κ) (b := κ) (by omega) (by omega) (tgt := 934) dLw_law_929 rfl (fun _ => ?_) (fun z => absurd rfl z)
  refine lv_iload hx hb dLw_law_934 (lv_at hl 1 rfl) ?_
  refine k_if_ne hx hb (a := κ) (by omega) (tgt := 951) dLw_law_936 rfl (fun _ => ?_) (fun hz => ?_)
  · refine lv_goto (tgt := 1102) hx hb dLw_law_951 rfl ?_
    exact kk _ _ _ _ _ _ _ hR1 hP hD hS (lv_sub hl [2, 3, 4, 5, 6] rfl)
  refine lv_aload_n hx hb dLw_law_939 rfl (lv_at hl 3 rfl) ?_
  refine lv_iconst (v := nI 0) hx hb dLw_law_940 (by decide) ?_
  refine va_lald hx hb hE.1 hP 32 4 rfl rfl (vp_in_nI (n := 0) (N := 1) (by decide) (by decide)) dLw_law_941 ?_
  refine lv_iload hx hb dLw_law_942 (lv_at hl 0 rfl) ?_
  refine lv_i2l (v := G1 0) hx hb dLw_law_944 (hv hz).symm ?_
  refine W.lcmp hx hb dLw_law_945 ?_
  refine k_is (y := nI 0) (cmp_self _) ?_
  refine k_if_eq hx hb (a := 0) (by decide) (tgt := 951) dLw_law_946 rfl (fun _ => ?_) (fun z => absurd rfl z)
  refine lv_goto (tgt := 1102) hx hb dLw_law_951 rfl ?_
  exact kk _ _ _ _ _ _ _ hR1 hP hD hS (lv_sub hl [2, 3, 4, 5, 6] rfl)
set_option maxHeartbeats 4000000 in
set_option maxRecDepth 100000 in
theorem a_frame {p : Program} {l : Launch} {e : Env} {s : State} {m : MethodId} {below : List Frame} {meth : Method} {c : Code} {b L : Nat} {xs : Nat → Int32} {D : va_G} {ca : Nat → ClassId} {A : Nat → Prop} {Q : State → Prop} {H : Heap} {locs : List Loc} {cells slots : Nat} {ls : Array Slot} {x oq h : Nat} {v ad : Nat → Nat} {co : Nat} {C : CS_} {G : Nat → Int64} {M : Nat → Nat → Nat} {i : Nat} (hlT : l.stackTraces = false) (fx : CallFix p m c code 7 s #[Value.ref b] (Cond.initialized "ChannelledLinkLaw" :: tb_) RLw) (hX : va_X b L xs s s.heap) (hbl : b < s.heap.size) (hbA : ¬ A b) (hL : L ≤ 3072) (hE : Ev D ca s) (hZ : Zx A s s.heap) (hA : ∀ q : Nat, s.heap.size ≤ q → A q) (hi : i + 6 ≤ L) (hf : cells + 1 ≤ room_1.cells ∧ slots + 6 ≤ room_1.slots) (hR : RR C M) (hP : va_P D cls_ (sysO x v ca oq C G ++ mW h ad ca co M) H) (hD : va_D A (sysO x v ca oq C G ++ mW h ad ca co M)) (hS : va_S A s.heap H locs) (hl : lv_has ls 7 [(4, .int (nI i)), (3, .ref oq), (2, .ref h), (1, .ref x), (0, .ref b)])
    (kk : ∀ (C : CS_) (G : Nat → Int64) (M : Nat → Nat → Nat) (co : Nat) (H : Heap) (locs : List Loc) (ls : Array Slot), RR C M → va_P D cls_ (sysO x v ca oq C G ++ mW h ad ca co M) H → va_D A (sysO x v ca oq C G ++ mW h ad ca co M) → va_S A s.heap H locs → lv_has ls 7 [(4, .int (nI i)), (3, .ref oq), (2, .ref h), (1, .ref x), (0, .ref b)] → W p l e room_1 s m #[Value.ref b] below meth c H locs (cells + 1) (slots + 6) Q (F0 m 1102 ls [])) : W p l e room_1 s m #[Value.ref b] below meth c H locs cells slots Q (F0 m 954 ls []) := by
  have hx := fx.1
  have hb := fx.2.1
  have hts := fx.2.2.2.2
  have ht : ∀ w ∈ tb_, w.before #[Value.ref b] s = true := fun w h => hts w (List.mem_cons_of_mem _ h)
  refine lv_aload_n hx hb dLw_law_954 rfl (lv_at hl 3 rfl) ?_
  refine lv_aload_n hx hb dLw_law_955 rfl (lv_at hl 4 rfl) ?_
  refine lv_iload hx hb dLw_law_956 (lv_at hl 0 rfl) ?_
  refine lv_iconst (v := nI 1) hx hb dLw_law_958 (by decide) ?_
  refine k_iadd hx hb dLw_law_959 ?_
  refine va_sld hx hb hX hbl hbA hS (vp_in_nI (by omega) (by omega)) dLw_law_960 ?_
  refine lv_aload_n hx hb dLw_law_961 rfl (lv_at hl 4 rfl) ?_
  refine lv_iload hx hb dLw_law_962 (lv_at hl 0 rfl) ?_
  refine lv_iconst (v := nI 2) hx hb dLw_law_964 (by decide) ?_
  refine k_iadd hx hb dLw_law_965 ?_
  refine va_sld hx hb hX hbl hbA hS (vp_in_nI (by omega) (by omega)) dLw_law_966 ?_
  refine lv_aload_n hx hb dLw_law_967 rfl (lv_at hl 4 rfl) ?_
  refine lv_iload hx hb dLw_law_968 (lv_at hl 0 rfl) ?_
  refine lv_iconst (v := nI 3) hx hb dLw_law_970 (by decide) ?_
  refine k_iadd hx hb dLw_law_971 ?_
  refine va_sld hx hb hX hbl hbA hS (vp_in_nI (by omega) (by omega)) dLw_law_972 ?_
  refine lv_aload_n hx hb dLw_law_973 rfl (lv_at hl 1 rfl) ?_
  obtain ⟨κ, β, C1, G1, M1, hκ, hw, hm, hR1, hv⟩ := o_frame l hlT D ca x oq h v ad co C G M hR (xs (nI (i + 1)).toNatClampNeg) (xs (nI (i + 2)).toNatClampNeg) (xs (nI (i + 3)).toNatClampNeg)
  refine kI (r := fun _ => nI κ) (rW fx hw (csw_of 5 hts tw_561 tw_0 tw_559 tw_560 (by decide +kernel) ⟨(Nat.le_of_ble_eq_true rfl), (Nat.le_of_ble_eq_true rfl)⟩) hE hZ hP hD hS hA [0, 1, 2, 3, 4, 5, 6, 7, 8, 9, 10, 11, 12, 13, 14, 15, 16, 17, 18, 19, 20, 21, 22, 23, 24, 25, 26, 27, 28, 29, 30, 31, 32] rfl rfl rfl hl.1 rfl (Nat.le_of_ble_eq_true rfl) dLw_law_974 hf) hP hD hS hA [0, 1, 2, 3, 4, 5, 6, 7, 8, 9, 10, 11, 12, 13, 14, 15, 16, 17, 18, 19, 20, 21, 22, 23, 24, 25, 26, 27, 28, 29, 30, 31, 32] [33, 34, 35, 36, 37, 38, 39, 40, 41, 42, 43, 44, 45, 46, 47, 48, 49, 50, 51, 52, 53, 54, 55, 56, 57, 58, 59, 60, 61] rfl rfl rfl (by decide) (fun _ H locs _ hP hD hS => ?_)
  have hP : va_P D cls_ (mW h ad ca co M ++ sysO x v ca oq C1 G1) H := hP
  have hD : va_D A (mW h ad ca co M ++ sysO x v ca oq C1 G1) := hD
  refine lv_istore hx hb dLw_law_977 hl (by decide) rfl (fun ls hl => ?_)
  have hl : lv_has ls 7 [(5, .int (nI κ)), (4, .int (nI i)), (3, .ref oq), (2, .ref h), (1, .ref x), (0, .ref b)] := hl
  refine lv_aload_n hx hb dLw_law_979 rfl (lv_at hl 3 rfl) ?_
  refine lv_aload_n hx hb dLw_law_980 rfl (lv_at hl 5 rfl) ?_
  refine lv_iload hx hb dLw_law_981 (lv_at hl 1 rfl) ?_
  refine lv_iconst (v := nI 1) hx hb dLw_law_983 (by decide) ?_
  refine k_iadd hx hb dLw_law_984 ?_
  refine va_sld hx hb hX hbl hbA hS (vp_in_nI (by omega) (by omega)) dLw_law_985 ?_
  refine lv_aload_n hx hb dLw_law_986 rfl (lv_at hl 5 rfl) ?_
  refine lv_iload hx hb dLw_law_987 (lv_at hl 1 rfl) ?_
  refine lv_iconst (v := nI 2) hx hb dLw_law_989 (by decide) ?_
  refine k_iadd hx hb dLw_law_990 ?_
  refine va_sld hx hb hX hbl hbA hS (vp_in_nI (by omega) (by omega)) dLw_law_991 ?_
  refine lv_aload_n hx hb dLw_law_992 rfl (lv_at hl 5 rfl) ?_
  refine lv_iload hx hb dLw_law_993 (lv_at hl 1 rfl) ?_
  refine lv_iconst (v := nI 3) hx hb dLw_law_995 (by decide) ?_
  refine k_iadd hx hb dLw_law_996 ?_
  refine va_sld hx hb hX hbl hbA hS (vp_in_nI (by omega) (by omega)) dLw_law_997 ?_
  refine kI (r := fun _ => β) (rV fx hm ⟨callB_of 3 hts (tb_gi tw_819) rfl rfl rfl (ht _ tw_5) (ht _ tw_816) (by decide +kernel) ⟨(Nat.le_of_ble_eq_true rfl), (Nat.le_of_ble_eq_true rfl)⟩, ht _ tw_817, ht _ tw_818⟩ hE hP hD 0 rfl rfl rfl [0, 1, 2, 3, 4, 5, 6, 7, 8, 9, 10, 11, 12, 13, 14, 15, 16, 17, 18, 19, 20, 21, 22, 23, 24, 25, 26, 27, 28] rfl rfl rfl hl.1 rfl (Nat.le_of_ble_eq_true rfl) dLw_law_998 hf) hP hD hS hA [0, 1, 2, 3, 4, 5, 6, 7, 8, 9, 10, 11, 12, 13, 14, 15, 16, 17, 18, 19, 20, 21, 22, 23, 24, 25, 26, 27, 28] [29, 30, 31, 32, 33, 34, 35, 36, 37, 38, 39, 40, 41, 42, 43, 44, 45, 46, 47, 48, 49, 50, 51, 52, 53, 54, 55, 56, 57, 58, 59, 60, 61] rfl rfl rfl (by decide) (fun _ H locs _ hP hD hS => ?_)
  have hP : va_P D cls_ (sysO x v ca oq C1 G1 ++ mW h ad ca κ M1) H := hP
  have hD : va_D A (sysO x v ca oq C1 G1 ++ mW h ad ca κ M1) := hD
  refine lv_istore hx hb dLw_law_1001 hl (by decide) rfl (fun ls hl => ?_)
  have hl : lv_has ls 7 [(6, .int β), (5, .int (nI κ)), (4, .int (nI i)), (3, .ref oq), (2, .ref h), (1, .ref x), (0, .ref b)] := hl
  refine lv_aload_n hx hb dLw_law_1003 rfl (lv_at hl 4 rfl) ?_
  refine kI (r := fun _ => nI κ) (rV fx (c_Mo_thrown l D ca h ad κ M1) ⟨callB_of 0 hts (tb_gi tw_679) rfl rfl rfl (ht _ tw_5) (ht _ tw_676) (by decide +kernel) ⟨(Nat.le_of_ble_eq_true rfl), (Nat.le_of_ble_eq_true rfl)⟩, ht _ tw_677, ht _ tw_678⟩ hE hP hD 33 rfl rfl rfl [33, 34, 35, 36, 37, 38, 39, 40, 41, 42, 43, 44, 45, 46, 47, 48, 49, 50, 51, 52, 53, 54, 55, 56, 57, 58, 59, 60, 61] rfl rfl rfl hl.1 rfl (Nat.le_of_ble_eq_true rfl) dLw_law_1004 hf) hP hD hS hA [33, 34, 35, 36, 37, 38, 39, 40, 41, 42, 43, 44, 45, 46, 47, 48, 49, 50, 51, 52, 53, 54, 55, 56, 57, 58, 59, 60, 61] [0, 1, 2, 3, 4, 5, 6, 7, 8, 9, 10, 11, 12, 13, 14, 15, 16, 17, 18, 19, 20, 21, 22, 23, 24, 25, 26, 27, 28, 29, 30, 31, 32] rfl rfl rfl (by decide) (fun _ H locs _ hP hD hS => ?_)
  have hP : va_P D cls_ (sysO x v ca oq C1 G1 ++ mW h ad ca κ M1) H := hP
  have hD : va_D A (sysO x v ca oq C1 G1 ++ mW h ad ca κ M1) := hD
  refine lv_iload hx hb dLw_law_1007 (lv_at hl 1 rfl) ?_
  refine k_icmp_eq hx hb (a := κ) (b := κ) (by omega) (by omega) (tgt := 1014) dLw_law_1009 rfl (fun _ => ?_) (fun z => absurd rfl z)
  refine lv_iload hx hb dLw_law_1014 (lv_at hl 1 rfl) ?_
  refine k_if_ne hx hb (a := κ) (by omega) (tgt := 1031) dLw_law_1016 rfl (fun _ => ?_) (fun hz => ?_)
  · refine lv_goto (tgt := 1102) hx hb dLw_law_1031 rfl ?_
    exact kk _ _ _ _ _ _ _ hR1 hP hD hS (lv_sub hl [2, 3, 4, 5, 6] rfl)
  refine lv_aload_n hx hb dLw_law_1019 rfl (lv_at hl 3 rfl) ?_
  refine lv_iconst (v := nI 0) hx hb dLw_law_1020 (by decide) ?_
  refine va_lald hx hb hE.1 hP 32 4 rfl rfl (vp_in_nI (n := 0) (N := 1) (by decide) (by decide)) dLw_law_1021 ?_
  refine lv_iload hx hb dLw_law_1022 (lv_at hl 0 rfl) ?_
  refine lv_i2l (v := G1 0) hx hb dLw_law_1024 (hv hz).symm ?_
  refine W.lcmp hx hb dLw_law_1025 ?_
  refine k_is (y := nI 0) (cmp_self _) ?_
  refine k_if_eq hx hb (a := 0) (by decide) (tgt := 1031) dLw_law_1026 rfl (fun _ => ?_) (fun z => absurd rfl z)
  refine lv_goto (tgt := 1102) hx hb dLw_law_1031 rfl ?_
  exact kk _ _ _ _ _ _ _ hR1 hP hD hS (lv_sub hl [2, 3, 4, 5, 6] rfl)
set_option maxHeartbeats 4000000 in
set_option maxRecDepth 100000 in
theorem a_peek {p : Program} {l : Launch} {e : Env} {s : State} {m : MethodId} {below : List Frame} {meth : Method} {c : Code} {b L : Nat} {xs : Nat → Int32} {D : va_G} {ca : Nat → ClassId} {A : Nat → Prop} {Q : State → Prop} {H : Heap} {locs : List Loc} {cells slots : Nat} {ls : Array Slot} {x oq h : Nat} {v ad : Nat → Nat} {co : Nat} {C : CS_} {G : Nat → Int64} {M : Nat → Nat → Nat} {i : Nat} (hlT : l.stackTraces = false) (fx : CallFix p m c code 7 s #[Value.ref b] (Cond.initialized "ChannelledLinkLaw" :: tb_) RLw) (hX : va_X b L xs s s.heap) (hbl : b < s.heap.size) (hbA : ¬ A b) (hL : L ≤ 3072) (hE : Ev D ca s) (hZ : Zx A s s.heap) (hA : ∀ q : Nat, s.heap.size ≤ q → A q) (hi : i + 6 ≤ L) (hf : cells + 1 ≤ room_1.cells ∧ slots + 6 ≤ room_1.slots) (hR : RR C M) (hP : va_P D cls_ (sysO x v ca oq C G ++ mW h ad ca co M) H) (hD : va_D A (sysO x v ca oq C G ++ mW h ad ca co M)) (hS : va_S A s.heap H locs) (hl : lv_has ls 7 [(4, .int (nI i)), (3, .ref oq), (2, .ref h), (1, .ref x), (0, .ref b)])
    (kk : ∀ (C : CS_) (G : Nat → Int64) (M : Nat → Nat → Nat) (co : Nat) (H : Heap) (locs : List Loc) (ls : Array Slot), RR C M → va_P D cls_ (sysO x v ca oq C G ++ mW h ad ca co M) H → va_D A (sysO x v ca oq C G ++ mW h ad ca co M) → va_S A s.heap H locs → lv_has ls 7 [(4, .int (nI i)), (3, .ref oq), (2, .ref h), (1, .ref x), (0, .ref b)] → W p l e room_1 s m #[Value.ref b] below meth c H locs (cells + 1) (slots + 6) Q (F0 m 1102 ls [])) : W p l e room_1 s m #[Value.ref b] below meth c H locs cells slots Q (F0 m 1034 ls []) := by
  have hx := fx.1
  have hb := fx.2.1
  have hts := fx.2.2.2.2
  have ht : ∀ w ∈ tb_, w.before #[Value.ref b] s = true := fun w h => hts w (List.mem_cons_of_mem _ h)
  refine lv_aload_n hx hb dLw_law_1034 rfl (lv_at hl 3 rfl) ?_
  refine lv_aload_n hx hb dLw_law_1035 rfl (lv_at hl 4 rfl) ?_
  refine lv_iload hx hb dLw_law_1036 (lv_at hl 0 rfl) ?_
  refine lv_iconst (v := nI 1) hx hb dLw_law_1038 (by decide) ?_
  refine k_iadd hx hb dLw_law_1039 ?_
  refine va_sld hx hb hX hbl hbA hS (vp_in_nI (by omega) (by omega)) dLw_law_1040 ?_
  refine lv_aload_n hx hb dLw_law_1041 rfl (lv_at hl 4 rfl) ?_
  refine lv_iload hx hb dLw_law_1042 (lv_at hl 0 rfl) ?_
  refine lv_iconst (v := nI 2) hx hb dLw_law_1044 (by decide) ?_
  refine k_iadd hx hb dLw_law_1045 ?_
  refine va_sld hx hb hX hbl hbA hS (vp_in_nI (by omega) (by omega)) dLw_law_1046 ?_
  refine lv_aload_n hx hb dLw_law_1047 rfl (lv_at hl 1 rfl) ?_
  obtain ⟨κ, β, C1, G1, M1, hκ, hw, hm, hR1, hv⟩ := o_peek l hlT D ca x oq h v ad co C G M hR (xs (nI (i + 1)).toNatClampNeg) (xs (nI (i + 2)).toNatClampNeg)
  refine kI (r := fun _ => nI κ) (rW fx hw (csw_of 4 hts tw_576 tw_0 tw_574 tw_575 (by decide +kernel) ⟨(Nat.le_of_ble_eq_true rfl), (Nat.le_of_ble_eq_true rfl)⟩) hE hZ hP hD hS hA [0, 1, 2, 3, 4, 5, 6, 7, 8, 9, 10, 11, 12, 13, 14, 15, 16, 17, 18, 19, 20, 21, 22, 23, 24, 25, 26, 27, 28, 29, 30, 31, 32] rfl rfl rfl hl.1 rfl (Nat.le_of_ble_eq_true rfl) dLw_law_1048 hf) hP hD hS hA [0, 1, 2, 3, 4, 5, 6, 7, 8, 9, 10, 11, 12, 13, 14, 15, 16, 17, 18, 19, 20, 21, 22, 23, 24, 25, 26, 27, 28, 29, 30, 31, 32] [33, 34, 35, 36, 37, 38, 39, 40, 41, 42, 43, 44, 45, 46, 47, 48, 49, 50, 51, 52, 53, 54, 55, 56, 57, 58, 59, 60, 61] rfl rfl rfl (by decide) (fun _ H locs _ hP hD hS => ?_)
  have hP : va_P D cls_ (mW h ad ca co M ++ sysO x v ca oq C1 G1) H := hP
  have hD : va_D A (mW h ad ca co M ++ sysO x v ca oq C1 G1) := hD
  refine lv_istore hx hb dLw_law_1051 hl (by decide) rfl (fun ls hl => ?_)
  have hl : lv_has ls 7 [(5, .int (nI κ)), (4, .int (nI i)), (3, .ref oq), (2, .ref h), (1, .ref x), (0, .ref b)] := hl
  refine lv_aload_n hx hb dLw_law_1053 rfl (lv_at hl 3 rfl) ?_
  refine lv_aload_n hx hb dLw_law_1054 rfl (lv_at hl 5 rfl) ?_
  refine lv_iload hx hb dLw_law_1055 (lv_at hl 1 rfl) ?_
  refine lv_iconst (v := nI 1) hx hb dLw_law_1057 (by decide) ?_
  refine k_iadd hx hb dLw_law_1058 ?_
  refine va_sld hx hb hX hbl hbA hS (vp_in_nI (by omega) (by omega)) dLw_law_1059 ?_
  refine lv_aload_n hx hb dLw_law_1060 rfl (lv_at hl 5 rfl) ?_
  refine lv_iload hx hb dLw_law_1061 (lv_at hl 1 rfl) ?_
  refine lv_iconst (v := nI 2) hx hb dLw_law_1063 (by decide) ?_
  refine k_iadd hx hb dLw_law_1064 ?_
  refine va_sld hx hb hX hbl hbA hS (vp_in_nI (by omega) (by omega)) dLw_law_1065 ?_
  refine kI (r := fun _ => β) (rV fx hm ⟨callB_of 2 hts (tb_gi tw_823) rfl rfl rfl (ht _ tw_5) (ht _ tw_820) (by decide +kernel) ⟨(Nat.le_of_ble_eq_true rfl), (Nat.le_of_ble_eq_true rfl)⟩, ht _ tw_821, ht _ tw_822⟩ hE hP hD 0 rfl rfl rfl [0, 1, 2, 3, 4, 5, 6, 7, 8, 9, 10, 11, 12, 13, 14, 15, 16, 17, 18, 19, 20, 21, 22, 23, 24, 25, 26, 27, 28] rfl rfl rfl hl.1 rfl (Nat.le_of_ble_eq_true rfl) dLw_law_1066 hf) hP hD hS hA [0, 1, 2, 3, 4, 5, 6, 7, 8, 9, 10, 11, 12, 13, 14, 15, 16, 17, 18, 19, 20, 21, 22, 23, 24, 25, 26, 27, 28] [29, 30, 31, 32, 33, 34, 35, 36, 37, 38, 39, 40, 41, 42, 43, 44, 45, 46, 47, 48, 49, 50, 51, 52, 53, 54, 55, 56, 57, 58, 59, 60, 61] rfl rfl rfl (by decide) (fun _ H locs _ hP hD hS => ?_)
  have hP : va_P D cls_ (sysO x v ca oq C1 G1 ++ mW h ad ca κ M1) H := hP
  have hD : va_D A (sysO x v ca oq C1 G1 ++ mW h ad ca κ M1) := hD
  refine lv_istore hx hb dLw_law_1069 hl (by decide) rfl (fun ls hl => ?_)
  have hl : lv_has ls 7 [(6, .int β), (5, .int (nI κ)), (4, .int (nI i)), (3, .ref oq), (2, .ref h), (1, .ref x), (0, .ref b)] := hl
  refine lv_aload_n hx hb dLw_law_1071 rfl (lv_at hl 4 rfl) ?_
  refine kI (r := fun _ => nI κ) (rV fx (c_Mo_thrown l D ca h ad κ M1) ⟨callB_of 0 hts (tb_gi tw_679) rfl rfl rfl (ht _ tw_5) (ht _ tw_676) (by decide +kernel) ⟨(Nat.le_of_ble_eq_true rfl), (Nat.le_of_ble_eq_true rfl)⟩, ht _ tw_677, ht _ tw_678⟩ hE hP hD 33 rfl rfl rfl [33, 34, 35, 36, 37, 38, 39, 40, 41, 42, 43, 44, 45, 46, 47, 48, 49, 50, 51, 52, 53, 54, 55, 56, 57, 58, 59, 60, 61] rfl rfl rfl hl.1 rfl (Nat.le_of_ble_eq_true rfl) dLw_law_1072 hf) hP hD hS hA [33, 34, 35, 36, 37, 38, 39, 40, 41, 42, 43, 44, 45, 46, 47, 48, 49, 50, 51, 52, 53, 54, 55, 56, 57, 58, 59, 60, 61] [0, 1, 2, 3, 4, 5, 6, 7, 8, 9, 10, 11, 12, 13, 14, 15, 16, 17, 18, 19, 20, 21, 22, 23, 24, 25, 26, 27, 28, 29, 30, 31, 32] rfl rfl rfl (by decide) (fun _ H locs _ hP hD hS => ?_)
  have hP : va_P D cls_ (sysO x v ca oq C1 G1 ++ mW h ad ca κ M1) H := hP
  have hD : va_D A (sysO x v ca oq C1 G1 ++ mW h ad ca κ M1) := hD
  refine lv_iload hx hb dLw_law_1075 (lv_at hl 1 rfl) ?_
  refine k_icmp_eq hx hb (a := κ) (b := κ) (by omega) (by omega) (tgt := 1082) dLw_law_1077 rfl (fun _ => ?_) (fun z => absurd rfl z)
  refine lv_iload hx hb dLw_law_1082 (lv_at hl 1 rfl) ?_
  refine k_if_ne hx hb (a := κ) (by omega) (tgt := 1099) dLw_law_1084 rfl (fun _ => ?_) (fun hz => ?_)
  · refine lv_goto (tgt := 1102) hx hb dLw_law_1099 rfl ?_
    exact kk _ _ _ _ _ _ _ hR1 hP hD hS (lv_sub hl [2, 3, 4, 5, 6] rfl)
  refine lv_aload_n hx hb dLw_law_1087 rfl (lv_at hl 3 rfl) ?_
  refine lv_iconst (v := nI 0) hx hb dLw_law_1088 (by decide) ?_
  refine va_lald hx hb hE.1 hP 32 4 rfl rfl (vp_in_nI (n := 0) (N := 1) (by decide) (by decide)) dLw_law_1089 ?_
  refine lv_iload hx hb dLw_law_1090 (lv_at hl 0 rfl) ?_
  refine lv_i2l (v := G1 0) hx hb dLw_law_1092 (hv hz).symm ?_
  refine W.lcmp hx hb dLw_law_1093 ?_
  refine k_is (y := nI 0) (cmp_self _) ?_
  refine k_if_eq hx hb (a := 0) (by decide) (tgt := 1099) dLw_law_1094 rfl (fun _ => ?_) (fun z => absurd rfl z)
  refine lv_goto (tgt := 1102) hx hb dLw_law_1099 rfl ?_
  exact kk _ _ _ _ _ _ _ hR1 hP hD hS (lv_sub hl [2, 3, 4, 5, 6] rfl)
