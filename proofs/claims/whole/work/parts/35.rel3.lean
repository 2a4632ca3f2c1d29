/-! clean, set-up, confirm, the first frame of a line -/
theorem mIdle_at {A : Nat → Nat → Nat} {k : Nat} : mIdle A k 23 = va_up (A 23) k 0 ∧ mIdle A k 24 = va_up (A 24) k 0 ∧ mIdle A k 25 = va_up (A 25) k 0 ∧ mIdle A k 26 = va_up (A 26) k 0 ∧ mIdle A k 27 = va_up (A 27) k 0 ∧ mIdle A k 28 = A 28 := ⟨rfl, rfl, rfl, rfl, rfl, rfl⟩
theorem mRenew_at {A : Nat → Nat → Nat} {k : Nat} : mRenew A k 23 = A 23 ∧ mRenew A k 24 = va_up (A 24) k 0 ∧ mRenew A k 25 = va_up (A 25) k 0 ∧ mRenew A k 26 = va_up (A 26) k 0 ∧ mRenew A k 27 = va_up (A 27) k 0 ∧ mRenew A k 28 = A 28 := ⟨rfl, rfl, rfl, rfl, rfl, rfl⟩
theorem mRenew_lo {A : Nat → Nat → Nat} {k i : Nat} (h : i < 23) : mRenew A k i = A i := by
  unfold mRenew
  rw [mS_ne (by omega), mS_ne (by omega), mS_ne (by omega), mS_ne (by omega)]
theorem mIdle_lo {A : Nat → Nat → Nat} {k i : Nat} (h : i < 23) : mIdle A k i = A i := by
  unfold mIdle
  rw [mRenew_lo h, mS_ne (by omega)]
theorem mClean_lo {M : Nat → Nat → Nat} {s i : Nat} (h : i < 11) : mClean M s i = M i := by
  unfold mClean
  rw [mIdle_lo (by omega), mIdle_lo (by omega), mIdle_lo (by omega), mS_ne (by omega), mS_ne (by omega), mS_ne (by omega), mS_ne (by omega), mS_ne (by omega), mS_ne (by omega)]
theorem mClean_at {M : Nat → Nat → Nat} {s : Nat} : mClean M s 11 = va_up (M 11) s 0 ∧ mClean M s 12 = va_up (M 12) s 0 ∧ mClean M s 13 = va_up (M 13) s 0 ∧ mClean M s 14 = va_up (M 14) s 0 ∧ mClean M s 15 = va_up (M 15) s 0 ∧ mClean M s 17 = va_up (M 17) s 0 := ⟨rfl, rfl, rfl, rfl, rfl, rfl⟩
theorem RCn.new {M : Nat → Nat → Nat} {k ns : Nat} {r : Rw_} (hns : ns < 6) (h1 : M 23 k = ns) (h2 : M 24 k = 0) (h3 : M 25 k = 0) (h4 : M 26 k = 0) (h5 : M 27 k = 0) : RCn M k (cNew ns r) :=
  ⟨h1, h2, h3, h4, h5, (by show 0 = ds 0 0; decide), Nat.zero_le _, fun j hj => absurd hj (Nat.not_lt_zero j), (by show ds 0 0 ≤ 2; decide), fun _ => ⟨rfl, rfl, rfl, rfl⟩, hns, (by show 0 < 8; decide), (by show 0 < 8; decide), (by show 0 < 8; decide), (by show 0 < 8; decide)⟩
theorem mClean_ch {M : Nat → Nat → Nat} {s c : Nat} (hc : c < 3) : mClean M s 23 (3 * s + c) = 0 ∧ mClean M s 24 (3 * s + c) = 0 ∧ mClean M s 25 (3 * s + c) = 0 ∧ mClean M s 26 (3 * s + c) = 0 ∧ mClean M s 27 (3 * s + c) = 0 := by
  have key : ∀ f : Nat → Nat, va_up (va_up (va_up f (3 * s + 0) 0) (3 * s + (0 + 1)) 0) (3 * s + (0 + 1 + 1)) 0 (3 * s + c) = 0 := by
    intro f
    rcases (show c = 0 ∨ c = 1 ∨ c = 2 by omega) with rfl | rfl | rfl
    · rw [va_up_ne _ _ (by omega), va_up_ne _ _ (by omega), va_up_self]
    · rw [va_up_ne _ _ (by omega), va_up_self]
    · rw [va_up_self]
  exact ⟨key (M 23), key (M 24), key (M 25), key (M 26), key (M 27)⟩
theorem RX.clean {M : Nat → Nat → Nat} {s : Nat} {n : Nm_} {O : Rw_} {K : Nat → Cn_} {L P : Rw_} (h : RX M s n O K L P) {nl : Nat} (hnl : nl < 3) : RX (mS (mClean M s) 10 s nl) s (nl, 0, 0, 0, 0, 0) (rNone O) (kClean K) L P := by
  obtain ⟨hM, ⟨hn, hO, hK, h3, h4, h5⟩, hL, hP⟩ := h
  have e : ∀ i, i < 10 → mS (mClean M s) 10 s nl i = M i := fun i hi => (mS_ne (by omega)).trans (mClean_lo (by omega))
  obtain ⟨g1, g2, g3, g4, g5, g6⟩ := mClean_at (M := M) (s := s)
  refine ⟨(hM.clean s).set 10 hnl, ⟨⟨?_, ?_, ?_, ?_, ?_, ?_⟩, ⟨?_, Nat.zero_le _, fun j hj => absurd hj (Nat.not_lt_zero j)⟩, fun c hc => ?_, (by show ds 0 0 ≤ 3; decide), (by show ds 0 0 ≤ 0; decide), (by show 0 < 4; decide)⟩, hL.of e, hP.of e⟩
  · rw [mS_same, va_up_self]
  · rw [mS_ne (by decide), g1, va_up_self]
  · rw [mS_ne (by decide), g2, va_up_self]
  · rw [mS_ne (by decide), g3, va_up_self]
  · rw [mS_ne (by decide), g4, va_up_self]
  · rw [mS_ne (by decide), g5, va_up_self]
  · rw [mS_ne (by decide), g6, va_up_self]; rfl
  · obtain ⟨k1, k2, k3, k4, k5⟩ := mClean_ch (M := M) (s := s) hc
    exact RCn.new (by decide) (by rw [mS_ne (by decide)]; exact k1) (by rw [mS_ne (by decide)]; exact k2) (by rw [mS_ne (by decide)]; exact k3) (by rw [mS_ne (by decide)]; exact k4) (by rw [mS_ne (by decide)]; exact k5)
theorem fBn {kd ak : Nat} (h0 : 0 < kd) (h1 : kd < 6) (h2 : ak < 8) (h3 : kd ≠ 3) : fB kd 0 ak 0 0 0 0 0 := ⟨h0, h1, by decide, h2, by decide, by decide, by decide, by decide, by decide, fun e => absurd e h3⟩
/-- a frame without a packet goes out -/
theorem RX.trN {M : Nat → Nat → Nat} {s : Nat} (hs : s < 2) {n : Nm_} {O : Rw_} {K : Nat → Cn_} {L P : Rw_} (h : RX M s n O K L P) {kd ak : Nat} (h0 : 0 < kd) (h1 : kd < 6) (h2 : ak < 8) (h3 : kd ≠ 3) :
    RX (mTrN M s kd 0 ak) s n O K L (rAdd 12 P (fr4 kd 0 ak 0)) := by
  obtain ⟨hM, ⟨hn, hO, hK, g3, g4, g5⟩, hL, hP⟩ := h
  refine ⟨hM.trN s (by omega) (by decide) (by omega), ⟨hn.of (fun i a b => mTr_hi (by omega)), hO.of (fun i a b => mTr_hi (by omega)), fun c hc => (hK c hc).of (fun i hi => mTr_hi (by omega)), g3, g4, g5⟩, RLn.trO hs hL (hM 1 _), ?_⟩
  exact RLn.tr hP (fBn h0 h1 h2 h3)
theorem RX.setUp {M : Nat → Nat → Nat} {s : Nat} (hs : s < 2) {n : Nm_} {O : Rw_} {K : Nat → Cn_} {L P : Rw_} (h : RX M s n O K L P) :
    RX (mSetUp M s) s (sSetUp O K P).1 (sSetUp O K P).2.1 (sSetUp O K P).2.2.1 L (sSetUp O K P).2.2.2 := (h.clean (nl := 1) (by decide)).trN hs (by decide) (by decide) (by decide) (by decide)
theorem mSh1_at {M : Nat → Nat → Nat} {p n i : Nat} (h1 : 18 ≤ i) (h2 : i < 23) : mSh1 M p n i = va_up (M i) p (M i (p + n)) := by
  rcases (show i = 18 ∨ i = 19 ∨ i = 20 ∨ i = 21 ∨ i = 22 by omega) with rfl | rfl | rfl | rfl | rfl <;> rfl
theorem mShR_at : ∀ (k : Nat) (M : Nat → Nat → Nat) (p n : Nat) {i : Nat} (_ : 18 ≤ i) (_ : i < 23) (j : Nat), mShR k M p n i j = if p ≤ j ∧ j < p + k then M i (j + n) else M i j
  | 0, M, p, n, i, _, _, j => (if_neg (by omega)).symm
  | k + 1, M, p, n, i, h1, h2, j => by
    show mShR k (mSh1 M p n) (p + 1) n i j = _
    rw [mShR_at k (mSh1 M p n) (p + 1) n h1 h2 j, mSh1_at h1 h2]
    by_cases c : p + 1 ≤ j ∧ j < p + 1 + k
    · rw [if_pos c, if_pos (by omega), va_up_ne _ _ (by omega)]
    · rw [if_neg c]
      by_cases e : j = p
      · rw [e, va_up_self, if_pos (by omega)]
      · rw [va_up_ne _ _ e, if_neg (by omega)]
theorem mShR_lo : ∀ (k : Nat) (M : Nat → Nat → Nat) (p n : Nat) {i : Nat} (_ : i < 18), mShR k M p n i = M i
  | 0, _, _, _, _, _ => rfl
  | k + 1, M, p, n, i, h => (mShR_lo k (mSh1 M p n) (p + 1) n h).trans (mSh1_lo h)
theorem RX.conf {M : Nat → Nat → Nat} {s lk sn ac ex tr rj : Nat} {O : Rw_} {K : Nat → Cn_} {L P : Rw_} (h : RX M s (lk, sn, ac, ex, tr, rj) O K L P) {ak : Nat} (hk : ak < 8) :
    RX (mConf M s ak) s (lk, sn, (sConf sn ac ak tr O).1, ex, (sConf sn ac ak tr O).2.1, rj) (sConf sn ac ak tr O).2.2 K L P ∧ mConf M s ak 16 = M 16 := by
  obtain ⟨hM, ⟨hn, hO, hK, h3, h4, h5⟩, hL, hP⟩ := h
  obtain ⟨a1, a2, a3, a4, a5, a6⟩ := id hn
  obtain ⟨b1, b2, b3⟩ := id hO
  have a2 : M 11 s = sn := a2
  have a3 : M 12 s = ac := a3
  have a5 : M 14 s = tr := a5
  have s8 : sn < 8 := a2 ▸ hM 11 s
  have c8 : ac < 8 := a3 ▸ hM 12 s
  have h3 : ds ac sn ≤ 3 := h3
  have h4 : ds ac sn ≤ O.2 := h4
  have h5 : tr < 4 := h5
  have hu : mUn M s = ds ac sn := by unfold mUn; rw [a2, a3]
  by_cases hc : mUn M s < ds (M 12 s) ak
  · have e1 : mConf M s ak = M := if_pos hc
    have e2 : sConf sn ac ak tr O = (ac, tr, O) := if_neg (by rw [hu, a3] at hc; omega)
    rw [e1, e2]
    exact ⟨⟨hM, ⟨hn, hO, hK, h3, h4, h5⟩, hL, hP⟩, rfl⟩
  · have e1 : mConf M s ak = mS (mS (mShR (O.2 - ds ac ak) (mS M 17 s (O.2 - ds ac ak)) (16 * s) (ds ac ak)) 12 s ak) 14 s (if 0 < ds ac ak then 0 else tr) := by
      rw [← a5, ← b1, ← a3]
      exact if_neg hc
    rw [hu, a3] at hc
    have hle : ds ac ak ≤ ds ac sn := by omega
    have lo : ∀ i, i < 18 → i ≠ 12 → i ≠ 14 → i ≠ 17 → mConf M s ak i = M i := fun i q1 q2 q3 q4 => by
      rw [e1, mS_ne q3, mS_ne q2, mShR_lo _ _ _ _ q1, mS_ne q4]
    have hkeep := sConf_keep (ak := ak) (tr := tr) (ac' := (sConf sn ac ak tr O).1) (tr' := (sConf sn ac ak tr O).2.1) (O' := (sConf sn ac ak tr O).2.2) hO.ok s8 c8 hk h4 rfl
    have hs2 : (sConf sn ac ak tr O).1 = ak ∧ (sConf sn ac ak tr O).2.1 = (if 0 < ds ac ak then 0 else tr) ∧ (sConf sn ac ak tr O).2.2.2 = O.2 - ds ac ak ∧ ∀ j, j < O.2 - ds ac ak → (sConf sn ac ak tr O).2.2.1 j = O.1 (ds ac ak + j) := by
      by_cases hz : 0 < ds ac ak
      · rw [show sConf sn ac ak tr O = (ak, 0, rDrop O (ds ac ak)) from if_pos ⟨hz, hle⟩, if_pos hz]
        exact ⟨rfl, rfl, rfl, fun j hj => rDrop_at hj⟩
      · have hz0 : ds ac ak = 0 := by omega
        rw [show sConf sn ac ak tr O = (ac, tr, O) from if_neg (by omega), if_neg hz, hz0]
        refine ⟨?_, rfl, rfl, fun j _ => by rw [Nat.zero_add]⟩
        show ac = ak
        unfold ds at hz0
        omega
    obtain ⟨g1, g2, g3, g4⟩ := hs2
    have ds3 : ds ak sn ≤ 3 := by rw [ds_sub c8 hk s8 hle]; omega
    refine ⟨⟨hM.conf s hk, ⟨⟨?_, ?_, ?_, ?_, ?_, ?_⟩, ⟨?_, ?_, fun j hj => ?_⟩, fun c hcc => (hK c hcc).of (fun i hi => mConf_hi hi), by rw [g1]; exact ds3, hkeep.2.2, ?_⟩, hL.of (fun i hi => lo i (by omega) (by omega) (by omega) (by omega)), hP.of (fun i hi => lo i (by omega) (by omega) (by omega) (by omega))⟩, lo 16 (by decide) (by decide) (by decide) (by decide)⟩
    · rw [lo 10 (by decide) (by decide) (by decide) (by decide)]; exact a1
    · rw [lo 11 (by decide) (by decide) (by decide) (by decide)]; exact a2
    · rw [e1, mS_ne (by decide), mS_same, va_up_self]; exact g1.symm
    · rw [lo 13 (by decide) (by decide) (by decide) (by decide)]; exact a4
    · rw [e1, mS_same, va_up_self]; exact g2.symm
    · rw [lo 15 (by decide) (by decide) (by decide) (by decide)]; exact a6
    · rw [e1, mS_ne (by decide), mS_ne (by decide), mShR_lo _ _ _ _ (by decide), mS_same, va_up_self]; exact g3.symm
    · rw [g3]; omega
    · rw [g3] at hj
      have f : ∀ i, 18 ≤ i → i < 23 → mConf M s ak i (16 * s + j) = M i (16 * s + (ds ac ak + j)) := fun i q1 q2 => by
        rw [e1, mS_ne (by omega), mS_ne (by omega), mShR_at _ _ _ _ q1 q2, if_pos (by omega), mS_ne (by omega)]
        congr 1
        omega
      rw [f 18 (by decide) (by decide), f 19 (by decide) (by decide), f 20 (by decide) (by decide), f 21 (by decide) (by decide), f 22 (by decide) (by decide), g4 j hj]
      exact b3 _ (by omega)
    · show (sConf sn ac ak tr O).2.1 < 4
      rw [g2]
      split
      · decide
      · exact h5
theorem mTk1_at {M : Nat → Nat → Nat} {f i : Nat} (h1 : 2 ≤ i) (h2 : i < 10) : mTk1 M f i = va_up (M i) f (M i (f + 1)) := by
  rcases (show i = 2 ∨ i = 3 ∨ i = 4 ∨ i = 5 ∨ i = 6 ∨ i = 7 ∨ i = 8 ∨ i = 9 by omega) with rfl | rfl | rfl | rfl | rfl | rfl | rfl | rfl <;> rfl
theorem mTkR_at : ∀ (k : Nat) (M : Nat → Nat → Nat) (f : Nat) {i : Nat} (_ : 2 ≤ i) (_ : i < 10) (j : Nat), mTkR k M f i j = if f ≤ j ∧ j < f + k then M i (j + 1) else M i j
  | 0, M, f, i, _, _, j => (if_neg (by omega)).symm
  | k + 1, M, f, i, h1, h2, j => by
    show mTkR k (mTk1 M f) (f + 1) i j = _
    rw [mTkR_at k (mTk1 M f) (f + 1) h1 h2 j, mTk1_at h1 h2]
    by_cases c : f + 1 ≤ j ∧ j < f + 1 + k
    · rw [if_pos c, if_pos (by omega), va_up_ne _ _ (by omega)]
    · rw [if_neg c]
      by_cases e : j = f
      · rw [e, va_up_self, if_pos (by omega)]
      · rw [va_up_ne _ _ e, if_neg (by omega)]
theorem mTkR_1 : ∀ (k : Nat) (M : Nat → Nat → Nat) (f : Nat), mTkR k M f 1 = M 1
  | 0, _, _ => rfl
  | k + 1, M, f => mTkR_1 k (mTk1 M f) (f + 1)
theorem RLn.take {M : Nat → Nat → Nat} {s : Nat} {L : Rw_} (h : RLn M s L) (h0 : 0 < L.2) : RLn (mTake M s) s (rDrop L 1) := by
  obtain ⟨h1, h2, h3⟩ := h
  refine ⟨?_, ?_, fun j hj => ?_⟩
  · unfold mTake
    rw [mTkR_1, mS_same, va_up_self, h1]
    rfl
  · show L.2 - 1 ≤ 12
    omega
  · have hj : j < L.2 - 1 := hj
    have f : ∀ i, 2 ≤ i → i < 10 → mTake M s i (12 * s + j) = M i (12 * s + (1 + j)) := fun i q1 q2 => by
      unfold mTake
      rw [mTkR_at _ _ _ q1 q2, if_pos (by omega), mS_ne (by omega)]
      congr 1
      omega
    rw [f 2 (by decide) (by decide), f 3 (by decide) (by decide), f 4 (by decide) (by decide), f 5 (by decide) (by decide), f 6 (by decide) (by decide), f 7 (by decide) (by decide), f 8 (by decide) (by decide), f 9 (by decide) (by decide), rDrop_at hj]
    exact h3 _ (by omega)
theorem RLn.takeO {M : Nat → Nat → Nat} {s t : Nat} (hs : s < 2) (ht : t < 2) (hst : t ≠ s) {L : Rw_} (h : RLn M t L) (hM : mOk M) : RLn (mTake M s) t L := by
  obtain ⟨h1, h2, h3⟩ := h
  have b : M 1 s < 13 := hM 1 s
  refine ⟨?_, h2, fun j hj => ?_⟩
  · unfold mTake
    rw [mTkR_1, mS_same, va_up_ne _ _ hst]
    exact h1
  · have f : ∀ i, 2 ≤ i → i < 10 → mTake M s i (12 * t + j) = M i (12 * t + j) := fun i q1 q2 => by
      unfold mTake
      rw [mTkR_at _ _ _ q1 q2, if_neg (by omega), mS_ne (by omega)]
    rw [f 2 (by decide) (by decide), f 3 (by decide) (by decide), f 4 (by decide) (by decide), f 5 (by decide) (by decide), f 6 (by decide) (by decide), f 7 (by decide) (by decide), f 8 (by decide) (by decide), f 9 (by decide) (by decide)]
    exact h3 _ hj
theorem RX.take {M : Nat → Nat → Nat} {s : Nat} (hs : s < 2) {n : Nm_} {O : Rw_} {K : Nat → Cn_} {L P : Rw_} (h : RX M s n O K L P) (h0 : 0 < L.2) : RX (mTake M s) s n O K (rDrop L 1) P := by
  obtain ⟨hM, ⟨hn, hO, hK, g3, g4, g5⟩, hL, hP⟩ := h
  exact ⟨hM.take s, ⟨hn.of (fun i a b => mTake_hi a), hO.of (fun i a b => mTake_hi (by omega)), fun c hc => (hK c hc).of (fun i hi => mTake_hi (by omega)), g3, g4, g5⟩, hL.take h0, RLn.takeO hs (by omega) (by omega) hP hM⟩
