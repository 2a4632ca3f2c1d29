/-! a frame is delivered, a timer expires; both stations together -/
theorem clean_of {M : Nat → Nat → Nat} {s : Nat} {O : Rw_} {K : Nat → Cn_} {L P : Rw_} (hM : mOk M) (hL : RLn M s L) (hP : RLn M (1 - s) P) {nl : Nat} (hnl : nl < 3) : RX (mS (mClean M s) 10 s nl) s (nl, 0, 0, 0, 0, 0) (rNone O) (kClean K) L P := by
  have e : ∀ i, i < 10 → mS (mClean M s) 10 s nl i = M i := fun i hi => (mS_ne (by omega)).trans (mClean_lo (by omega))
  obtain ⟨g1, g2, g3, g4, g5, g6⟩ := mClean_at (M := M) (s := s)
  refine ⟨(hM.clean s).set 10 hnl, ⟨⟨?_, ?_, ?_, ?_, ?_, ?_⟩, ⟨?_, Nat.zero_le _, fun j hj => absurd hj (Nat.not_lt_zero j)⟩, fun c hc => ?_, (by show ds 0 0 ≤ 3; decide), (by show ds 0 0 ≤ 0; decide), (by show 0 < 4; decide)⟩, hL.of e, hP.of e⟩
  · rw [mS_same, va_up_self]
  · rw [mS_ne (by decide), g1, va_up_self]
  · rw [mS_ne (by decide), g2, va_up_self]
  · rw [mS_ne (by decide), g3, va_up_self]
  · rw [mS_ne (by decide), g4, va_up_self]
  · rw [mS_ne (by decide), g5, va_up_self]
  · rw [mS_ne (by decide), g6, va_up_self]; rfl
  · obtain ⟨k1, k2, k3, k4, k5⟩ := mClean_ch (M := M) (s := s) hc
    exact RCn.new (by decide) (by rw [mS_ne (by decide)]; exact k1) (by rw [mS_ne (by decide)]; exact k2) (by rw [mS_ne (by decide)]; exact k3) (by rw [mS_ne (by decide)]; exact k4) (by rw [mS_ne (by decide)]; exact k5)
theorem deliv_rel {M : Nat → Nat → Nat} {s lk sn ac ex tr rj : Nat} {O : Rw_} {K : Nat → Cn_} {L P : Rw_} (hs : s < 2) (h : RX M s (lk, sn, ac, ex, tr, rj) O K L P) (h0 : 0 < L.2) :
    RX (mDeliv M s) s (sFrame s lk sn ac ex tr rj O K P (L.1 0)).1 (sFrame s lk sn ac ex tr rj O K P (L.1 0)).2.1 (sFrame s lk sn ac ex tr rj O K P (L.1 0)).2.2.1 (rDrop L 1) (sFrame s lk sn ac ex tr rj O K P (L.1 0)).2.2.2 := by
  obtain ⟨l1, l2, l3⟩ := h.2.2.1
  obtain ⟨q1, b0, b1, b2, b3, b4, b5, b6, b7, b8, b9⟩ := l3 0 h0
  rw [Nat.add_zero] at q1 b0 b1 b2 b3 b4 b5 b6 b7 b8 b9
  have hpk : pk5 (M 5 (12 * s)) (M 6 (12 * s)) (M 7 (12 * s)) (M 8 (12 * s)) (M 9 (12 * s)) < 2097152 := pk5_lt (by omega) (by omega) b6 b7 b8
  have f1 : fKind (L.1 0) = M 2 (12 * s) := by rw [q1]; exact fKind_fr (by omega) b2 b3 hpk
  have f2 : fNumb (L.1 0) = M 3 (12 * s) := by rw [q1]; exact fNumb_fr b2 b3 hpk
  have f3 : fAckn (L.1 0) = M 4 (12 * s) := by rw [q1]; exact fAckn_fr b3 hpk
  have f4 : fPack (L.1 0) = pk5 (M 5 (12 * s)) (M 6 (12 * s)) (M 7 (12 * s)) (M 8 (12 * s)) (M 9 (12 * s)) := by rw [q1]; exact fPack_fr hpk
  have pc : pChan (fPack (L.1 0)) = M 6 (12 * s) := by rw [f4]; exact pChan_pk (by omega) b6 b7 b8
  have hA : RX (mS (mTake M s) 16 s 0) s (lk, sn, ac, ex, tr, rj) O K (rDrop L 1) P := (h.take hs h0).set16 (by decide)
  have hA16 : mS (mTake M s) 16 s 0 16 s = 0 := by rw [mS_same, va_up_self]
  have a10 : mS (mTake M s) 16 s 0 10 s = lk := hA.num.1
  generalize hAe : mS (mTake M s) 16 s 0 = A at hA hA16 a10
  generalize hf : L.1 0 = f at f1 f2 f3 f4 pc ⊢
  by_cases k1 : M 2 (12 * s) = 1
  · rw [show mDeliv M s = mLink A s 1 by rw [mDeliv, hAe, if_pos (Or.inl k1), k1], show sFrame s lk sn ac ex tr rj O K P f = sHSet lk sn ac ex tr rj O K P from if_pos (f1.trans k1)]
    exact (link_rel hs hA).1
  by_cases k2 : M 2 (12 * s) = 2
  · rw [show mDeliv M s = mLink A s 2 by rw [mDeliv, hAe, if_pos (Or.inr k2), k2], show sFrame s lk sn ac ex tr rj O K P f = sHAgr lk sn ac ex tr rj O K P from (if_neg (by omega)).trans (if_pos (f1.trans k2))]
    exact (link_rel hs hA).2
  by_cases k3 : lk = 2
  · obtain ⟨hC, hC16⟩ := hA.conf (ak := M 4 (12 * s)) b3
    by_cases k4 : M 2 (12 * s) = 3
    · have e1 : mDeliv M s = mCarr (mConf A s (M 4 (12 * s))) s (M 3 (12 * s)) (M 5 (12 * s)) (M 6 (12 * s)) (M 7 (12 * s)) (M 8 (12 * s)) (M 9 (12 * s)) := by
        rw [mDeliv, hAe, if_neg (by omega), if_pos (a10.trans k3), if_pos k4]
      have e2 : sFrame s lk sn ac ex tr rj O K P f = sFrameC lk (sConf sn ac (M 4 (12 * s)) tr O) K (M 6 (12 * s)) (sCarr lk sn (sConf sn ac (M 4 (12 * s)) tr O).1 ex rj (sConf sn ac (M 4 (12 * s)) tr O).2.2 P s (K (M 6 (12 * s))) f) := by
        rw [sFrame, if_neg (by omega), if_neg (by omega), if_pos k3, if_pos (f1.trans k4), f3, pc]
      rw [e1, e2]
      exact carr_rel hs hC (by rw [hC16]; exact hA16) b5 (b9 k4) b4 b6 b7 b8 f2 f4
    · by_cases k5 : M 2 (12 * s) = 5
      · have e1 : mDeliv M s = mPump 4 (mAgain (mConf A s (M 4 (12 * s))) s) s := by
          rw [mDeliv, hAe, if_neg (by omega), if_pos (a10.trans k3), if_neg k4, if_pos k5]
        have e2 : sFrame s lk sn ac ex tr rj O K P f = sFrameP lk ex rj (sConf sn ac (M 4 (12 * s)) tr O) K (cPump lk sn (sConf sn ac (M 4 (12 * s)) tr O).1 ex (sConf sn ac (M 4 (12 * s)) tr O).2.2 (cAgain sn (sConf sn ac (M 4 (12 * s)) tr O).1 ex (sConf sn ac (M 4 (12 * s)) tr O).2.2 P)) := by
          rw [sFrame, if_neg (by omega), if_neg (by omega), if_pos k3, if_neg (by omega), if_pos (f1.trans k5), f3]
        rw [e1, e2]
        exact ((hC.again hs).pump hs).1
      · have e1 : mDeliv M s = mPump 4 (mConf A s (M 4 (12 * s))) s := by
          rw [mDeliv, hAe, if_neg (by omega), if_pos (a10.trans k3), if_neg k4, if_neg k5]
        have e2 : sFrame s lk sn ac ex tr rj O K P f = sFrameP lk ex rj (sConf sn ac (M 4 (12 * s)) tr O) K (cPump lk sn (sConf sn ac (M 4 (12 * s)) tr O).1 ex (sConf sn ac (M 4 (12 * s)) tr O).2.2 P) := by
          rw [sFrame, if_neg (by omega), if_neg (by omega), if_pos k3, if_neg (by omega), if_neg (by omega), f3]
        rw [e1, e2]
        exact (hC.pump hs).1
  · have e1 : mDeliv M s = A := by rw [mDeliv, hAe, if_neg (by omega), if_neg (by rw [a10]; exact k3)]
    have e2 : sFrame s lk sn ac ex tr rj O K P f = ((lk, sn, ac, ex, tr, rj), O, K, P) := by rw [sFrame, if_neg (by omega), if_neg (by omega), if_neg k3]
    rw [e1, e2]
    exact hA
theorem RX.setTr {M : Nat → Nat → Nat} {s lk sn ac ex tr rj : Nat} {O : Rw_} {K : Nat → Cn_} {L P : Rw_} (h : RX M s (lk, sn, ac, ex, tr, rj) O K L P) {x : Nat} (hx : x < 4) : RX (mS M 14 s x) s (lk, sn, ac, ex, x, rj) O K L P := by
  obtain ⟨hM, ⟨⟨a1, a2, a3, a4, a5, a6⟩, hO, hK, g3, g4, g5⟩, hL, hP⟩ := h
  exact ⟨hM.set 14 (show x < 5 by omega), ⟨⟨by rw [mS_ne (by decide)]; exact a1, by rw [mS_ne (by decide)]; exact a2, by rw [mS_ne (by decide)]; exact a3, by rw [mS_ne (by decide)]; exact a4, by rw [mS_same, va_up_self], by rw [mS_ne (by decide)]; exact a6⟩, hO.of (fun i a b => mS_ne (by omega)), fun c hc => (hK c hc).of (fun i hi => mS_ne (by omega)), g3, g4, hx⟩, hL.of (fun i hi => mS_ne (by omega)), hP.of (fun i hi => mS_ne (by omega))⟩
theorem RX.setLk {M : Nat → Nat → Nat} {s lk sn ac ex tr rj : Nat} {O : Rw_} {K : Nat → Cn_} {L P : Rw_} (h : RX M s (lk, sn, ac, ex, tr, rj) O K L P) {x : Nat} (hx : x < 3) : RX (mS M 10 s x) s (x, sn, ac, ex, tr, rj) O K L P := by
  obtain ⟨hM, ⟨⟨a1, a2, a3, a4, a5, a6⟩, hO, hK, g3, g4, g5⟩, hL, hP⟩ := h
  exact ⟨hM.set 10 hx, ⟨⟨by rw [mS_same, va_up_self], by rw [mS_ne (by decide)]; exact a2, by rw [mS_ne (by decide)]; exact a3, by rw [mS_ne (by decide)]; exact a4, by rw [mS_ne (by decide)]; exact a5, by rw [mS_ne (by decide)]; exact a6⟩, hO.of (fun i a b => mS_ne (by omega)), fun c hc => (hK c hc).of (fun i hi => mS_ne (by omega)), g3, g4, g5⟩, hL.of (fun i hi => mS_ne (by omega)), hP.of (fun i hi => mS_ne (by omega))⟩
theorem exp_rel {M : Nat → Nat → Nat} {s lk sn ac ex tr rj : Nat} {O : Rw_} {K : Nat → Cn_} {L P : Rw_} (hs : s < 2) (h : RX M s (lk, sn, ac, ex, tr, rj) O K L P) :
    RX (mExp M s) s (sTry lk sn ac ex tr rj O K P).1 (sTry lk sn ac ex tr rj O K P).2.1 (sTry lk sn ac ex tr rj O K P).2.2.1 L (sTry lk sn ac ex tr rj O K P).2.2.2 := by
  obtain ⟨a1, -, -, -, a5, -⟩ := h.num
  have t4 : tr < 4 := h.2.1.2.2.2.2.2
  by_cases q : tr + 1 = 4
  · by_cases q1 : lk = 1
    · have e1 : mExp M s = mS (mS (mS M 14 s (tr + 1)) 10 s 0) 14 s 0 := by rw [mExp, a5, a1, if_pos q, if_pos q1]
      have e2 : sTry lk sn ac ex tr rj O K P = ((0, sn, ac, ex, 0, rj), O, K, P) := by rw [sTry, if_pos (by omega), if_pos q1]
      have e3 : mS (mS (mS M 14 s (tr + 1)) 10 s 0) 14 s 0 = mS (mS M 10 s 0) 14 s 0 := by
        funext i j
        by_cases z : i = 14
        · subst z
          rw [mS_same, mS_same]
          by_cases y : j = s
          · rw [y, va_up_self, va_up_self]
          · rw [va_up_ne _ _ y, va_up_ne _ _ y, mS_ne (by decide), mS_at (Or.inr y), mS_ne (by decide)]
        · rw [mS_ne z, mS_ne z]
          by_cases y : i = 10
          · subst y
            rw [mS_same, mS_same]
            by_cases x : j = s
            · rw [x, va_up_self, va_up_self]
            · rw [va_up_ne _ _ x, va_up_ne _ _ x, mS_ne (by decide)]
          · rw [mS_ne y, mS_ne y, mS_ne z]
      rw [e1, e2, e3]
      exact (h.setLk (by decide)).setTr (by decide)
    · have e1 : mExp M s = mSetUp (mS M 14 s (tr + 1)) s := by rw [mExp, a5, a1, if_pos q, if_neg q1]
      have e2 : sTry lk sn ac ex tr rj O K P = sSetUp O K P := by rw [sTry, if_pos (by omega), if_neg q1]
      rw [e1, e2]
      exact (clean_of (nl := 1) (h.1.set 14 (show tr + 1 < 5 by omega)) (h.2.2.1.of (fun i hi => mS_ne (by omega))) (h.2.2.2.of (fun i hi => mS_ne (by omega))) (by decide)).trN hs (by decide) (by decide) (by decide) (by decide)
  · have h1 := h.setTr (x := tr + 1) (by omega)
    by_cases q1 : lk = 1
    · have e1 : mExp M s = mTrN (mS M 14 s (tr + 1)) s 1 0 0 := by rw [mExp, a5, a1, if_neg q, if_pos q1]
      have e2 : sTry lk sn ac ex tr rj O K P = ((lk, sn, ac, ex, tr + 1, rj), O, K, rAdd 12 P (fr4 1 0 0 0)) := by rw [sTry, if_neg (by omega), if_pos q1]
      rw [e1, e2]
      exact h1.trN hs (by decide) (by decide) (by decide) (by decide)
    · have e1 : mExp M s = mAgain (mS M 14 s (tr + 1)) s := by rw [mExp, a5, a1, if_neg q, if_neg q1]
      have e2 : sTry lk sn ac ex tr rj O K P = ((lk, sn, ac, ex, tr + 1, rj), O, K, cAgain sn ac ex O P) := by rw [sTry, if_neg (by omega), if_neg q1]
      rw [e1, e2]
      exact h1.again hs
/-- the class's state: a station's numbers, OUT, channels, its line -/
abbrev CS_ : Type := (Nat → Nm_) × (Nat → Rw_) × (Nat → Nat → Cn_) × (Nat → Rw_)
def RR (C : CS_) (M : Nat → Nat → Nat) : Prop := mOk M ∧ (∀ s, s < 2 → RS M s (C.1 s) (C.2.1 s) (C.2.2.1 s)) ∧ ∀ s, s < 2 → RLn M s (C.2.2.2 s)
theorem RR.rx {C : CS_} {M : Nat → Nat → Nat} (h : RR C M) {s : Nat} (hs : s < 2) : RX M s (C.1 s) (C.2.1 s) (C.2.2.1 s) (C.2.2.2 s) (C.2.2.2 (1 - s)) := ⟨h.1, h.2.1 s hs, h.2.2 s hs, h.2.2 (1 - s) (by omega)⟩
def stp (C : CS_) (s : Nat) (n : Nm_) (O : Rw_) (K : Nat → Cn_) (L P : Rw_) : CS_ := (va_up C.1 s n, va_up C.2.1 s O, va_up C.2.2.1 s K, va_up (va_up C.2.2.2 s L) (1 - s) P)
theorem RR.step {C : CS_} {M M' : Nat → Nat → Nat} (h : RR C M) {s : Nat} (hs : s < 2) (k : Keep s M M') {n : Nm_} {O : Rw_} {K : Nat → Cn_} {L P : Rw_} (h' : RX M' s n O K L P) : RR (stp C s n O K L P) M' := by
  refine ⟨h'.1, fun t ht => ?_, fun t ht => ?_⟩
  · show RS M' t (va_up C.1 s n t) (va_up C.2.1 s O t) (va_up C.2.2.1 s K t)
    by_cases e : t = s
    · subst e
      rw [va_up_self, va_up_self, va_up_self]
      exact h'.2.1
    · rw [va_up_ne _ _ e, va_up_ne _ _ e, va_up_ne _ _ e]
      exact RS.other hs ht e (h.2.1 t ht) k
  · show RLn M' t (va_up (va_up C.2.2.2 s L) (1 - s) P t)
    by_cases e : t = s
    · subst e
      rw [va_up_ne _ _ (by omega), va_up_self]
      exact h'.2.2.1
    · have e2 : t = 1 - s := by omega
      subst e2
      rw [va_up_self]
      exact h'.2.2.2
theorem Keep.move {s c kd nb ak v : Nat} {A B : Nat → Nat → Nat} (h : Keep s A B) (hc : c < 3) (hd : ds (B 27 (3 * s + c)) (B 26 (3 * s + c)) ≤ 2) : Keep s A (mMove B s c kd nb ak v) := by
  have fault : ∀ {X : Nat → Nat → Nat}, Keep s A X → Keep s A (mFault X s c) := fun g => ((g.renew hc).set (Or.inr (own_c (by decide) (by decide) hc))).post
  unfold mMove
  split
  · exact fault h
  · split
    · exact fault (h.set (Or.inr (own_c (by decide) (by decide) hc)))
    next q =>
      split
      next q2 =>
        refine ((h.set (Or.inr (own_c (by decide) (by decide) hc))).set (Or.inr (Or.inr (Or.inr (Or.inr ⟨rfl, by omega, ?_⟩))))).set (Or.inr (own_c (by decide) (by decide) hc))
        have : ds (B 27 (3 * s + c)) (B 26 (3 * s + c)) ≠ 2 := fun z => q ⟨q2, Or.inr z⟩
        omega
      · exact h.set (Or.inr (own_c (by decide) (by decide) hc))
theorem Keep.hear {s c kd nb ak v : Nat} {A B : Nat → Nat → Nat} (h : Keep s A B) (hc : c < 3) (hd : ds (B 27 (3 * s + c)) (B 26 (3 * s + c)) ≤ 2) : Keep s A (mHear B s c kd nb ak v) := by
  have o : ∀ {i}, 23 ≤ i → i < 28 → own s i (3 * s + c) := fun a b => own_c a b hc
  unfold mHear
  split
  · exact h.set (Or.inr (o (by decide) (by decide)))
  split
  · split
    · exact (h.renew hc).set (Or.inr (o (by decide) (by decide)))
    · exact h
  split
  · split
    · exact h
    · split
      · exact h.idle hc
      · exact (h.idle hc).post
  split
  · split
    · exact h.idle hc
    · exact h
  split
  · split
    · exact ((h.renew hc).set (Or.inr (o (by decide) (by decide)))).post
    · split
      · exact (h.renew hc).set (Or.inr (o (by decide) (by decide)))
      · exact h
  split
  · exact h.set (Or.inr (o (by decide) (by decide)))
  split
  · exact h.move hc hd
  · exact h
theorem Keep.setUp {s : Nat} {A B : Nat → Nat → Nat} (h : Keep s A B) : Keep s A (mSetUp B s) := Keep.mtr (h.clean.set (Or.inr (own_n (by decide) (by decide))))
theorem Keep.ready {s : Nat} {A B : Nat → Nat → Nat} (h : Keep s A B) : Keep s A (mReady B s) := by
  unfold mReady
  split
  · split
    · exact Keep.mtr (Keep.pump 4 h)
    · exact Keep.pump 4 h
  · exact h
theorem Keep.carr {s nb kd c n a v : Nat} {A B : Nat → Nat → Nat} (h : Keep s A B) (hc : c < 3) (hd : ds (B 27 (3 * s + c)) (B 26 (3 * s + c)) ≤ 2) : Keep s A (mCarr B s nb kd c n a v) := by
  unfold mCarr
  split
  · refine (Keep.hear ((h.set (i := 13) (Or.inr (own_n (by decide) (by decide)))).set (i := 15) (Or.inr (own_n (by decide) (by decide)))) hc ?_).ready
    rw [mS_ne (by decide), mS_ne (by decide), mS_ne (by decide), mS_ne (by decide)]
    exact hd
  · split
    · exact Keep.mtr (h.set (Or.inr (own_n (by decide) (by decide))))
    · exact h
theorem Keep.link {s kd : Nat} {A B : Nat → Nat → Nat} (h : Keep s A B) : Keep s A (mLink B s kd) := by
  unfold mLink
  split
  · refine Keep.mtr ?_
    split
    · exact h
    · exact h.clean.set (Or.inr (own_n (by decide) (by decide)))
  · split
    · exact h.clean.set (Or.inr (own_n (by decide) (by decide)))
    · split
      · exact h.setUp
      · exact h
theorem Keep.conf {s ak : Nat} {A B : Nat → Nat → Nat} (h : Keep s A B) (hM : mOk B) : Keep s A (mConf B s ak) := by
  have b : B 17 s < 17 := hM 17 s
  unfold mConf
  split
  · exact h
  · exact ((Keep.shR _ (h.set (Or.inr (own_n (by decide) (by decide)))) (Nat.le_refl _) (by omega)).set (Or.inr (own_n (by decide) (by decide)))).set (Or.inr (own_n (by decide) (by decide)))
theorem Keep.take {s : Nat} {M : Nat → Nat → Nat} : Keep s M (mTake M s) := fun i j h1 h2 => by rw [mTake_hi h1]
theorem Keep.deliv {s : Nat} {M : Nat → Nat → Nat} (hM : mOk M) (hc : M 6 (12 * s) < 3) (hd : ∀ k, k < 6 → ds (M 27 k) (M 26 k) ≤ 2) (hs : s < 2) : Keep s M (mDeliv M s) := by
  have hA : Keep s M (mS (mTake M s) 16 s 0) := Keep.take.set (Or.inr (own16 s))
  have mA : mOk (mS (mTake M s) 16 s 0) := (hM.take s).set 16 (show 0 < 2 by decide)
  unfold mDeliv
  split
  · exact hA.link
  · split
    · split
      · refine (hA.conf mA).carr hc ?_
        rw [mConf_hi (by decide), mConf_hi (by decide), mS_ne (by decide), mS_ne (by decide), mTake_hi (by decide), mTake_hi (by decide)]
        exact hd _ (by omega)
      · split
        · exact Keep.pump 4 (Keep.agR _ (hA.conf mA))
        · exact Keep.pump 4 (hA.conf mA)
    · exact hA
theorem Keep.exp {s : Nat} {M : Nat → Nat → Nat} : Keep s M (mExp M s) := by
  have h : Keep s M (mS M 14 s (M 14 s + 1)) := Keep.rf.set (Or.inr (own_n (by decide) (by decide)))
  unfold mExp
  split
  · split
    · exact (h.set (Or.inr (own_n (by decide) (by decide)))).set (Or.inr (own_n (by decide) (by decide)))
    · exact h.setUp
  · split
    · exact Keep.mtr h
    · exact Keep.agR _ h
