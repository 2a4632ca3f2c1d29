/-! hearing a packet, a CARRIER, a frame of the link, any frame -/
theorem hear_rel {M : Nat → Nat → Nat} {s lk sn ac ex tr rj : Nat} {O : Rw_} {K : Nat → Cn_} {L P : Rw_} (hs : s < 2) (h : RX M s (lk, sn, ac, ex, tr, rj) O K L P) {c kd nb ak v : Nat} (hc : c < 3) (hk0 : 0 < kd) (hk9 : kd < 9) (hnb : nb < 8) (hak : ak < 8) (hv : v < 512) :
    RX (mHear M s c kd nb ak v) s (lk, (sHear lk sn ac ex O P (kAns s (K c) (pk5 kd c nb ak v)).1 c).1, ac, ex, tr, rj) (sHear lk sn ac ex O P (kAns s (K c) (pk5 kd c nb ak v)).1 c).2.1 (va_up K c (kAns s (K c) (pk5 kd c nb ak v)).2) L (sHear lk sn ac ex O P (kAns s (K c) (pk5 kd c nb ak v)).1 c).2.2 ∧
      Flag M (mHear M s c kd nb ak v) s sn (sHear lk sn ac ex O P (kAns s (K c) (pk5 kd c nb ak v)).1 c).1 := by
  have p1 : pKind (pk5 kd c nb ak v) = kd := pKind_pk (by omega) (by omega) hnb hak hv
  have p2 : pNumb (pk5 kd c nb ak v) = nb := pNumb_pk hnb hak hv
  have p3 : pAckn (pk5 kd c nb ak v) = ak := pAckn_pk hak hv
  have p4 : pData (pk5 kd c nb ak v) = v := pData_pk hv
  obtain ⟨st, nx, pa, du, ta, r, hKc⟩ : ∃ st nx pa du ta r, K c = (st, nx, pa, du, ta, r) := ⟨_, _, _, _, _, _, rfl⟩
  have hcn := h.2.1.2.2.1 c hc
  have k1 : M 23 (3 * s + c) = st := by have := hcn.1; rw [hKc] at this; exact this
  have st6 : st < 6 := k1 ▸ h.1 23 _
  have hz : st ≠ 3 → RCn M (3 * s + c) (cNew st r) := fun z => by
    obtain ⟨q1, q2, q3, q4, q5, -, -, -, -, q6, -⟩ := hcn
    rw [hKc] at q1 q2 q3 q4 q5 q6
    obtain ⟨z1, z2, z3, z4⟩ := q6 z
    exact RCn.new st6 q1 (q2.trans z1) (q3.trans z2) (q4.trans z3) (q5.trans z4)
  have hid : va_up K c (st, nx, pa, du, ta, r) = K := by rw [← hKc]; exact va_up_id
  have hK1 : (K c).1 = st := by rw [hKc]
  have eA : kAns s (K c) (pk5 kd c nb ak v) = cAns s st nx pa du ta r (pk5 kd c nb ak v) := by rw [hKc]; rfl
  rw [eA]
  generalize hp : pk5 kd c nb ak v = p at p1 p2 p3 p4 ⊢
  rcases (show kd = 1 ∨ kd = 2 ∨ kd = 3 ∨ kd = 4 ∨ (kd = 5 ∨ kd = 6) ∨ kd = 7 ∨ kd = 8 by omega) with e | e | e | e | e | e | e
  · -- CALL
    by_cases q : st = 0 ∨ (st = 1 ∧ s = 1)
    · have e1 : mHear M s c kd nb ak v = mS M 23 (3 * s + c) 2 := by rw [mHear, if_pos e, if_pos (by rw [k1]; exact q)]
      have e2 : cAns s st nx pa du ta r p = (0, cNew 2 r) := by rw [cAns, if_pos (by omega), if_pos (by omega)]
      rw [e1, e2]
      exact RX.quiet (h.state hc (by decide) (by rw [hK1]; omega) r) (mS_ne (by decide))
    · have e1 : mHear M s c kd nb ak v = M := by rw [mHear, if_pos e, if_neg (by rw [k1]; exact q), mS_id]
      have e2 : cAns s st nx pa du ta r p = (0, st, nx, pa, du, ta, r) := by rw [cAns, if_pos (by omega), if_neg (by omega)]
      rw [e1, e2]
      show RX M s _ _ (va_up K c (st, nx, pa, du, ta, r)) L _ ∧ _
      rw [hid]
      exact RX.quiet h rfl
  · -- ACCEPT
    by_cases q : st = 1
    · have e1 : mHear M s c kd nb ak v = mS (mRenew M (3 * s + c)) 23 (3 * s + c) 3 := by rw [mHear, if_neg (by omega), if_pos e, if_pos (by rw [k1]; exact q)]
      have e2 : cAns s st nx pa du ta r p = (0, cNew 3 r) := by rw [cAns, if_neg (by omega), if_pos (by omega), if_pos q]
      rw [e1, e2]
      exact RX.quiet (h.renew hc (by decide) r) ((mS_ne (by decide)).trans (mRenew_lo (by decide)))
    · have e1 : mHear M s c kd nb ak v = M := by rw [mHear, if_neg (by omega), if_pos e, if_neg (by rw [k1]; exact q)]
      have e2 : cAns s st nx pa du ta r p = (0, st, nx, pa, du, ta, r) := by rw [cAns, if_neg (by omega), if_pos (by omega), if_neg q]
      rw [e1, e2]
      show RX M s _ _ (va_up K c (st, nx, pa, du, ta, r)) L _ ∧ _
      rw [hid]
      exact RX.quiet h rfl
  · -- CLEAR
    by_cases q : st = 0
    · have e1 : mHear M s c kd nb ak v = M := by rw [mHear, if_neg (by omega), if_neg (by omega), if_pos e, if_pos (by rw [k1]; exact q)]
      have e2 : cAns s st nx pa du ta r p = (0, cNew 0 r) := by rw [cAns, if_neg (by omega), if_neg (by omega), if_pos (by omega), if_neg (by omega)]
      rw [e1, e2]
      exact RX.quiet (h.same hc (by rw [q] at hz; exact hz (by decide))) rfl
    · by_cases q4 : st = 4
      · have e1 : mHear M s c kd nb ak v = mIdle M (3 * s + c) := by rw [mHear, if_neg (by omega), if_neg (by omega), if_pos e, if_neg (by rw [k1]; exact q), if_pos (by rw [k1]; exact q4)]
        have e2 : cAns s st nx pa du ta r p = (0, cNew 0 r) := by rw [cAns, if_neg (by omega), if_neg (by omega), if_pos (by omega), if_neg (by omega)]
        rw [e1, e2]
        exact RX.quiet (h.idle hc r) (mIdle_lo (by decide))
      · have e1 : mHear M s c kd nb ak v = mPost (mIdle M (3 * s + c)) s 4 c 0 0 0 := by rw [mHear, if_neg (by omega), if_neg (by omega), if_pos e, if_neg (by rw [k1]; exact q), if_neg (by rw [k1]; exact q4)]
        have e2 : cAns s st nx pa du ta r p = (4, cNew 0 r) := by rw [cAns, if_neg (by omega), if_neg (by omega), if_pos (by omega), if_pos ⟨q, q4⟩]
        rw [e1, e2]
        obtain ⟨a, b⟩ := (h.idle hc r).answer hs (rk := 4) (by decide) (by decide) hc
        exact ⟨a, b.of (mIdle_lo (by decide))⟩
  · -- CLEARED
    by_cases q : st = 4
    · have e1 : mHear M s c kd nb ak v = mIdle M (3 * s + c) := by rw [mHear, if_neg (by omega), if_neg (by omega), if_neg (by omega), if_pos e, if_pos (by rw [k1]; exact q)]
      have e2 : cAns s st nx pa du ta r p = (0, cNew 0 r) := by rw [cAns, if_neg (by omega), if_neg (by omega), if_neg (by omega), if_pos (by omega), if_pos q]
      rw [e1, e2]
      exact RX.quiet (h.idle hc r) (mIdle_lo (by decide))
    · have e1 : mHear M s c kd nb ak v = M := by rw [mHear, if_neg (by omega), if_neg (by omega), if_neg (by omega), if_pos e, if_neg (by rw [k1]; exact q)]
      have e2 : cAns s st nx pa du ta r p = (0, st, nx, pa, du, ta, r) := by rw [cAns, if_neg (by omega), if_neg (by omega), if_neg (by omega), if_pos (by omega), if_neg q]
      rw [e1, e2]
      show RX M s _ _ (va_up K c (st, nx, pa, du, ta, r)) L _ ∧ _
      rw [hid]
      exact RX.quiet h rfl
  · -- DATA, MOVE
    have e2 : cAns s st nx pa du ta r p = cFlow st nx pa du ta r p := by rw [cAns, if_neg (by omega), if_neg (by omega), if_neg (by omega), if_neg (by omega), if_pos (by omega)]
    rw [e2]
    by_cases q : st = 3
    · have e1 : mHear M s c kd nb ak v = mMove M s c kd nb ak v := by rw [mHear, if_neg (by omega), if_neg (by omega), if_neg (by omega), if_neg (by omega), if_neg (by omega), if_neg (by omega), if_pos (by rw [k1]; exact q)]
      rw [e1]
      exact move_rel hs h hc e hnb hak hv hKc q p1 p2 p3 p4
    · have e1 : mHear M s c kd nb ak v = M := by rw [mHear, if_neg (by omega), if_neg (by omega), if_neg (by omega), if_neg (by omega), if_neg (by omega), if_neg (by omega), if_neg (by rw [k1]; exact q)]
      have e3 : cFlow st nx pa du ta r p = (0, st, nx, pa, du, ta, r) := if_pos q
      rw [e1, e3]
      show RX M s _ _ (va_up K c (st, nx, pa, du, ta, r)) L _ ∧ _
      rw [hid]
      exact RX.quiet h rfl
  · -- RESET
    by_cases q : st = 3
    · have e1 : mHear M s c kd nb ak v = mPost (mS (mRenew M (3 * s + c)) 23 (3 * s + c) 3) s 8 c 0 0 0 := by rw [mHear, if_neg (by omega), if_neg (by omega), if_neg (by omega), if_neg (by omega), if_pos e, if_pos (by rw [k1]; exact q)]
      have e2 : cAns s st nx pa du ta r p = (8, cNew 3 r) := by rw [cAns, if_neg (by omega), if_neg (by omega), if_neg (by omega), if_neg (by omega), if_neg (by omega), if_pos (by omega), if_pos q]
      rw [e1, e2]
      obtain ⟨a, b⟩ := (h.renew hc (show 3 < 6 by decide) r).answer hs (rk := 8) (by decide) (by decide) hc
      exact ⟨a, b.of ((mS_ne (by decide)).trans (mRenew_lo (by decide)))⟩
    · by_cases q5 : st = 5
      · have e1 : mHear M s c kd nb ak v = mS (mRenew M (3 * s + c)) 23 (3 * s + c) 3 := by rw [mHear, if_neg (by omega), if_neg (by omega), if_neg (by omega), if_neg (by omega), if_pos e, if_neg (by rw [k1]; exact q), if_pos (by rw [k1]; exact q5)]
        have e2 : cAns s st nx pa du ta r p = (0, cNew 3 r) := by rw [cAns, if_neg (by omega), if_neg (by omega), if_neg (by omega), if_neg (by omega), if_neg (by omega), if_pos (by omega), if_neg q, if_pos q5]
        rw [e1, e2]
        exact RX.quiet (h.renew hc (by decide) r) ((mS_ne (by decide)).trans (mRenew_lo (by decide)))
      · have e1 : mHear M s c kd nb ak v = M := by rw [mHear, if_neg (by omega), if_neg (by omega), if_neg (by omega), if_neg (by omega), if_pos e, if_neg (by rw [k1]; exact q), if_neg (by rw [k1]; exact q5)]
        have e2 : cAns s st nx pa du ta r p = (0, st, nx, pa, du, ta, r) := by rw [cAns, if_neg (by omega), if_neg (by omega), if_neg (by omega), if_neg (by omega), if_neg (by omega), if_pos (by omega), if_neg q, if_neg q5]
        rw [e1, e2]
        show RX M s _ _ (va_up K c (st, nx, pa, du, ta, r)) L _ ∧ _
        rw [hid]
        exact RX.quiet h rfl
  · -- RENEWED
    by_cases q : st = 5
    · have e1 : mHear M s c kd nb ak v = mS M 23 (3 * s + c) 3 := by rw [mHear, if_neg (by omega), if_neg (by omega), if_neg (by omega), if_neg (by omega), if_neg (by omega), if_pos e, if_pos (by rw [k1]; exact q)]
      have e2 : cAns s st nx pa du ta r p = (0, cNew 3 r) := by rw [cAns, if_neg (by omega), if_neg (by omega), if_neg (by omega), if_neg (by omega), if_neg (by omega), if_neg (by omega), if_pos (by omega), if_pos q]
      rw [e1, e2]
      exact RX.quiet (h.state hc (by decide) (by rw [hK1]; omega) r) (mS_ne (by decide))
    · have e1 : mHear M s c kd nb ak v = M := by rw [mHear, if_neg (by omega), if_neg (by omega), if_neg (by omega), if_neg (by omega), if_neg (by omega), if_pos e, if_neg (by rw [k1]; exact q), mS_id]
      have e2 : cAns s st nx pa du ta r p = (0, st, nx, pa, du, ta, r) := by rw [cAns, if_neg (by omega), if_neg (by omega), if_neg (by omega), if_neg (by omega), if_neg (by omega), if_neg (by omega), if_pos (by omega), if_neg q]
      rw [e1, e2]
      show RX M s _ _ (va_up K c (st, nx, pa, du, ta, r)) L _ ∧ _
      rw [hid]
      exact RX.quiet h rfl
theorem RX.num {M : Nat → Nat → Nat} {s lk sn ac ex tr rj : Nat} {O : Rw_} {K : Nat → Cn_} {L P : Rw_} (h : RX M s (lk, sn, ac, ex, tr, rj) O K L P) : M 10 s = lk ∧ M 11 s = sn ∧ M 12 s = ac ∧ M 13 s = ex ∧ M 14 s = tr ∧ M 15 s = rj := h.2.1.1
/-- expected and rejected are set -/
theorem RX.setEx {M : Nat → Nat → Nat} {s lk sn ac ex tr rj : Nat} {O : Rw_} {K : Nat → Cn_} {L P : Rw_} (h : RX M s (lk, sn, ac, ex, tr, rj) O K L P) {x : Nat} (hx : x < 8) : RX (mS M 13 s x) s (lk, sn, ac, x, tr, rj) O K L P := by
  obtain ⟨hM, ⟨⟨a1, a2, a3, a4, a5, a6⟩, hO, hK, g3, g4, g5⟩, hL, hP⟩ := h
  exact ⟨hM.set 13 hx, ⟨⟨by rw [mS_ne (by decide)]; exact a1, by rw [mS_ne (by decide)]; exact a2, by rw [mS_ne (by decide)]; exact a3, by rw [mS_same, va_up_self], by rw [mS_ne (by decide)]; exact a5, by rw [mS_ne (by decide)]; exact a6⟩, hO.of (fun i a b => mS_ne (by omega)), fun c hc => (hK c hc).of (fun i hi => mS_ne (by omega)), g3, g4, g5⟩, hL.of (fun i hi => mS_ne (by omega)), hP.of (fun i hi => mS_ne (by omega))⟩
theorem RX.setRj {M : Nat → Nat → Nat} {s lk sn ac ex tr rj : Nat} {O : Rw_} {K : Nat → Cn_} {L P : Rw_} (h : RX M s (lk, sn, ac, ex, tr, rj) O K L P) {x : Nat} (hx : x < 2) : RX (mS M 15 s x) s (lk, sn, ac, ex, tr, x) O K L P := by
  obtain ⟨hM, ⟨⟨a1, a2, a3, a4, a5, a6⟩, hO, hK, g3, g4, g5⟩, hL, hP⟩ := h
  exact ⟨hM.set 15 hx, ⟨⟨by rw [mS_ne (by decide)]; exact a1, by rw [mS_ne (by decide)]; exact a2, by rw [mS_ne (by decide)]; exact a3, by rw [mS_ne (by decide)]; exact a4, by rw [mS_ne (by decide)]; exact a5, by rw [mS_same, va_up_self]⟩, hO.of (fun i a b => mS_ne (by omega)), fun c hc => (hK c hc).of (fun i hi => mS_ne (by omega)), g3, g4, g5⟩, hL.of (fun i hi => mS_ne (by omega)), hP.of (fun i hi => mS_ne (by omega))⟩
theorem RX.set16 {M : Nat → Nat → Nat} {s x : Nat} {n : Nm_} {O : Rw_} {K : Nat → Cn_} {L P : Rw_} (h : RX M s n O K L P) (hx : x < 2) : RX (mS M 16 s x) s n O K L P := by
  obtain ⟨hM, ⟨hn, hO, hK, g3, g4, g5⟩, hL, hP⟩ := h
  exact ⟨hM.set 16 hx, ⟨hn.of (fun i a b => mS_ne (by omega)), hO.of (fun i a b => mS_ne (by omega)), fun c hc => (hK c hc).of (fun i hi => mS_ne (by omega)), g3, g4, g5⟩, hL.of (fun i hi => mS_ne (by omega)), hP.of (fun i hi => mS_ne (by omega))⟩
theorem ready_rel {M : Nat → Nat → Nat} {s lk sn0 sn ac ex tr rj : Nat} {O : Rw_} {K : Nat → Cn_} {L P : Rw_} (hs : s < 2) (h : RX M s (lk, sn, ac, ex, tr, rj) O K L P) (hf : M 16 s = if sn = sn0 then 0 else 1) :
    RX (mReady M s) s (lk, (sReady lk sn0 sn ac ex O P).1, ac, ex, tr, rj) O K L (sReady lk sn0 sn ac ex O P).2 := by
  by_cases q : sn = sn0
  · rw [if_pos q] at hf
    obtain ⟨h1, h2⟩ := h.pump hs
    have e13 : mPump 4 M s 13 s = ex := h1.num.2.2.2.1
    have e8 : ex < 8 := e13 ▸ h1.1 13 s
    by_cases q2 : (cPump lk sn ac ex O P).2 = sn0
    · rw [if_pos (q2.trans q.symm), hf] at h2
      have e1 : mReady M s = mTrN (mPump 4 M s) s 4 0 ex := by rw [mReady, if_pos hf, if_pos h2, e13]
      have e2 : sReady lk sn0 sn ac ex O P = ((cPump lk sn ac ex O P).2, rAdd 12 (cPump lk sn ac ex O P).1 (fr4 4 0 ex 0)) := by rw [sReady, if_pos q, if_pos q2]
      rw [e1, e2]
      exact h1.trN hs (by decide) (by decide) e8 (by decide)
    · rw [if_neg (fun z => q2 (z.trans q))] at h2
      have e1 : mReady M s = mPump 4 M s := by rw [mReady, if_pos hf, if_neg (by rw [h2]; decide)]
      have e2 : sReady lk sn0 sn ac ex O P = ((cPump lk sn ac ex O P).2, (cPump lk sn ac ex O P).1) := by rw [sReady, if_pos q, if_neg q2]
      rw [e1, e2]
      exact h1
  · rw [if_neg q] at hf
    have e1 : mReady M s = M := by rw [mReady, if_neg (by rw [hf]; decide)]
    have e2 : sReady lk sn0 sn ac ex O P = (sn, P) := if_neg q
    rw [e1, e2]
    exact h
theorem carr_rel {M : Nat → Nat → Nat} {s lk sn ac ex tr rj : Nat} {O : Rw_} {K : Nat → Cn_} {L P : Rw_} (hs : s < 2) (h : RX M s (lk, sn, ac, ex, tr, rj) O K L P) (h16 : M 16 s = 0) {nb kd c n a v : Nat} (hc : c < 3) (hk0 : 0 < kd) (hk9 : kd < 9) (hn : n < 8) (ha : a < 8) (hv : v < 512)
    {f : Nat} (f1 : fNumb f = nb) (f2 : fPack f = pk5 kd c n a v) :
    RX (mCarr M s nb kd c n a v) s (lk, (sCarr lk sn ac ex rj O P s (K c) f).1.1, ac, (sCarr lk sn ac ex rj O P s (K c) f).1.2.1, tr, (sCarr lk sn ac ex rj O P s (K c) f).1.2.2) (sCarr lk sn ac ex rj O P s (K c) f).2.1 (va_up K c (sCarr lk sn ac ex rj O P s (K c) f).2.2.1) L (sCarr lk sn ac ex rj O P s (K c) f).2.2.2 := by
  obtain ⟨-, -, -, a4, -, a6⟩ := h.num
  have e8 : ex < 8 := a4 ▸ h.1 13 s
  have r2 : rj < 2 := a6 ▸ h.1 15 s
  have pc : pChan (pk5 kd c n a v) = c := pChan_pk (by omega) hn ha hv
  by_cases q : nb = ex
  · have h1 : RX (mS (mS M 13 s (af ex)) 15 s 0) s (lk, sn, ac, af ex, tr, 0) O K L P := (h.setEx (af_lt ex)).setRj (by decide)
    obtain ⟨h2, h3⟩ := hear_rel hs h1 hc hk0 hk9 hn ha hv
    have e1 : mCarr M s nb kd c n a v = mReady (mHear (mS (mS M 13 s (af ex)) 15 s 0) s c kd n a v) s := by rw [mCarr, a4, if_pos q]
    have e2 : sCarr lk sn ac ex rj O P s (K c) f = sCarr2 lk sn ac ex (kAns s (K c) (pk5 kd c n a v)) (sHear lk sn ac (af ex) O P (kAns s (K c) (pk5 kd c n a v)).1 c) := by rw [sCarr, if_pos (f1.trans q), f2, pc]
    rw [e1, e2]
    refine ready_rel (sn0 := sn) hs h2 ?_
    have h3 : _ = _ := h3
    rw [h3, mS_ne (by decide), mS_ne (by decide), h16]
  · have e2 : sCarr lk sn ac ex rj O P s (K c) f = ((sn, ex, (sRej rj ex P).1), O, K c, (sRej rj ex P).2) := if_neg (by rw [f1]; exact q)
    rw [e2]
    show RX _ s (lk, sn, ac, ex, tr, (sRej rj ex P).1) O (va_up K c (K c)) L (sRej rj ex P).2
    rw [va_up_id]
    by_cases q2 : rj = 0
    · have e1 : mCarr M s nb kd c n a v = mTrN (mS M 15 s 1) s 5 0 ex := by rw [mCarr, a4, a6, if_neg q, if_pos q2]
      have e3 : sRej rj ex P = (1, rAdd 12 P (fr4 5 0 ex 0)) := if_pos q2
      rw [e1, e3]
      exact (h.setRj (by decide)).trN hs (by decide) (by decide) e8 (by decide)
    · have e1 : mCarr M s nb kd c n a v = M := by rw [mCarr, a4, a6, if_neg q, if_neg q2]
      have e3 : sRej rj ex P = (rj, P) := if_neg q2
      rw [e1, e3]
      exact h
theorem link_rel {M : Nat → Nat → Nat} {s lk sn ac ex tr rj : Nat} {O : Rw_} {K : Nat → Cn_} {L P : Rw_} (hs : s < 2) (h : RX M s (lk, sn, ac, ex, tr, rj) O K L P) :
    RX (mLink M s 1) s (sHSet lk sn ac ex tr rj O K P).1 (sHSet lk sn ac ex tr rj O K P).2.1 (sHSet lk sn ac ex tr rj O K P).2.2.1 L (sHSet lk sn ac ex tr rj O K P).2.2.2 ∧
    RX (mLink M s 2) s (sHAgr lk sn ac ex tr rj O K P).1 (sHAgr lk sn ac ex tr rj O K P).2.1 (sHAgr lk sn ac ex tr rj O K P).2.2.1 L (sHAgr lk sn ac ex tr rj O K P).2.2.2 := by
  obtain ⟨a1, -⟩ := h.num
  constructor
  · by_cases q : lk = 1
    · rw [show mLink M s 1 = mTrN M s 2 0 0 by rw [mLink, if_pos rfl, a1, if_pos q], show sHSet lk sn ac ex tr rj O K P = ((lk, sn, ac, ex, tr, rj), O, K, rAdd 12 P (fr4 2 0 0 0)) from if_pos q]
      exact h.trN hs (by decide) (by decide) (by decide) (by decide)
    · rw [show mLink M s 1 = mTrN (mS (mClean M s) 10 s 2) s 2 0 0 by rw [mLink, if_pos rfl, a1, if_neg q], show sHSet lk sn ac ex tr rj O K P = sClean 2 O K (rAdd 12 P (fr4 2 0 0 0)) from if_neg q]
      exact (h.clean (nl := 2) (by decide)).trN hs (by decide) (by decide) (by decide) (by decide)
  · by_cases q : lk = 1
    · rw [show mLink M s 2 = mS (mClean M s) 10 s 2 by rw [mLink, if_neg (by decide), a1, if_pos q], show sHAgr lk sn ac ex tr rj O K P = sClean 2 O K P from if_pos q]
      exact h.clean (nl := 2) (by decide)
    · by_cases q2 : lk = 2
      · rw [show mLink M s 2 = mSetUp M s by rw [mLink, if_neg (by decide), a1, if_neg q, if_pos q2], show sHAgr lk sn ac ex tr rj O K P = sSetUp O K P from (if_neg q).trans (if_pos q2)]
        exact h.setUp hs
      · rw [show mLink M s 2 = M by rw [mLink, if_neg (by decide), a1, if_neg q, if_neg q2], show sHAgr lk sn ac ex tr rj O K P = ((lk, sn, ac, ex, tr, rj), O, K, P) from (if_neg q).trans (if_neg q2)]
        exact h
