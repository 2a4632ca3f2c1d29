/-! pump, again, post on both sides -/
theorem ac_ds {a b : Nat} (ha : a < 8) (hb : b < 8) : (a + ds a b) % 8 = b := by
  unfold ds
  omega
theorem mCarry_line {M : Nat → Nat → Nat} {s k : Nat} {P : Rw_} {x sn ex : Nat} (h : RLn M (1 - s) P) (hk : (M 12 s + k) % 8 = sn) (hx : M 13 s = ex) (hs8 : sn < 8) (he8 : ex < 8) (hp : x = pk5 (M 18 (16 * s + k)) (M 19 (16 * s + k)) (M 20 (16 * s + k)) (M 21 (16 * s + k)) (M 22 (16 * s + k)))
    (hb : pB (M 18 (16 * s + k)) (M 19 (16 * s + k)) (M 20 (16 * s + k)) (M 21 (16 * s + k)) (M 22 (16 * s + k))) : RLn (mCarry M s k) (1 - s) (rAdd 12 P (fr4 3 sn ex x)) := by
  obtain ⟨b0, b1, b2, b3, b4, b5⟩ := hb
  have h1 : RLn (mTrP M s 3 ((M 12 s + k) % 8) (M 13 s) (16 * s + k)) (1 - s) (rAdd 12 P (fr4 3 sn ex x)) := by
    rw [hk, hx, hp]
    exact RLn.tr h ⟨by decide, by decide, hs8, he8, b1, b2, b3, b4, b5, fun _ => b0⟩
  exact h1.of (fun i hi => mS_ne (by omega))
theorem mCarry_lineO {M : Nat → Nat → Nat} {s k : Nat} (hs : s < 2) (hM : mOk M) {L : Rw_} (h : RLn M s L) : RLn (mCarry M s k) s L :=
  (RLn.trO hs h (hM 1 _)).of (fun i hi => mS_ne (by omega))
theorem pump_rel {lk ac ex s tr rj : Nat} {O : Rw_} (hs : s < 2) : ∀ (N f : Nat) (M : Nat → Nat → Nat) (P : Rw_) (sn : Nat), N < f → N = pumpN lk sn ac O → mOk M → RNm M s (lk, sn, ac, ex, tr, rj) → ROt M s O → RLn M (1 - s) P →
    RNm (mPump f M s) s (lk, (pumpR ex O N P sn (ds ac sn)).2, ac, ex, tr, rj) ∧ RLn (mPump f M s) (1 - s) (pumpR ex O N P sn (ds ac sn)).1 ∧ (∀ i, 17 ≤ i → mPump f M s i = M i) ∧ mPump f M s 16 s = (if N = 0 then M 16 s else 1) ∧ (∀ L, RLn M s L → RLn (mPump f M s) s L) ∧ ds ac (pumpR ex O N P sn (ds ac sn)).2 = ds ac sn + N
  | 0, f + 1, M, P, sn, _, hN, hM, hn, hO, hP => by
    obtain ⟨a1, a2, a3, a4, a5, a6⟩ := id hn
    obtain ⟨b1, b2, b3⟩ := id hO
    have hu : mUn M s = ds ac sn := by unfold mUn; rw [a2, a3]
    have hc : ¬ (M 10 s = 2 ∧ mUn M s < M 17 s ∧ mUn M s < 3) := by
      rintro ⟨c1, c2, c3⟩
      rw [pumpN, if_pos (a1.symm.trans c1)] at hN
      rw [hu] at c2 c3
      rw [b1] at c2
      omega
    rw [show mPump (f + 1) M s = M from if_neg hc]
    exact ⟨hn, hP, fun _ _ => rfl, rfl, fun _ h => h, rfl⟩
  | N + 1, f + 1, M, P, sn, hf, hN, hM, hn, hO, hP => by
    obtain ⟨a1, a2, a3, a4, a5, a6⟩ := id hn
    obtain ⟨b1, b2, b3⟩ := id hO
    have a1 : M 10 s = lk := a1
    have a2 : M 11 s = sn := a2
    have a3 : M 12 s = ac := a3
    have a4 : M 13 s = ex := a4
    have s8 : sn < 8 := a2 ▸ hM 11 s
    have c8 : ac < 8 := a3 ▸ hM 12 s
    have e8 : ex < 8 := a4 ▸ hM 13 s
    have hu : mUn M s = ds ac sn := by unfold mUn; rw [a2, a3]
    have hlk : lk = 2 := by
      by_cases h : lk = 2
      · exact h
      · rw [pumpN, if_neg h] at hN; omega
    rw [pumpN, if_pos hlk] at hN
    have hc : M 10 s = 2 ∧ mUn M s < M 17 s ∧ mUn M s < 3 := ⟨a1.trans hlk, by rw [hu, b1]; omega, by rw [hu]; omega⟩
    rw [show mPump (f + 1) M s = mPump f (mPump1 M s) s from if_pos hc]
    have hd : ds ac (af sn) = ds ac sn + 1 := ds_af c8 s8 (by omega)
    obtain ⟨q1, q2⟩ := b3 (ds ac sn) (by omega)
    have hP1 : RLn (mPump1 M s) (1 - s) (rAdd 12 P (fr4 3 sn ex (O.1 (ds ac sn)))) := by
      have h1 := mCarry_line (k := mUn M s) (x := O.1 (ds ac sn)) hP (by rw [hu, a3]; exact ac_ds c8 s8) a4 s8 e8 (by rw [hu]; exact q1) (by rw [hu]; exact q2)
      exact h1.of (fun i hi => mS_ne (by omega))
    have hn1 : RNm (mPump1 M s) s (lk, af sn, ac, ex, tr, rj) := by
      refine ⟨?_, ?_, ?_, ?_, ?_, ?_⟩
      · rw [mPump1_hi (by decide) (by decide) (by decide)]; exact a1
      · rw [mPump1_11, a2]
      · rw [mPump1_hi (by decide) (by decide) (by decide)]; exact a3
      · rw [mPump1_hi (by decide) (by decide) (by decide)]; exact a4
      · rw [mPump1_hi (by decide) (by decide) (by decide)]; exact a5
      · rw [mPump1_hi (by decide) (by decide) (by decide)]; exact a6
    have hO1 : ROt (mPump1 M s) s O := hO.of (fun i h1 h2 => mPump1_hi (by omega) (by omega) (by omega))
    obtain ⟨r1, r2, r3, r4, r5, r6⟩ := pump_rel hs N f (mPump1 M s) (rAdd 12 P (fr4 3 sn ex (O.1 (ds ac sn)))) (af sn) (by omega) (by rw [pumpN, if_pos hlk, hd]; omega) (hM.pump1 s) hn1 hO1 hP1
    rw [hd] at r1 r2 r6
    have e16 : mPump1 M s 16 s = 1 := by
      unfold mPump1
      rw [mS_ne (by decide)]
      unfold mCarry
      rw [mS_same, va_up_self]
    refine ⟨r1, r2, fun i hi => (r3 i hi).trans (mPump1_hi (by omega) (by omega) (by omega)), ?_, fun L h => r5 L ?_, ?_⟩
    · rw [r4, e16, if_neg (show ¬ (N + 1 = 0) by omega)]
      split <;> rfl
    · exact (mCarry_lineO hs hM h).of (fun i hi => mS_ne (by omega))
    · show ds ac (pumpR ex O N (rAdd 12 P (fr4 3 sn ex (O.1 (ds ac sn)))) (af sn) (ds ac sn + 1)).2 = _
      rw [r6]
      omega
theorem again_rel {lk sn ac ex s tr rj : Nat} {O : Rw_} (hs : s < 2) : ∀ (N : Nat) (M : Nat → Nat → Nat) (P : Rw_) (k : Nat), k + N ≤ O.2 → mOk M → RNm M s (lk, sn, ac, ex, tr, rj) → ROt M s O → RLn M (1 - s) P →
    RLn (mAgR N M s k) (1 - s) (againR ex O N P ((ac + k) % 8) k) ∧ (∀ i, 10 ≤ i → i ≠ 16 → mAgR N M s k i = M i) ∧ (∀ L, RLn M s L → RLn (mAgR N M s k) s L)
  | 0, M, P, k, _, _, _, _, hP => ⟨hP, fun _ _ _ => rfl, fun _ h => h⟩
  | N + 1, M, P, k, hk, hM, hn, hO, hP => by
    obtain ⟨a1, a2, a3, a4, a5, a6⟩ := id hn
    obtain ⟨b1, b2, b3⟩ := id hO
    have a3 : M 12 s = ac := a3
    have a4 : M 13 s = ex := a4
    obtain ⟨q1, q2⟩ := b3 k (by omega)
    have hP1 : RLn (mCarry M s k) (1 - s) (rAdd 12 P (fr4 3 ((ac + k) % 8) ex (O.1 k))) := mCarry_line hP (by rw [a3]) a4 (Nat.mod_lt _ (by decide)) (a4 ▸ hM 13 s) q1 q2
    have hn1 : RNm (mCarry M s k) s (lk, sn, ac, ex, tr, rj) := hn.of (fun i h1 h2 => mCarry_hi (by omega) (by omega))
    have hO1 : ROt (mCarry M s k) s O := hO.of (fun i h1 h2 => mCarry_hi (by omega) (by omega))
    obtain ⟨r1, r2, r3⟩ := again_rel hs N (mCarry M s k) _ (k + 1) (by omega) (hM.carry s k) hn1 hO1 hP1
    refine ⟨?_, fun i h1 h2 => (r2 i h1 h2).trans (mCarry_hi (by omega) h2), fun L h => r3 L (mCarry_lineO hs hM h)⟩
    show RLn (mAgR N (mCarry M s k) s (k + 1)) (1 - s) (againR ex O N (rAdd 12 P (fr4 3 ((ac + k) % 8) ex (O.1 k))) (af ((ac + k) % 8)) (k + 1))
    rw [show af ((ac + k) % 8) = (ac + (k + 1)) % 8 by unfold af; omega]
    exact r1
/-- a station with both lines: what the steps speak of -/
def RX (M : Nat → Nat → Nat) (s : Nat) (n : Nm_) (O : Rw_) (K : Nat → Cn_) (L P : Rw_) : Prop := mOk M ∧ RS M s n O K ∧ RLn M s L ∧ RLn M (1 - s) P
theorem ROt.ok {M : Nat → Nat → Nat} {s : Nat} {O : Rw_} (h : ROt M s O) : oOk O := by
  obtain ⟨h1, h2, h3⟩ := h
  refine ⟨h2, fun i hi => ?_⟩
  obtain ⟨e, b0, b1, b2, b3, b4, b5⟩ := h3 i hi
  rw [e]
  exact pk5_lt (by omega) (by omega) b3 b4 b5
theorem pumpN_le {lk sn ac : Nat} {O : Rw_} : pumpN lk sn ac O ≤ 3 := by
  unfold pumpN
  split <;> omega
theorem RX.pump {M : Nat → Nat → Nat} {s lk sn ac ex tr rj : Nat} {O : Rw_} {K : Nat → Cn_} {L P : Rw_} (hs : s < 2) (h : RX M s (lk, sn, ac, ex, tr, rj) O K L P) :
    RX (mPump 4 M s) s (lk, (cPump lk sn ac ex O P).2, ac, ex, tr, rj) O K L (cPump lk sn ac ex O P).1 ∧ mPump 4 M s 16 s = (if (cPump lk sn ac ex O P).2 = sn then M 16 s else 1) := by
  obtain ⟨hM, ⟨hn, hO, hK, h3, h4, h5⟩, hL, hP⟩ := h
  have h3 : ds ac sn ≤ 3 := h3
  have h4 : ds ac sn ≤ O.2 := h4
  obtain ⟨r1, r2, r3, r4, r5, r6⟩ := pump_rel hs (pumpN lk sn ac O) 4 M P sn (Nat.lt_succ_of_le pumpN_le) rfl hM hn hO hP
  have hN : pumpN lk sn ac O = 0 ∨ ds ac sn + pumpN lk sn ac O = min O.2 3 := by
    unfold pumpN
    split
    · omega
    · left; omega
  refine ⟨⟨mOk.pump 4 hM s, ⟨r1, hO.of (fun i h1 _ => r3 i h1), fun c hc => (hK c hc).of (fun i hi => r3 i (by omega)), ?_, ?_, h5⟩, r5 L hL, r2⟩, ?_⟩
  · show ds ac (pumpR ex O (pumpN lk sn ac O) P sn (ds ac sn)).2 ≤ 3
    rw [r6]; omega
  · show ds ac (pumpR ex O (pumpN lk sn ac O) P sn (ds ac sn)).2 ≤ O.2
    rw [r6]; omega
  · rw [r4]
    by_cases hz : pumpN lk sn ac O = 0
    · rw [if_pos hz, if_pos]
      show (pumpR ex O (pumpN lk sn ac O) P sn (ds ac sn)).2 = sn
      rw [hz]
      rfl
    · rw [if_neg hz, if_neg]
      intro e
      have e : (pumpR ex O (pumpN lk sn ac O) P sn (ds ac sn)).2 = sn := e
      rw [e] at r6
      omega
theorem RX.again {M : Nat → Nat → Nat} {s lk sn ac ex tr rj : Nat} {O : Rw_} {K : Nat → Cn_} {L P : Rw_} (hs : s < 2) (h : RX M s (lk, sn, ac, ex, tr, rj) O K L P) :
    RX (mAgain M s) s (lk, sn, ac, ex, tr, rj) O K L (cAgain sn ac ex O P) := by
  obtain ⟨hM, ⟨hn, hO, hK, h3, h4, h5⟩, hL, hP⟩ := h
  obtain ⟨a1, a2, a3, a4, a5, a6⟩ := id hn
  have a2 : M 11 s = sn := a2
  have a3 : M 12 s = ac := a3
  have hu : mUn M s = ds ac sn := by unfold mUn; rw [a2, a3]
  have c8 : ac < 8 := a3 ▸ hM 12 s
  obtain ⟨r1, r2, r3⟩ := again_rel hs (mUn M s) M P 0 (by rw [hu]; exact Nat.le_trans (Nat.le_of_eq (Nat.zero_add _)) h4) hM hn hO hP
  refine ⟨mOk.agR _ hM s 0, ⟨hn.of (fun i h1 h2 => r2 i h1 (by omega)), hO.of (fun i h1 _ => r2 i (by omega) (by omega)), fun c hc => (hK c hc).of (fun i hi => r2 i (by omega) (by omega)), h3, h4, h5⟩, r3 L hL, ?_⟩
  have e : againR ex O (mUn M s) P ((ac + 0) % 8) 0 = cAgain sn ac ex O P := by
    rw [hu, Nat.add_zero, Nat.mod_eq_of_lt c8]
    rfl
  rw [← e]
  exact r1
theorem mPut_i {M : Nat → Nat → Nat} {s kd c nb ak v i : Nat} (h : i < 17 ∨ 22 < i) : mPut M s kd c nb ak v i = M i := by
  unfold mPut
  split
  · rw [mS_ne (by omega), mS_ne (by omega), mS_ne (by omega), mS_ne (by omega), mS_ne (by omega), mS_ne (by omega)]
  · rfl
theorem RX.put {M : Nat → Nat → Nat} {s : Nat} {n : Nm_} {O : Rw_} {K : Nat → Cn_} {L P : Rw_} (h : RX M s n O K L P) {kd c nb ak v : Nat} (hb : pB kd c nb ak v) :
    RX (mPut M s kd c nb ak v) s n (rAdd 16 O (pk5 kd c nb ak v)) K L P := by
  obtain ⟨hM, ⟨hn, hO, hK, h3, h4, h5⟩, hL, hP⟩ := h
  obtain ⟨b0, b1, b2, b3, b4, b5⟩ := id hb
  refine ⟨hM.put s (by omega) (by omega) (by omega) (by omega) (by omega), ⟨hn.of (fun i h1 h2 => mPut_i (by omega)), hO.put hb, fun c hc => (hK c hc).of (fun i hi => mPut_i (by omega)), h3, ?_, h5⟩, hL.of (fun i hi => mPut_i (by omega)), hP.of (fun i hi => mPut_i (by omega))⟩
  unfold rAdd
  split
  · exact Nat.le_succ_of_le h4
  · exact h4
/-- a packet is sent -/
theorem RX.post {M : Nat → Nat → Nat} {s lk sn ac ex tr rj : Nat} {O : Rw_} {K : Nat → Cn_} {L P : Rw_} (hs : s < 2) (h : RX M s (lk, sn, ac, ex, tr, rj) O K L P) {kd c nb ak v : Nat} (hb : pB kd c nb ak v) :
    RX (mPost M s kd c nb ak v) s (lk, (sSend lk sn ac ex O P (pk5 kd c nb ak v)).1, ac, ex, tr, rj) (sSend lk sn ac ex O P (pk5 kd c nb ak v)).2.1 K L (sSend lk sn ac ex O P (pk5 kd c nb ak v)).2.2 ∧ mPost M s kd c nb ak v 16 s = (if (sSend lk sn ac ex O P (pk5 kd c nb ak v)).1 = sn then M 16 s else 1) := by
  have h1 := (h.put hb).pump hs
  rw [mPut_i (i := 16) (by decide)] at h1
  exact h1
theorem mPost_hi {M : Nat → Nat → Nat} {s kd c nb ak v i : Nat} (h : 22 < i) : mPost M s kd c nb ak v i = M i := by
  unfold mPost
  have key : ∀ (n : Nat) (M : Nat → Nat → Nat), mPump n M s i = M i := by
    intro n
    induction n with
    | zero => intro M; rfl
    | succ n ih =>
      intro M
      unfold mPump
      split
      · rw [ih, mPump1_hi (by omega) (by omega) (by omega)]
      · rfl
  rw [key, mPut_i (by omega)]
