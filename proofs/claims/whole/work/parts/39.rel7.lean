/-! call, accept, clear, reset; send; receive; what a station's state promises -/
theorem pBn {kd c : Nat} (h0 : 0 < kd) (h9 : kd < 9) (hc : c < 3) : pB kd c 0 0 0 := ⟨h0, h9, hc, by decide, by decide, by decide⟩
theorem bec_rel {M : Nat → Nat → Nat} {s lk sn ac ex tr rj : Nat} {O : Rw_} {K : Nat → Cn_} {L P : Rw_} (hs : s < 2) (h : RX M s (lk, sn, ac, ex, tr, rj) O K L P) {c kd nw : Nat} (hc : c < 3) (hk0 : 0 < kd) (hk9 : kd < 9) (hnw : nw < 6) (r : Rw_) :
    RX (mBec M s c kd nw) s (lk, (sSend lk sn ac ex O P (pk5 kd c 0 0 0)).1, ac, ex, tr, rj) (sSend lk sn ac ex O P (pk5 kd c 0 0 0)).2.1 (va_up K c (cNew nw r)) L (sSend lk sn ac ex O P (pk5 kd c 0 0 0)).2.2 :=
  RX.renew hc hnw (h.post hs (pBn hk0 hk9 hc)).1 r
theorem Keep.bec {s c kd nw : Nat} {M : Nat → Nat → Nat} (hc : c < 3) : Keep s M (mBec M s c kd nw) := ((Keep.rf.post).renew hc).set (Or.inr (own_c (by decide) (by decide) hc))
theorem Keep.send {s c v : Nat} {M : Nat → Nat → Nat} (hc : c < 3) : Keep s M (mSend M s c v) := (Keep.rf.post).set (Or.inr (own_c (by decide) (by decide) hc))
theorem Keep.recv {s c : Nat} {M : Nat → Nat → Nat} (hc : c < 3) : Keep s M (mRecv M s c) := ((Keep.rf.set (Or.inr (Or.inr (Or.inr (Or.inr ⟨rfl, by omega, by omega⟩))))).set (Or.inr (own_c (by decide) (by decide) hc))).post
theorem send_rel {M : Nat → Nat → Nat} {s lk sn ac ex tr rj : Nat} {O : Rw_} {K : Nat → Cn_} {L P : Rw_} (hs : s < 2) (h : RX M s (lk, sn, ac, ex, tr, rj) O K L P) {c v : Nat} (hc : c < 3) (hv : v < 512) (hst : (K c).1 = 3) (hwin : ds (K c).2.2.1 (K c).2.1 < 2) :
    RX (mSend M s c v) s (lk, (sSend lk sn ac ex O P (pk5 5 c (K c).2.1 (K c).2.2.2.2.1 v)).1, ac, ex, tr, rj) (sSend lk sn ac ex O P (pk5 5 c (K c).2.1 (K c).2.2.2.2.1 v)).2.1 (va_up K c ((K c).1, af (K c).2.1, (K c).2.2)) L (sSend lk sn ac ex O P (pk5 5 c (K c).2.1 (K c).2.2.2.2.1 v)).2.2 := by
  obtain ⟨k1, k2, k3, k4, k5, k6, k7, k8, k9, k10, b1, b2, b3, b4, b5⟩ := h.2.1.2.2.1 c hc
  have h1 := (h.post hs (kd := 5) (c := c) (nb := (K c).2.1) (ak := (K c).2.2.2.2.1) (v := v) ⟨by decide, by decide, hc, b2, b5, hv⟩).1
  unfold mSend
  rw [k2, k5, mPost_hi (i := 24) (by decide), k2]
  refine h1.chan hc (h1.1.set 24 (af_lt _)) (fun i hi => mS_ne (by omega)) (fun i j a b n => mS_at (Or.inr n)) (fun j _ => mS_at (Or.inl (by decide))) ?_
  refine ⟨?_, ?_, ?_, ?_, ?_, k6, k7, fun j hj => ?_, ?_, fun n => absurd hst n, b1, af_lt _, b3, b4, b5⟩
  · rw [mS_ne (by decide), mPost_hi (by decide)]; exact k1
  · rw [mS_same, va_up_self]
  · rw [mS_ne (by decide), mPost_hi (by decide)]; exact k3
  · rw [mS_ne (by decide), mPost_hi (by decide)]; exact k4
  · rw [mS_ne (by decide), mPost_hi (by decide)]; exact k5
  · rw [mS_ne (by decide), mPost_hi (by decide)]; exact k8 j hj
  · show ds (K c).2.2.1 (af (K c).2.1) ≤ 2
    rw [ds_af b3 b2 (by omega)]
    omega
theorem recv_rel {M : Nat → Nat → Nat} {s lk sn ac ex tr rj : Nat} {O : Rw_} {K : Nat → Cn_} {L P : Rw_} (hs : s < 2) (h : RX M s (lk, sn, ac, ex, tr, rj) O K L P) {c : Nat} (hc : c < 3) (hst : (K c).1 = 3) (h0 : 0 < (K c).2.2.2.2.2.2) :
    RX (mRecv M s c) s (lk, (sSend lk sn ac ex O P (pk5 6 c 0 (af (K c).2.2.2.2.1) 0)).1, ac, ex, tr, rj) (sSend lk sn ac ex O P (pk5 6 c 0 (af (K c).2.2.2.2.1) 0)).2.1 (va_up K c ((K c).1, (K c).2.1, (K c).2.2.1, (K c).2.2.2.1, af (K c).2.2.2.2.1, rDrop (K c).2.2.2.2.2 1)) L (sSend lk sn ac ex O P (pk5 6 c 0 (af (K c).2.2.2.2.1) 0)).2.2 := by
  obtain ⟨k1, k2, k3, k4, k5, k6, k7, k8, k9, k10, b1, b2, b3, b4, b5⟩ := h.2.1.2.2.1 c hc
  have h1 : RX (mS (mS M 28 (2 * (3 * s + c)) (M 28 (2 * (3 * s + c) + 1))) 27 (3 * s + c) (af (M 27 (3 * s + c)))) s (lk, sn, ac, ex, tr, rj) O (va_up K c ((K c).1, (K c).2.1, (K c).2.2.1, (K c).2.2.2.1, af (K c).2.2.2.2.1, rDrop (K c).2.2.2.2.2 1)) L P := by
    refine h.chan hc ((h.1.set 28 (h.1 28 _)).set 27 (af_lt _)) (fun i hi => (mS_ne (by omega)).trans (mS_ne (by omega))) (fun i j a b n => (mS_at (Or.inr n)).trans (mS_at (Or.inl (by omega)))) (fun j hj => (mS_at (Or.inl (by decide))).trans (mS_at (Or.inr (by omega)))) ?_
    have e : ds (af (K c).2.2.2.2.1) (K c).2.2.2.1 = ds (K c).2.2.2.2.1 (K c).2.2.2.1 - 1 := by
      rw [k6] at h0
      unfold ds af at *
      omega
    refine ⟨?_, ?_, ?_, ?_, ?_, ?_, ?_, fun j hj => ?_, k9, fun n => absurd hst n, b1, b2, b3, b4, af_lt _⟩
    · rw [mS_ne (by decide), mS_ne (by decide)]; exact k1
    · rw [mS_ne (by decide), mS_ne (by decide)]; exact k2
    · rw [mS_ne (by decide), mS_ne (by decide)]; exact k3
    · rw [mS_ne (by decide), mS_ne (by decide)]; exact k4
    · rw [mS_same, va_up_self, k5]
    · show (K c).2.2.2.2.2.2 - 1 = ds (af (K c).2.2.2.2.1) (K c).2.2.2.1
      rw [e, k6]
    · show (K c).2.2.2.2.2.2 - 1 ≤ 2
      omega
    · have hj : j < (K c).2.2.2.2.2.2 - 1 := hj
      have j0 : j = 0 := by omega
      subst j0
      show mS (mS M 28 (2 * (3 * s + c)) (M 28 (2 * (3 * s + c) + 1))) 27 (3 * s + c) (af (M 27 (3 * s + c))) 28 (2 * (3 * s + c)) = (rDrop (K c).2.2.2.2.2 1).1 0 ∧ (rDrop (K c).2.2.2.2.2 1).1 0 < 512
      rw [mS_ne (by decide), mS_same, va_up_self, rDrop_at hj]
      exact k8 1 (by omega)
  unfold mRecv
  rw [k5] at h1 ⊢
  exact (h1.post hs ⟨by decide, by decide, hc, by decide, af_lt _, by decide⟩).1
/-! what the state of a station promises -/
theorem RX.bnd {M : Nat → Nat → Nat} {s : Nat} {n : Nm_} {O : Rw_} {K : Nat → Cn_} {L P : Rw_} (h : RX M s n O K L P) :
    n.1 < 3 ∧ n.2.1 < 8 ∧ n.2.2.1 < 8 ∧ n.2.2.2.1 < 8 ∧ n.2.2.2.2.1 < 4 ∧ n.2.2.2.2.2 < 2 ∧ oOk O ∧ P.2 ≤ 12 ∧ L.2 ≤ 12 ∧ ds n.2.2.1 n.2.1 ≤ O.2 ∧ (∀ c, c < 3 → kOk (K c)) ∧ (∀ j, j < L.2 → L.1 j < 2 ^ 31) ∧ mUn M s = ds n.2.2.1 n.2.1 := by
  obtain ⟨hM, ⟨⟨a1, a2, a3, a4, a5, a6⟩, hO, hK, g3, g4, g5⟩, ⟨l1, l2, l3⟩, p1, p2, -⟩ := h
  refine ⟨a1 ▸ hM 10 s, a2 ▸ hM 11 s, a3 ▸ hM 12 s, a4 ▸ hM 13 s, g5, a6 ▸ hM 15 s, hO.ok, p2, l2, g4, fun c hc => ?_, fun j hj => ?_, ?_⟩
  · obtain ⟨-, -, -, -, -, -, k7, -, -, -, b1, b2, b3, b4, b5⟩ := hK c hc
    exact ⟨b1, b2, b3, b4, b5, k7⟩
  · obtain ⟨q1, b0, b1, b2, b3, b4, b5, b6, b7, b8, b9⟩ := l3 j hj
    rw [q1]
    exact Nat.lt_trans (fr4_lt (by omega) b2 b3 (pk5_lt (by omega) (by omega) b6 b7 b8)) (by decide)
  · unfold mUn
    rw [a2, a3]
theorem RLn.first {M : Nat → Nat → Nat} {s : Nat} {L : Rw_} (h : RLn M s L) {k : Nat} (hk : k < L.2) :
    fKind (L.1 k) = M 2 (12 * s + k) ∧ fNumb (L.1 k) = M 3 (12 * s + k) ∧ fAckn (L.1 k) = M 4 (12 * s + k) ∧ pKind (fPack (L.1 k)) = M 5 (12 * s + k) ∧ pChan (fPack (L.1 k)) = M 6 (12 * s + k) ∧ pNumb (fPack (L.1 k)) = M 7 (12 * s + k) ∧ pAckn (fPack (L.1 k)) = M 8 (12 * s + k) ∧ pData (fPack (L.1 k)) = M 9 (12 * s + k) ∧ M 4 (12 * s + k) < 8 ∧ M 6 (12 * s + k) < 3 ∧ M 8 (12 * s + k) < 8 := by
  obtain ⟨l1, l2, l3⟩ := h
  obtain ⟨q1, b0, b1, b2, b3, b4, b5, b6, b7, b8, b9⟩ := l3 k hk
  have hpk : pk5 (M 5 (12 * s + k)) (M 6 (12 * s + k)) (M 7 (12 * s + k)) (M 8 (12 * s + k)) (M 9 (12 * s + k)) < 2097152 := pk5_lt (by omega) (by omega) b6 b7 b8
  have f4 : fPack (L.1 k) = pk5 (M 5 (12 * s + k)) (M 6 (12 * s + k)) (M 7 (12 * s + k)) (M 8 (12 * s + k)) (M 9 (12 * s + k)) := by rw [q1]; exact fPack_fr hpk
  rw [f4]
  exact ⟨by rw [q1]; exact fKind_fr (by omega) b2 b3 hpk, by rw [q1]; exact fNumb_fr b2 b3 hpk, by rw [q1]; exact fAckn_fr b3 hpk, pKind_pk (by omega) (by omega) b6 b7 b8, pChan_pk (by omega) b6 b7 b8, pNumb_pk b6 b7 b8, pAckn_pk b7 b8, pData_pk b8, b3, b5, b7⟩
theorem RR.dt {C : CS_} {M : Nat → Nat → Nat} (h : RR C M) : ∀ k, k < 6 → ds (M 27 k) (M 26 k) ≤ 2 := by
  intro k hk
  have key : ∀ s c, s < 2 → c < 3 → ds (M 27 (3 * s + c)) (M 26 (3 * s + c)) ≤ 2 := by
    intro s c hs hc
    obtain ⟨-, -, -, k4, k5, k6, k7, -⟩ := (h.2.1 s hs).2.2.1 c hc
    rw [k4, k5, ← k6]
    exact k7
  rcases (show k = 3 * 0 + 0 ∨ k = 3 * 0 + 1 ∨ k = 3 * 0 + 2 ∨ k = 3 * 1 + 0 ∨ k = 3 * 1 + 1 ∨ k = 3 * 1 + 2 by omega) with e | e | e | e | e | e <;> rw [e] <;> exact key _ _ (by decide) (by decide)
theorem ds_0 {a b : Nat} (ha : a < 8) (hb : b < 8) : ds a b = 0 ↔ b = a := by
  unfold ds
  omega
theorem ite_p0 {p : Prop} [Decidable p] {a b : Nat} (h1 : 0 < a) (h2 : 0 < b) : 0 < (if p then a else b) := by
  by_cases h : p
  · rw [if_pos h]; exact h1
  · rw [if_neg h]; exact h2
theorem mOk.zero : mOk (fun _ _ => 0) := by
  intro i j
  show 0 < bd i
  unfold bd
  repeat (first | decide | (refine ite_p0 (by decide) ?_))
theorem RR.zero : RR (fun _ => (0, 0, 0, 0, 0, 0), fun _ => (fun _ => 0, 0), fun _ _ => (0, 0, 0, 0, 0, (fun _ => 0, 0)), fun _ => (fun _ => 0, 0)) (fun _ _ => 0) := by
  refine ⟨mOk.zero, fun s hs => ⟨⟨rfl, rfl, rfl, rfl, rfl, rfl⟩, ⟨rfl, Nat.zero_le _, fun j hj => absurd hj (Nat.not_lt_zero j)⟩, fun c hc => ?_, (by show ds 0 0 ≤ 3; decide), (by show ds 0 0 ≤ 0; decide), (by show 0 < 4; decide)⟩, fun s hs => ⟨rfl, Nat.zero_le _, fun j hj => absurd hj (Nat.not_lt_zero j)⟩⟩
  exact RCn.new (r := (fun _ => 0, 0)) (by decide) rfl rfl rfl rfl rfl
