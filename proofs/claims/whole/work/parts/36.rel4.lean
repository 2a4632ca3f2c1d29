/-! a packet is heard -/
/-- only channel c of station s has changed -/
theorem RX.chan {M M' : Nat → Nat → Nat} {s c : Nat} (hc : c < 3) {n : Nm_} {O : Rw_} {K : Nat → Cn_} {L P : Rw_} (h : RX M s n O K L P) (hM : mOk M') (lo : ∀ i, i < 23 → M' i = M i) (hi : ∀ i j, 23 ≤ i → i < 28 → j ≠ 3 * s + c → M' i j = M i j) (h28 : ∀ j, (j < 2 * (3 * s + c) ∨ 2 * (3 * s + c) + 2 ≤ j) → M' 28 j = M 28 j) {k : Cn_} (hk : RCn M' (3 * s + c) k) : RX M' s n O (va_up K c k) L P := by
  obtain ⟨h0, ⟨hn, hO, hK, g3, g4, g5⟩, hL, hP⟩ := h
  refine ⟨hM, ⟨hn.of (fun i a b => lo i (by omega)), hO.of (fun i a b => lo i (by omega)), fun d hd => ?_, g3, g4, g5⟩, hL.of (fun i a => lo i (by omega)), hP.of (fun i a => lo i (by omega))⟩
  by_cases e : d = c
  · rw [e, va_up_self]; exact hk
  · rw [va_up_ne _ _ e]
    exact (hK d hd).at (fun i a b => hi i _ a b (by omega)) (fun j hj => h28 _ (by omega))
theorem RX.same {M : Nat → Nat → Nat} {s c : Nat} (hc : c < 3) {n : Nm_} {O : Rw_} {K : Nat → Cn_} {L P : Rw_} (h : RX M s n O K L P) {k : Cn_} (hk : RCn M (3 * s + c) k) : RX M s n O (va_up K c k) L P :=
  h.chan hc h.1 (fun _ _ => rfl) (fun _ _ _ _ _ => rfl) (fun _ _ => rfl) hk
theorem mS_at {M : Nat → Nat → Nat} {a k x i j : Nat} (h : i ≠ a ∨ j ≠ k) : mS M a k x i j = M i j := by
  by_cases e : i = a
  · subst e
    rw [mS_same, va_up_ne _ _ (by omega)]
  · rw [mS_ne e]
theorem mRenew_ot {M : Nat → Nat → Nat} {k i j : Nat} (h : j ≠ k ∨ i = 28) : mRenew M k i j = M i j := by
  unfold mRenew
  rw [mS_at (by omega), mS_at (by omega), mS_at (by omega), mS_at (by omega)]
theorem mIdle_ot {M : Nat → Nat → Nat} {k i j : Nat} (h : j ≠ k ∨ i = 28) : mIdle M k i j = M i j := by
  unfold mIdle
  rw [mRenew_ot h, mS_at (by omega)]
/-- the channel is renewed in the state ns -/
theorem RX.renew {M : Nat → Nat → Nat} {s c ns : Nat} (hc : c < 3) (hns : ns < 6) {n : Nm_} {O : Rw_} {K : Nat → Cn_} {L P : Rw_} (h : RX M s n O K L P) (r : Rw_) : RX (mS (mRenew M (3 * s + c)) 23 (3 * s + c) ns) s n O (va_up K c (cNew ns r)) L P := by
  obtain ⟨g1, g2, g3, g4, g5, g6⟩ := mRenew_at (A := M) (k := 3 * s + c)
  refine h.chan hc ((h.1.renew _).set 23 hns) (fun i hi => (mS_ne (by omega)).trans (mRenew_lo hi)) (fun i j a b e => by rw [mS_at (Or.inr e), mRenew_ot (Or.inl e)]) (fun j hj => by rw [mS_at (by omega), mRenew_ot (Or.inr rfl)]) (RCn.new hns (by rw [mS_same, va_up_self]) ?_ ?_ ?_ ?_)
  · rw [mS_ne (by decide), g2, va_up_self]
  · rw [mS_ne (by decide), g3, va_up_self]
  · rw [mS_ne (by decide), g4, va_up_self]
  · rw [mS_ne (by decide), g5, va_up_self]
theorem RX.idle {M : Nat → Nat → Nat} {s c : Nat} (hc : c < 3) {n : Nm_} {O : Rw_} {K : Nat → Cn_} {L P : Rw_} (h : RX M s n O K L P) (r : Rw_) : RX (mIdle M (3 * s + c)) s n O (va_up K c (cNew 0 r)) L P := by
  obtain ⟨g1, g2, g3, g4, g5, g6⟩ := mIdle_at (A := M) (k := 3 * s + c)
  refine h.chan hc (h.1.idle _) (fun i hi => mIdle_lo hi) (fun i j a b e => mIdle_ot (Or.inl e)) (fun j hj => mIdle_ot (Or.inr rfl)) (RCn.new (by decide) ?_ ?_ ?_ ?_ ?_)
  · rw [g1, va_up_self]
  · rw [g2, va_up_self]
  · rw [g3, va_up_self]
  · rw [g4, va_up_self]
  · rw [g5, va_up_self]
/-- the state alone changes, of a channel that isn't open -/
theorem RX.state {M : Nat → Nat → Nat} {s c ns : Nat} (hc : c < 3) (hns : ns < 6) {n : Nm_} {O : Rw_} {K : Nat → Cn_} {L P : Rw_} (h : RX M s n O K L P) (hz : (K c).1 ≠ 3) (r : Rw_) : RX (mS M 23 (3 * s + c) ns) s n O (va_up K c (cNew ns r)) L P := by
  obtain ⟨k1, k2, k3, k4, k5, -, -, -, -, k6, -⟩ := h.2.1.2.2.1 c hc
  obtain ⟨z1, z2, z3, z4⟩ := k6 hz
  refine h.chan hc (h.1.set 23 hns) (fun i hi => mS_ne (by omega)) (fun i j a b e => mS_at (Or.inr e)) (fun j hj => mS_at (by omega)) (RCn.new hns (by rw [mS_same, va_up_self]) ?_ ?_ ?_ ?_)
  · rw [mS_ne (by decide), k2, z1]
  · rw [mS_ne (by decide), k3, z2]
  · rw [mS_ne (by decide), k4, z3]
  · rw [mS_ne (by decide), k5, z4]
theorem va_up_id {K : Nat → Cn_} {c : Nat} : va_up K c (K c) = K := by
  funext j
  unfold va_up
  split
  next e => rw [e]
  · rfl
theorem mS_id {M : Nat → Nat → Nat} {i k : Nat} : mS M i k (M i k) = M := by
  funext a b
  unfold mS va_up
  split
  next e =>
    subst e
    show (if b = k then M a k else M a b) = M a b
    split
    next e2 => rw [e2]
    · rfl
  · rfl
def Flag (M M' : Nat → Nat → Nat) (s sn sn' : Nat) : Prop := M' 16 s = (if sn' = sn then M 16 s else 1)
/-- an answer is sent: a packet alone of kind rk -/
theorem RX.answer {M : Nat → Nat → Nat} {s lk sn ac ex tr rj : Nat} {O : Rw_} {K : Nat → Cn_} {L P : Rw_} (hs : s < 2) (h : RX M s (lk, sn, ac, ex, tr, rj) O K L P) {rk c : Nat} (h0 : 0 < rk) (h1 : rk < 9) (hc : c < 3) :
    RX (mPost M s rk c 0 0 0) s (lk, (sHear lk sn ac ex O P rk c).1, ac, ex, tr, rj) (sHear lk sn ac ex O P rk c).2.1 K L (sHear lk sn ac ex O P rk c).2.2 ∧ Flag M (mPost M s rk c 0 0 0) s sn (sHear lk sn ac ex O P rk c).1 := by
  rw [show sHear lk sn ac ex O P rk c = sSend lk sn ac ex O P (pk5 rk c 0 0 0) from if_neg (by omega)]
  exact h.post hs ⟨h0, h1, hc, by decide, by decide, by decide⟩
theorem RX.quiet {M M' : Nat → Nat → Nat} {s lk sn ac ex tr rj : Nat} {O : Rw_} {K' : Nat → Cn_} {L P : Rw_} {c : Nat} (h : RX M' s (lk, sn, ac, ex, tr, rj) O K' L P) (h16 : M' 16 = M 16) :
    RX M' s (lk, (sHear lk sn ac ex O P 0 c).1, ac, ex, tr, rj) (sHear lk sn ac ex O P 0 c).2.1 K' L (sHear lk sn ac ex O P 0 c).2.2 ∧ Flag M M' s sn (sHear lk sn ac ex O P 0 c).1 := by
  rw [show sHear lk sn ac ex O P 0 c = (sn, O, P) from if_pos rfl]
  exact ⟨h, by unfold Flag; rw [if_pos rfl, h16]⟩
theorem Flag.of {A M M' : Nat → Nat → Nat} {s sn sn' : Nat} (h : Flag A M' s sn sn') (e : A 16 = M 16) : Flag M M' s sn sn' := by
  unfold Flag at *
  rw [h, e]
theorem move_rel {M : Nat → Nat → Nat} {s lk sn ac ex tr rj : Nat} {O : Rw_} {K : Nat → Cn_} {L P : Rw_} (hs : s < 2) (h : RX M s (lk, sn, ac, ex, tr, rj) O K L P) {c kd nb ak v : Nat} (hc : c < 3) (hkd : kd = 5 ∨ kd = 6) (hnb : nb < 8) (hak : ak < 8) (hv : v < 512)
    {st nx pa du ta : Nat} {r : Rw_} (hKc : K c = (st, nx, pa, du, ta, r)) (hst : st = 3) {p : Nat} (p1 : pKind p = kd) (p2 : pNumb p = nb) (p3 : pAckn p = ak) (p4 : pData p = v) :
    RX (mMove M s c kd nb ak v) s (lk, (sHear lk sn ac ex O P (cFlow st nx pa du ta r p).1 c).1, ac, ex, tr, rj) (sHear lk sn ac ex O P (cFlow st nx pa du ta r p).1 c).2.1 (va_up K c (cFlow st nx pa du ta r p).2) L (sHear lk sn ac ex O P (cFlow st nx pa du ta r p).1 c).2.2 ∧
      Flag M (mMove M s c kd nb ak v) s sn (sHear lk sn ac ex O P (cFlow st nx pa du ta r p).1 c).1 := by
  have hcn := h.2.1.2.2.1 c hc
  rw [hKc] at hcn
  obtain ⟨k1, k2, k3, k4, k5, k6, k7, k8, k9, k10, -, k11, k12, k13, k14⟩ := hcn
  have k2 : M 24 (3 * s + c) = nx := k2
  have k3 : M 25 (3 * s + c) = pa := k3
  have k4 : M 26 (3 * s + c) = du := k4
  have k5 : M 27 (3 * s + c) = ta := k5
  have k6 : r.2 = ds ta du := k6
  have k7 : r.2 ≤ 2 := k7
  have k9 : ds pa nx ≤ 2 := k9
  have k11 : nx < 8 := k11
  have k12 : pa < 8 := k12
  have k13 : du < 8 := k13
  have k14 : ta < 8 := k14
  by_cases f1 : ds pa nx < ds pa ak
  · have e1 : mMove M s c kd nb ak v = mFault M s c := if_pos (by rw [k3, k2]; exact f1)
    have e2 : cFlow st nx pa du ta r p = (7, cNew 5 r) := by
      rw [cFlow, if_neg (by omega), if_pos (Or.inl (by rw [p3]; exact f1))]
    rw [e1, e2]
    obtain ⟨a, b⟩ := (h.renew hc (show 5 < 6 by decide) r).answer hs (rk := 7) (by decide) (by decide) hc
    exact ⟨a, b.of ((mS_ne (by decide)).trans (mRenew_lo (by decide)))⟩
  · by_cases f2 : kd = 5 ∧ (nb ≠ du ∨ r.2 = 2)
    · have e1 : mMove M s c kd nb ak v = mFault (mS M 25 (3 * s + c) ak) s c := (if_neg (by rw [k3, k2]; exact f1)).trans (if_pos (by rw [k4, k5, ← k6]; exact f2))
      have e2 : cFlow st nx pa du ta r p = (7, cNew 5 r) := by
        rw [cFlow, if_neg (by omega), if_pos (Or.inr ⟨p1.trans f2.1, by rw [p2]; omega⟩)]
      rw [e1, e2]
      have h1 : RX (mS (mRenew (mS M 25 (3 * s + c) ak) (3 * s + c)) 23 (3 * s + c) 5) s (lk, sn, ac, ex, tr, rj) O (va_up K c (cNew 5 r)) L P := by
        have e : mRenew (mS M 25 (3 * s + c) ak) (3 * s + c) = mRenew M (3 * s + c) := by
          funext i j
          by_cases q : j = 3 * s + c ∧ i = 25
          · obtain ⟨rfl, rfl⟩ := q
            rw [(mRenew_at (A := mS M 25 (3 * s + c) ak) (k := 3 * s + c)).2.2.1, (mRenew_at (A := M) (k := 3 * s + c)).2.2.1, va_up_self, va_up_self]
          · unfold mRenew
            by_cases q24 : i = 24
            · subst q24
              show va_up (M 24) _ _ j = va_up (M 24) _ _ j
              rfl
            by_cases q26 : i = 26
            · subst q26
              rfl
            by_cases q27 : i = 27
            · subst q27
              rfl
            by_cases q25 : i = 25
            · have qj : j ≠ 3 * s + c := fun z => q ⟨z, q25⟩
              rw [mS_at (Or.inr qj), mS_at (Or.inr qj), mS_at (Or.inr qj), mS_at (Or.inr qj), mS_at (Or.inr qj), mS_at (Or.inr qj), mS_at (Or.inr qj), mS_at (Or.inr qj), mS_at (Or.inr qj)]
            · rw [mS_ne q27, mS_ne q26, mS_ne q25, mS_ne q24, mS_ne q25, mS_ne q27, mS_ne q26, mS_ne q25, mS_ne q24]
        rw [e]
        exact h.renew hc (by decide) r
      obtain ⟨a, b⟩ := h1.answer hs (rk := 7) (by decide) (by decide) hc
      exact ⟨a, b.of (((mS_ne (by decide)).trans (mRenew_lo (by decide))).trans (mS_ne (by decide)))⟩
    · have hd2 : ds ak nx ≤ 2 := by rw [ds_sub k12 hak k11 (by omega)]; omega
      by_cases f3 : kd = 5
      · have hr : r.2 < 2 := by omega
        have hdu : nb = du := by omega
        have e1 : mMove M s c kd nb ak v = mS (mS (mS M 25 (3 * s + c) ak) 28 (2 * (3 * s + c) + r.2) v) 26 (3 * s + c) (af du) := by
          rw [mMove, if_neg (by rw [k3, k2]; exact f1), if_neg (by rw [k4, k5, ← k6]; exact f2), if_pos f3, k4, k5, ← k6]
        have e2 : cFlow st nx pa du ta r p = (0, st, nx, ak, af du, ta, (va_up r.1 r.2 v, r.2 + 1)) := by
          rw [cFlow, if_neg (by omega), if_neg (by rw [p1, p2, p3]; omega), if_pos (p1.trans f3), p3, p4, show rAdd 2 r v = (va_up r.1 r.2 v, r.2 + 1) from if_pos hr]
        rw [e1, e2]
        refine RX.quiet (h.chan hc (((h.1.set 25 (show ak < 8 from hak)).set 28 (show v < 1048576 by omega)).set 26 (af_lt _)) (fun i hi => (mS_ne (by omega)).trans ((mS_ne (by omega)).trans (mS_ne (by omega)))) (fun i j a b e => by rw [mS_at (Or.inr e), mS_ne (by omega), mS_at (Or.inr e)]) (fun j hj => by rw [mS_ne (by decide), mS_at (by omega), mS_ne (by decide)]) ?_) ((mS_ne (by decide)).trans ((mS_ne (by decide)).trans (mS_ne (by decide))))
        refine ⟨?_, ?_, ?_, ?_, ?_, ?_, ?_, fun j hj => ?_, hd2, fun z => absurd hst z, by show st < 6; omega, k11, hak, af_lt _, k14⟩
        · rw [mS_ne (by decide), mS_ne (by decide), mS_ne (by decide)]; exact k1
        · rw [mS_ne (by decide), mS_ne (by decide), mS_ne (by decide)]; exact k2
        · rw [mS_ne (by decide), mS_ne (by decide), mS_same, va_up_self]
        · rw [mS_same, va_up_self]
        · rw [mS_ne (by decide), mS_ne (by decide), mS_ne (by decide)]; exact k5
        · show r.2 + 1 = ds ta (af du)
          rw [ds_af k14 k13 (by omega)]; omega
        · show r.2 + 1 ≤ 2
          omega
        · have hj : j < r.2 + 1 := hj
          show mS (mS (mS M 25 (3 * s + c) ak) 28 (2 * (3 * s + c) + r.2) v) 26 (3 * s + c) (af du) 28 (2 * (3 * s + c) + j) = va_up r.1 r.2 v j ∧ va_up r.1 r.2 v j < 512
          by_cases q : j = r.2
          · rw [q, mS_ne (by decide), mS_same, va_up_self, va_up_self]
            exact ⟨rfl, hv⟩
          · rw [mS_ne (by decide), mS_at (by omega), mS_ne (by decide), va_up_ne _ _ q]
            exact k8 j (by show j < r.2; omega)
      · have e1 : mMove M s c kd nb ak v = mS M 25 (3 * s + c) ak := by
          rw [mMove, if_neg (by rw [k3, k2]; exact f1), if_neg (by rw [k4, k5, ← k6]; exact f2), if_neg f3]
        have e2 : cFlow st nx pa du ta r p = (0, st, nx, ak, du, ta, r) := by
          rw [cFlow, if_neg (by omega), if_neg (by rw [p1, p2, p3]; omega), if_neg (by rw [p1]; exact f3), p3]
        rw [e1, e2]
        refine RX.quiet (h.chan hc (h.1.set 25 (show ak < 8 from hak)) (fun i hi => mS_ne (by omega)) (fun i j a b e => mS_at (Or.inr e)) (fun j hj => by rw [mS_ne (by decide)]) ?_) (mS_ne (by decide))
        refine ⟨?_, ?_, ?_, ?_, ?_, k6, k7, fun j hj => ?_, hd2, fun z => absurd hst z, by show st < 6; omega, k11, hak, k13, k14⟩
        · rw [mS_ne (by decide)]; exact k1
        · rw [mS_ne (by decide)]; exact k2
        · rw [mS_same, va_up_self]
        · rw [mS_ne (by decide)]; exact k4
        · rw [mS_ne (by decide)]; exact k5
        · rw [mS_ne (by decide)]
          exact k8 j hj
