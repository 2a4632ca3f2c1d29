/-! How the class's state and the reference's stand to each other, piece by piece. -/
def fB (kd nb ak c1 c2 c3 c4 c5 : Nat) : Prop := 0 < kd ∧ kd < 6 ∧ nb < 8 ∧ ak < 8 ∧ c1 < 9 ∧ c2 < 3 ∧ c3 < 8 ∧ c4 < 8 ∧ c5 < 512 ∧ (kd = 3 → 0 < c1)
def pB (kd c nb ak v : Nat) : Prop := 0 < kd ∧ kd < 9 ∧ c < 3 ∧ nb < 8 ∧ ak < 8 ∧ v < 512
def RLn (M : Nat → Nat → Nat) (s : Nat) (L : Rw_) : Prop := M 1 s = L.2 ∧ L.2 ≤ 12 ∧ ∀ j, j < L.2 → L.1 j = fr4 (M 2 (12 * s + j)) (M 3 (12 * s + j)) (M 4 (12 * s + j)) (pk5 (M 5 (12 * s + j)) (M 6 (12 * s + j)) (M 7 (12 * s + j)) (M 8 (12 * s + j)) (M 9 (12 * s + j))) ∧
  fB (M 2 (12 * s + j)) (M 3 (12 * s + j)) (M 4 (12 * s + j)) (M 5 (12 * s + j)) (M 6 (12 * s + j)) (M 7 (12 * s + j)) (M 8 (12 * s + j)) (M 9 (12 * s + j))
def ROt (M : Nat → Nat → Nat) (s : Nat) (O : Rw_) : Prop := M 17 s = O.2 ∧ O.2 ≤ 16 ∧ ∀ j, j < O.2 → O.1 j = pk5 (M 18 (16 * s + j)) (M 19 (16 * s + j)) (M 20 (16 * s + j)) (M 21 (16 * s + j)) (M 22 (16 * s + j)) ∧
  pB (M 18 (16 * s + j)) (M 19 (16 * s + j)) (M 20 (16 * s + j)) (M 21 (16 * s + j)) (M 22 (16 * s + j))
def RNm (M : Nat → Nat → Nat) (s : Nat) (n : Nm_) : Prop := M 10 s = n.1 ∧ M 11 s = n.2.1 ∧ M 12 s = n.2.2.1 ∧ M 13 s = n.2.2.2.1 ∧ M 14 s = n.2.2.2.2.1 ∧ M 15 s = n.2.2.2.2.2
def RCn (M : Nat → Nat → Nat) (k : Nat) (c : Cn_) : Prop := M 23 k = c.1 ∧ M 24 k = c.2.1 ∧ M 25 k = c.2.2.1 ∧ M 26 k = c.2.2.2.1 ∧ M 27 k = c.2.2.2.2.1 ∧ c.2.2.2.2.2.2 = ds c.2.2.2.2.1 c.2.2.2.1 ∧ c.2.2.2.2.2.2 ≤ 2 ∧ (∀ j, j < c.2.2.2.2.2.2 → M 28 (2 * k + j) = c.2.2.2.2.2.1 j ∧ c.2.2.2.2.2.1 j < 512) ∧
  ds c.2.2.1 c.2.1 ≤ 2 ∧ (c.1 ≠ 3 → c.2.1 = 0 ∧ c.2.2.1 = 0 ∧ c.2.2.2.1 = 0 ∧ c.2.2.2.2.1 = 0) ∧ c.1 < 6 ∧ c.2.1 < 8 ∧ c.2.2.1 < 8 ∧ c.2.2.2.1 < 8 ∧ c.2.2.2.2.1 < 8
/-! a piece looks at its own arrays alone -/
theorem RLn.of {M M' : Nat → Nat → Nat} {s : Nat} {L : Rw_} (h : RLn M s L) (e : ∀ i, i < 10 → M' i = M i) : RLn M' s L := by
  unfold RLn at *
  rw [e 1 (by decide), e 2 (by decide), e 3 (by decide), e 4 (by decide), e 5 (by decide), e 6 (by decide), e 7 (by decide), e 8 (by decide), e 9 (by decide)]
  exact h
theorem ROt.of {M M' : Nat → Nat → Nat} {s : Nat} {O : Rw_} (h : ROt M s O) (e : ∀ i, 17 ≤ i → i < 23 → M' i = M i) : ROt M' s O := by
  unfold ROt at *
  rw [e 17 (by decide) (by decide), e 18 (by decide) (by decide), e 19 (by decide) (by decide), e 20 (by decide) (by decide), e 21 (by decide) (by decide), e 22 (by decide) (by decide)]
  exact h
theorem RCn.of {M M' : Nat → Nat → Nat} {k : Nat} {c : Cn_} (h : RCn M k c) (e : ∀ i, 23 ≤ i → M' i = M i) : RCn M' k c := by
  unfold RCn at *
  rw [e 23 (by decide), e 24 (by decide), e 25 (by decide), e 26 (by decide), e 27 (by decide), e 28 (by decide)]
  exact h
theorem RNm.of {M M' : Nat → Nat → Nat} {s : Nat} {n : Nm_} (h : RNm M s n) (e : ∀ i, 10 ≤ i → i < 16 → M' i = M i) : RNm M' s n := by
  unfold RNm at *
  rw [e 10 (by decide) (by decide), e 11 (by decide) (by decide), e 12 (by decide) (by decide), e 13 (by decide) (by decide), e 14 (by decide) (by decide), e 15 (by decide) (by decide)]
  exact h
/-! transmit -/
theorem mTr_at {M : Nat → Nat → Nat} {s kd nb ak c1 c2 c3 c4 c5 : Nat} (h : M 1 (1 - s) ≠ 12) :
    mTr M s kd nb ak c1 c2 c3 c4 c5 1 = va_up (M 1) (1 - s) (M 1 (1 - s) + 1) ∧ mTr M s kd nb ak c1 c2 c3 c4 c5 2 = va_up (M 2) (12 * (1 - s) + M 1 (1 - s)) kd ∧ mTr M s kd nb ak c1 c2 c3 c4 c5 3 = va_up (M 3) (12 * (1 - s) + M 1 (1 - s)) nb ∧
    mTr M s kd nb ak c1 c2 c3 c4 c5 4 = va_up (M 4) (12 * (1 - s) + M 1 (1 - s)) ak ∧ mTr M s kd nb ak c1 c2 c3 c4 c5 5 = va_up (M 5) (12 * (1 - s) + M 1 (1 - s)) c1 ∧ mTr M s kd nb ak c1 c2 c3 c4 c5 6 = va_up (M 6) (12 * (1 - s) + M 1 (1 - s)) c2 ∧
    mTr M s kd nb ak c1 c2 c3 c4 c5 7 = va_up (M 7) (12 * (1 - s) + M 1 (1 - s)) c3 ∧ mTr M s kd nb ak c1 c2 c3 c4 c5 8 = va_up (M 8) (12 * (1 - s) + M 1 (1 - s)) c4 ∧ mTr M s kd nb ak c1 c2 c3 c4 c5 9 = va_up (M 9) (12 * (1 - s) + M 1 (1 - s)) c5 := by
  unfold mTr
  rw [if_neg h]
  exact ⟨rfl, rfl, rfl, rfl, rfl, rfl, rfl, rfl, rfl⟩
theorem RLn.tr {M : Nat → Nat → Nat} {s : Nat} {L : Rw_} (h : RLn M (1 - s) L) {kd nb ak c1 c2 c3 c4 c5 : Nat} (hb : fB kd nb ak c1 c2 c3 c4 c5) : RLn (mTr M s kd nb ak c1 c2 c3 c4 c5) (1 - s) (rAdd 12 L (fr4 kd nb ak (pk5 c1 c2 c3 c4 c5))) := by
  obtain ⟨h1, h2, h3⟩ := h
  by_cases hf : M 1 (1 - s) = 12
  · rw [show mTr M s kd nb ak c1 c2 c3 c4 c5 = M from if_pos hf, show rAdd 12 L (fr4 kd nb ak (pk5 c1 c2 c3 c4 c5)) = L from if_neg (by omega)]
    exact ⟨h1, h2, h3⟩
  · obtain ⟨e1, e2, e3, e4, e5, e6, e7, e8, e9⟩ := mTr_at (kd := kd) (nb := nb) (ak := ak) (c1 := c1) (c2 := c2) (c3 := c3) (c4 := c4) (c5 := c5) hf
    rw [show rAdd 12 L (fr4 kd nb ak (pk5 c1 c2 c3 c4 c5)) = (va_up L.1 L.2 (fr4 kd nb ak (pk5 c1 c2 c3 c4 c5)), L.2 + 1) from if_pos (by omega)]
    unfold RLn
    rw [e1, e2, e3, e4, e5, e6, e7, e8, e9, va_up_self]
    refine ⟨by show _ = L.2 + 1; omega, by show L.2 + 1 ≤ 12; omega, fun j hj => ?_⟩
    have hj : j < L.2 + 1 := hj
    by_cases hjl : j = L.2
    · rw [hjl, ← h1]
      simp only [va_up_self]
      exact ⟨trivial, hb⟩
    · have hne : 12 * (1 - s) + j ≠ 12 * (1 - s) + M 1 (1 - s) := by omega
      simp only [va_up_ne _ _ hne, va_up_ne _ _ hjl]
      exact h3 j (by omega)
theorem RLn.trO {M : Nat → Nat → Nat} {s : Nat} (hs : s < 2) {L : Rw_} (h : RLn M s L) (hM : M 1 (1 - s) < 13) {kd nb ak c1 c2 c3 c4 c5 : Nat} : RLn (mTr M s kd nb ak c1 c2 c3 c4 c5) s L := by
  obtain ⟨h1, h2, h3⟩ := h
  by_cases hf : M 1 (1 - s) = 12
  · rw [show mTr M s kd nb ak c1 c2 c3 c4 c5 = M from if_pos hf]
    exact ⟨h1, h2, h3⟩
  · obtain ⟨e1, e2, e3, e4, e5, e6, e7, e8, e9⟩ := mTr_at (kd := kd) (nb := nb) (ak := ak) (c1 := c1) (c2 := c2) (c3 := c3) (c4 := c4) (c5 := c5) hf
    unfold RLn
    rw [e1, e2, e3, e4, e5, e6, e7, e8, e9, va_up_ne _ _ (show s ≠ 1 - s by omega)]
    refine ⟨h1, h2, fun j hj => ?_⟩
    have hne : 12 * s + j ≠ 12 * (1 - s) + M 1 (1 - s) := by omega
    simp only [va_up_ne _ _ hne]
    exact h3 j hj
/-! OUT -/
theorem ROt.put {M : Nat → Nat → Nat} {s : Nat} {O : Rw_} (h : ROt M s O) {kd c nb ak v : Nat} (hb : pB kd c nb ak v) : ROt (mPut M s kd c nb ak v) s (rAdd 16 O (pk5 kd c nb ak v)) := by
  obtain ⟨h1, h2, h3⟩ := h
  by_cases hf : M 17 s < 16
  · rw [show mPut M s kd c nb ak v = mS (mS (mS (mS (mS (mS M 17 s (M 17 s + 1)) 18 (16 * s + M 17 s) kd) 19 (16 * s + M 17 s) c) 20 (16 * s + M 17 s) nb) 21 (16 * s + M 17 s) ak) 22 (16 * s + M 17 s) v from if_pos hf,
      show rAdd 16 O (pk5 kd c nb ak v) = (va_up O.1 O.2 (pk5 kd c nb ak v), O.2 + 1) from if_pos (by omega)]
    show va_up (M 17) s (M 17 s + 1) s = O.2 + 1 ∧ O.2 + 1 ≤ 16 ∧ ∀ j, j < O.2 + 1 → va_up O.1 O.2 (pk5 kd c nb ak v) j = pk5 (va_up (M 18) (16 * s + M 17 s) kd (16 * s + j)) (va_up (M 19) (16 * s + M 17 s) c (16 * s + j)) (va_up (M 20) (16 * s + M 17 s) nb (16 * s + j)) (va_up (M 21) (16 * s + M 17 s) ak (16 * s + j)) (va_up (M 22) (16 * s + M 17 s) v (16 * s + j)) ∧
      pB (va_up (M 18) (16 * s + M 17 s) kd (16 * s + j)) (va_up (M 19) (16 * s + M 17 s) c (16 * s + j)) (va_up (M 20) (16 * s + M 17 s) nb (16 * s + j)) (va_up (M 21) (16 * s + M 17 s) ak (16 * s + j)) (va_up (M 22) (16 * s + M 17 s) v (16 * s + j))
    rw [va_up_self]
    refine ⟨by omega, by omega, fun j hj => ?_⟩
    by_cases hjl : j = O.2
    · rw [hjl, ← h1]
      simp only [va_up_self]
      exact ⟨trivial, hb⟩
    · have hne : 16 * s + j ≠ 16 * s + M 17 s := by omega
      simp only [va_up_ne _ _ hne, va_up_ne _ _ hjl]
      exact h3 j (by omega)
  · rw [show mPut M s kd c nb ak v = M from if_neg hf, show rAdd 16 O (pk5 kd c nb ak v) = O from if_neg (by omega)]
    exact ⟨h1, h2, h3⟩
/-! what a step at station s leaves alone -/
def own (s i k : Nat) : Prop := (10 ≤ i ∧ i < 18 ∧ k = s) ∨ (18 ≤ i ∧ i < 23 ∧ 16 * s ≤ k ∧ k < 16 * s + 16) ∨ (23 ≤ i ∧ i < 28 ∧ 3 * s ≤ k ∧ k < 3 * s + 3) ∨ (i = 28 ∧ 6 * s ≤ k ∧ k < 6 * s + 6)
def Keep (s : Nat) (M M' : Nat → Nat → Nat) : Prop := ∀ i j, 10 ≤ i → ¬ own s i j → M' i j = M i j
theorem Keep.rf {s : Nat} {M : Nat → Nat → Nat} : Keep s M M := fun _ _ _ _ => rfl
theorem Keep.tr {s : Nat} {A B C : Nat → Nat → Nat} (h : Keep s A B) (g : Keep s B C) : Keep s A C := fun i j h1 h2 => (g i j h1 h2).trans (h i j h1 h2)
theorem Keep.set {s i k x : Nat} {A B : Nat → Nat → Nat} (h : Keep s A B) (ho : i < 10 ∨ own s i k) : Keep s A (mS B i k x) := by
  intro a b h1 h2
  rw [← h a b h1 h2]
  unfold mS va_up
  split
  next e =>
    subst e
    show (if b = k then x else B a b) = B a b
    split
    next e2 =>
      subst e2
      rcases ho with ho | ho
      · omega
      · exact absurd ho h2
    · rfl
  · rfl
theorem Keep.mtr {s : Nat} {A B : Nat → Nat → Nat} (h : Keep s A B) {kd nb ak c1 c2 c3 c4 c5 : Nat} : Keep s A (mTr B s kd nb ak c1 c2 c3 c4 c5) := fun i j h1 h2 => by
  rw [mTr_hi (by omega)]
  exact h i j h1 h2
theorem own16 (s : Nat) : own s 16 s := Or.inl ⟨by decide, by decide, rfl⟩
theorem own_n {s i : Nat} (h1 : 10 ≤ i) (h2 : i < 18) : own s i s := Or.inl ⟨h1, h2, rfl⟩
theorem Keep.carry {s k : Nat} {A B : Nat → Nat → Nat} (h : Keep s A B) : Keep s A (mCarry B s k) := (Keep.mtr h).set (Or.inr (own16 s))
theorem Keep.pump1 {s : Nat} {A B : Nat → Nat → Nat} (h : Keep s A B) : Keep s A (mPump1 B s) := h.carry.set (Or.inr (own_n (by decide) (by decide)))
theorem Keep.pump : ∀ (n : Nat) {s : Nat} {A B : Nat → Nat → Nat} (_ : Keep s A B), Keep s A (mPump n B s)
  | 0, _, _, _, h => h
  | n + 1, s, A, B, h => by
    unfold mPump
    split
    · exact Keep.pump n h.pump1
    · exact h
theorem Keep.agR : ∀ (n : Nat) {s k : Nat} {A B : Nat → Nat → Nat} (_ : Keep s A B), Keep s A (mAgR n B s k)
  | 0, _, _, _, _, h => h
  | n + 1, _, _, _, _, h => Keep.agR n h.carry
theorem own_p {s i j : Nat} (h1 : 18 ≤ i) (h2 : i < 23) (h3 : j < 16) : own s i (16 * s + j) := Or.inr (Or.inl ⟨h1, h2, by omega, by omega⟩)
theorem own_c {s i c : Nat} (h1 : 23 ≤ i) (h2 : i < 28) (h3 : c < 3) : own s i (3 * s + c) := Or.inr (Or.inr (Or.inl ⟨h1, h2, by omega, by omega⟩))
theorem Keep.put {s : Nat} {A B : Nat → Nat → Nat} (h : Keep s A B) {kd c nb ak v : Nat} : Keep s A (mPut B s kd c nb ak v) := by
  unfold mPut
  split
  next e => exact (((((h.set (Or.inr (own_n (by decide) (by decide)))).set (Or.inr (own_p (by decide) (by decide) e))).set (Or.inr (own_p (by decide) (by decide) e))).set (Or.inr (own_p (by decide) (by decide) e))).set (Or.inr (own_p (by decide) (by decide) e))).set (Or.inr (own_p (by decide) (by decide) e))
  · exact h
theorem Keep.post {s : Nat} {A B : Nat → Nat → Nat} (h : Keep s A B) {kd c nb ak v : Nat} : Keep s A (mPost B s kd c nb ak v) := Keep.pump 4 h.put
theorem Keep.renew {s c : Nat} {A B : Nat → Nat → Nat} (h : Keep s A B) (hc : c < 3) : Keep s A (mRenew B (3 * s + c)) := (((h.set (Or.inr (own_c (by decide) (by decide) hc))).set (Or.inr (own_c (by decide) (by decide) hc))).set (Or.inr (own_c (by decide) (by decide) hc))).set (Or.inr (own_c (by decide) (by decide) hc))
theorem Keep.idle {s c : Nat} {A B : Nat → Nat → Nat} (h : Keep s A B) (hc : c < 3) : Keep s A (mIdle B (3 * s + c)) := (h.set (Or.inr (own_c (by decide) (by decide) hc))).renew hc
theorem Keep.clean {s : Nat} {A B : Nat → Nat → Nat} (h : Keep s A B) : Keep s A (mClean B s) := ((((((((h.set (Or.inr (own_n (by decide) (by decide)))).set (Or.inr (own_n (by decide) (by decide)))).set (Or.inr (own_n (by decide) (by decide)))).set (Or.inr (own_n (by decide) (by decide)))).set (Or.inr (own_n (by decide) (by decide)))).set (Or.inr (own_n (by decide) (by decide)))).idle (c := 0) (by decide)).idle (c := 0 + 1) (by decide)).idle (c := 0 + 1 + 1) (by decide)
theorem Keep.shR : ∀ (k : Nat) {s p n : Nat} {A B : Nat → Nat → Nat} (_ : Keep s A B) (_ : 16 * s ≤ p) (_ : p + k ≤ 16 * s + 16), Keep s A (mShR k B p n)
  | 0, _, _, _, _, _, h, _, _ => h
  | k + 1, s, p, n, A, B, h, h1, h2 => Keep.shR k (B := mSh1 B p n) (((((h.set (Or.inr (Or.inr (Or.inl ⟨by decide, by decide, h1, by omega⟩)))).set (Or.inr (Or.inr (Or.inl ⟨by decide, by decide, h1, by omega⟩)))).set (Or.inr (Or.inr (Or.inl ⟨by decide, by decide, h1, by omega⟩)))).set (Or.inr (Or.inr (Or.inl ⟨by decide, by decide, h1, by omega⟩)))).set (Or.inr (Or.inr (Or.inl ⟨by decide, by decide, h1, by omega⟩)))) (by omega) (by omega)
/-! one station -/
def RS (M : Nat → Nat → Nat) (s : Nat) (n : Nm_) (O : Rw_) (K : Nat → Cn_) : Prop := RNm M s n ∧ ROt M s O ∧ (∀ c, c < 3 → RCn M (3 * s + c) (K c)) ∧ ds n.2.2.1 n.2.1 ≤ 3 ∧ ds n.2.2.1 n.2.1 ≤ O.2 ∧ n.2.2.2.2.1 < 4
theorem RCn.at {M M' : Nat → Nat → Nat} {k : Nat} {c : Cn_} (h : RCn M k c) (e : ∀ i, 23 ≤ i → i < 28 → M' i k = M i k) (e2 : ∀ j, j < 2 → M' 28 (2 * k + j) = M 28 (2 * k + j)) : RCn M' k c := by
  obtain ⟨h1, h2, h3, h4, h5, h6, h7, h8, h9⟩ := h
  refine ⟨(e 23 (by decide) (by decide)).trans h1, (e 24 (by decide) (by decide)).trans h2, (e 25 (by decide) (by decide)).trans h3, (e 26 (by decide) (by decide)).trans h4, (e 27 (by decide) (by decide)).trans h5, h6, h7, fun j hj => ⟨(e2 j (by omega)).trans (h8 j hj).1, (h8 j hj).2⟩, h9⟩
theorem RS.other {M M' : Nat → Nat → Nat} {s t : Nat} (hs : s < 2) (ht : t < 2) (hst : t ≠ s) {n : Nm_} {O : Rw_} {K : Nat → Cn_} (h : RS M t n O K) (k : Keep s M M') : RS M' t n O K := by
  obtain ⟨⟨a1, a2, a3, a4, a5, a6⟩, ⟨b1, b2, b3⟩, hc, h4, h5, h6⟩ := h
  have e : ∀ i, 10 ≤ i → i < 18 → M' i t = M i t := fun i h1 h2 => k i t h1 (by unfold own; omega)
  have f : ∀ i j, 18 ≤ i → i < 23 → j < 16 → M' i (16 * t + j) = M i (16 * t + j) := fun i j h1 h2 h3 => k i _ (by omega) (by unfold own; omega)
  refine ⟨⟨(e 10 (by decide) (by decide)).trans a1, (e 11 (by decide) (by decide)).trans a2, (e 12 (by decide) (by decide)).trans a3, (e 13 (by decide) (by decide)).trans a4, (e 14 (by decide) (by decide)).trans a5, (e 15 (by decide) (by decide)).trans a6⟩, ⟨(e 17 (by decide) (by decide)).trans b1, b2, fun j hj => ?_⟩, fun c hcc => (hc c hcc).at (fun i h1 h2 => k i _ (by omega) (by unfold own; omega)) (fun j hj => k 28 _ (by decide) (by unfold own; omega)), h4, h5, h6⟩
  rw [f 18 j (by decide) (by decide) (by omega), f 19 j (by decide) (by decide) (by omega), f 20 j (by decide) (by decide) (by omega), f 21 j (by decide) (by decide) (by omega), f 22 j (by decide) (by decide) (by omega)]
  exact b3 j hj
