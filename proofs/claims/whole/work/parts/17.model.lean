/-! The reference's world: one object, 28 arrays; M i j is what array i has at place j. -/
def mW (h : Nat) (ad : Nat → Nat) (ca : Nat → ClassId) (co : Nat) (M : Nat → Nat → Nat) : va_W := [(h, .inr (4, [.int (nI co), .ref (ad 1), .ref (ad 2), .ref (ad 3), .ref (ad 4), .ref (ad 5), .ref (ad 6), .ref (ad 7), .ref (ad 8), .ref (ad 9), .ref (ad 10), .ref (ad 11), .ref (ad 12), .ref (ad 13), .ref (ad 14), .ref (ad 15), .ref (ad 16), .ref (ad 17), .ref (ad 18), .ref (ad 19), .ref (ad 20), .ref (ad 21), .ref (ad 22), .ref (ad 23), .ref (ad 24), .ref (ad 25), .ref (ad 26), .ref (ad 27), .ref (ad 28)])), (ad 1, .inl (ca 0, 2, .inl (fun j => nI (M 1 j)))), (ad 2, .inl (ca 0, 24, .inl (fun j => nI (M 2 j)))), (ad 3, .inl (ca 0, 24, .inl (fun j => nI (M 3 j)))), (ad 4, .inl (ca 0, 24, .inl (fun j => nI (M 4 j)))), (ad 5, .inl (ca 0, 24, .inl (fun j => nI (M 5 j)))), (ad 6, .inl (ca 0, 24, .inl (fun j => nI (M 6 j)))), (ad 7, .inl (ca 0, 24, .inl (fun j => nI (M 7 j)))), (ad 8, .inl (ca 0, 24, .inl (fun j => nI (M 8 j)))), (ad 9, .inl (ca 0, 24, .inl (fun j => nI (M 9 j)))), (ad 10, .inl (ca 0, 2, .inl (fun j => nI (M 10 j)))), (ad 11, .inl (ca 0, 2, .inl (fun j => nI (M 11 j)))), (ad 12, .inl (ca 0, 2, .inl (fun j => nI (M 12 j)))), (ad 13, .inl (ca 0, 2, .inl (fun j => nI (M 13 j)))), (ad 14, .inl (ca 0, 2, .inl (fun j => nI (M 14 j)))), (ad 15, .inl (ca 1, 2, .inl (fun j => nI (M 15 j)))), (ad 16, .inl (ca 1, 2, .inl (fun j => nI (M 16 j)))), (ad 17, .inl (ca 0, 2, .inl (fun j => nI (M 17 j)))), (ad 18, .inl (ca 0, 32, .inl (fun j => nI (M 18 j)))), (ad 19, .inl (ca 0, 32, .inl (fun j => nI (M 19 j)))), (ad 20, .inl (ca 0, 32, .inl (fun j => nI (M 20 j)))), (ad 21, .inl (ca 0, 32, .inl (fun j => nI (M 21 j)))), (ad 22, .inl (ca 0, 32, .inl (fun j => nI (M 22 j)))), (ad 23, .inl (ca 0, 6, .inl (fun j => nI (M 23 j)))), (ad 24, .inl (ca 0, 6, .inl (fun j => nI (M 24 j)))), (ad 25, .inl (ca 0, 6, .inl (fun j => nI (M 25 j)))), (ad 26, .inl (ca 0, 6, .inl (fun j => nI (M 26 j)))), (ad 27, .inl (ca 0, 6, .inl (fun j => nI (M 27 j)))), (ad 28, .inl (ca 0, 12, .inl (fun j => nI (M 28 j))))]
def mS (M : Nat → Nat → Nat) (i k x : Nat) : Nat → Nat → Nat := va_up M i (va_up (M i) k x)
section MO
variable {h : Nat} {ad : Nat → Nat} {ca : Nat → ClassId} {co : Nat} {M : Nat → Nat → Nat} {k x : Nat}
theorem mS_same (i : Nat) : mS M i k x i = va_up (M i) k x := by unfold mS; exact va_up_self _ _ _
theorem mS_ne {i j : Nat} (hj : j ≠ i) : mS M i k x j = M j := by unfold mS; exact va_up_ne _ _ hj
theorem mo_set_1 : (mW h ad ca co M).set 1 (ad 1, .inl (ca 0, 2, .inl (fun j => nI (va_up (M 1) k x j)))) = mW h ad ca co (mS M 1 k x) := rfl
theorem mo_set_2 : (mW h ad ca co M).set 2 (ad 2, .inl (ca 0, 24, .inl (fun j => nI (va_up (M 2) k x j)))) = mW h ad ca co (mS M 2 k x) := rfl
theorem mo_set_3 : (mW h ad ca co M).set 3 (ad 3, .inl (ca 0, 24, .inl (fun j => nI (va_up (M 3) k x j)))) = mW h ad ca co (mS M 3 k x) := rfl
theorem mo_set_4 : (mW h ad ca co M).set 4 (ad 4, .inl (ca 0, 24, .inl (fun j => nI (va_up (M 4) k x j)))) = mW h ad ca co (mS M 4 k x) := rfl
theorem mo_set_5 : (mW h ad ca co M).set 5 (ad 5, .inl (ca 0, 24, .inl (fun j => nI (va_up (M 5) k x j)))) = mW h ad ca co (mS M 5 k x) := rfl
theorem mo_set_6 : (mW h ad ca co M).set 6 (ad 6, .inl (ca 0, 24, .inl (fun j => nI (va_up (M 6) k x j)))) = mW h ad ca co (mS M 6 k x) := rfl
theorem mo_set_7 : (mW h ad ca co M).set 7 (ad 7, .inl (ca 0, 24, .inl (fun j => nI (va_up (M 7) k x j)))) = mW h ad ca co (mS M 7 k x) := rfl
theorem mo_set_8 : (mW h ad ca co M).set 8 (ad 8, .inl (ca 0, 24, .inl (fun j => nI (va_up (M 8) k x j)))) = mW h ad ca co (mS M 8 k x) := rfl
theorem mo_set_9 : (mW h ad ca co M).set 9 (ad 9, .inl (ca 0, 24, .inl (fun j => nI (va_up (M 9) k x j)))) = mW h ad ca co (mS M 9 k x) := rfl
theorem mo_set_10 : (mW h ad ca co M).set 10 (ad 10, .inl (ca 0, 2, .inl (fun j => nI (va_up (M 10) k x j)))) = mW h ad ca co (mS M 10 k x) := rfl
theorem mo_set_11 : (mW h ad ca co M).set 11 (ad 11, .inl (ca 0, 2, .inl (fun j => nI (va_up (M 11) k x j)))) = mW h ad ca co (mS M 11 k x) := rfl
theorem mo_set_12 : (mW h ad ca co M).set 12 (ad 12, .inl (ca 0, 2, .inl (fun j => nI (va_up (M 12) k x j)))) = mW h ad ca co (mS M 12 k x) := rfl
theorem mo_set_13 : (mW h ad ca co M).set 13 (ad 13, .inl (ca 0, 2, .inl (fun j => nI (va_up (M 13) k x j)))) = mW h ad ca co (mS M 13 k x) := rfl
theorem mo_set_14 : (mW h ad ca co M).set 14 (ad 14, .inl (ca 0, 2, .inl (fun j => nI (va_up (M 14) k x j)))) = mW h ad ca co (mS M 14 k x) := rfl
theorem mo_set_15 : (mW h ad ca co M).set 15 (ad 15, .inl (ca 1, 2, .inl (fun j => nI (va_up (M 15) k x j)))) = mW h ad ca co (mS M 15 k x) := rfl
theorem mo_set_16 : (mW h ad ca co M).set 16 (ad 16, .inl (ca 1, 2, .inl (fun j => nI (va_up (M 16) k x j)))) = mW h ad ca co (mS M 16 k x) := rfl
theorem mo_set_17 : (mW h ad ca co M).set 17 (ad 17, .inl (ca 0, 2, .inl (fun j => nI (va_up (M 17) k x j)))) = mW h ad ca co (mS M 17 k x) := rfl
theorem mo_set_18 : (mW h ad ca co M).set 18 (ad 18, .inl (ca 0, 32, .inl (fun j => nI (va_up (M 18) k x j)))) = mW h ad ca co (mS M 18 k x) := rfl
theorem mo_set_19 : (mW h ad ca co M).set 19 (ad 19, .inl (ca 0, 32, .inl (fun j => nI (va_up (M 19) k x j)))) = mW h ad ca co (mS M 19 k x) := rfl
theorem mo_set_20 : (mW h ad ca co M).set 20 (ad 20, .inl (ca 0, 32, .inl (fun j => nI (va_up (M 20) k x j)))) = mW h ad ca co (mS M 20 k x) := rfl
theorem mo_set_21 : (mW h ad ca co M).set 21 (ad 21, .inl (ca 0, 32, .inl (fun j => nI (va_up (M 21) k x j)))) = mW h ad ca co (mS M 21 k x) := rfl
theorem mo_set_22 : (mW h ad ca co M).set 22 (ad 22, .inl (ca 0, 32, .inl (fun j => nI (va_up (M 22) k x j)))) = mW h ad ca co (mS M 22 k x) := rfl
theorem mo_set_23 : (mW h ad ca co M).set 23 (ad 23, .inl (ca 0, 6, .inl (fun j => nI (va_up (M 23) k x j)))) = mW h ad ca co (mS M 23 k x) := rfl
theorem mo_set_24 : (mW h ad ca co M).set 24 (ad 24, .inl (ca 0, 6, .inl (fun j => nI (va_up (M 24) k x j)))) = mW h ad ca co (mS M 24 k x) := rfl
theorem mo_set_25 : (mW h ad ca co M).set 25 (ad 25, .inl (ca 0, 6, .inl (fun j => nI (va_up (M 25) k x j)))) = mW h ad ca co (mS M 25 k x) := rfl
theorem mo_set_26 : (mW h ad ca co M).set 26 (ad 26, .inl (ca 0, 6, .inl (fun j => nI (va_up (M 26) k x j)))) = mW h ad ca co (mS M 26 k x) := rfl
theorem mo_set_27 : (mW h ad ca co M).set 27 (ad 27, .inl (ca 0, 6, .inl (fun j => nI (va_up (M 27) k x j)))) = mW h ad ca co (mS M 27 k x) := rfl
theorem mo_set_28 : (mW h ad ca co M).set 28 (ad 28, .inl (ca 0, 12, .inl (fun j => nI (va_up (M 28) k x j)))) = mW h ad ca co (mS M 28 k x) := rfl
theorem mo_code {c' : Nat} : (mW h ad ca co M).set 0 (h, .inr (4, ([.int (nI co), .ref (ad 1), .ref (ad 2), .ref (ad 3), .ref (ad 4), .ref (ad 5), .ref (ad 6), .ref (ad 7), .ref (ad 8), .ref (ad 9), .ref (ad 10), .ref (ad 11), .ref (ad 12), .ref (ad 13), .ref (ad 14), .ref (ad 15), .ref (ad 16), .ref (ad 17), .ref (ad 18), .ref (ad 19), .ref (ad 20), .ref (ad 21), .ref (ad 22), .ref (ad 23), .ref (ad 24), .ref (ad 25), .ref (ad 26), .ref (ad 27), .ref (ad 28)] : List Value).set 0 (.int (nI c')))) = mW h ad ca c' M := rfl
end MO
/-! the steps -/
def mTr (M : Nat → Nat → Nat) (s kd nb ak c1 c2 c3 c4 c5 : Nat) : Nat → Nat → Nat :=
  if M 1 (1 - s) = 12 then M else
    mS (mS (mS (mS (mS (mS (mS (mS (mS M 1 (1 - s) (M 1 (1 - s) + 1)) 2 (12 * (1 - s) + M 1 (1 - s)) kd) 3 (12 * (1 - s) + M 1 (1 - s)) nb) 4 (12 * (1 - s) + M 1 (1 - s)) ak) 5 (12 * (1 - s) + M 1 (1 - s)) c1) 6 (12 * (1 - s) + M 1 (1 - s)) c2) 7 (12 * (1 - s) + M 1 (1 - s)) c3) 8 (12 * (1 - s) + M 1 (1 - s)) c4) 9 (12 * (1 - s) + M 1 (1 - s)) c5
def mTrN (M : Nat → Nat → Nat) (s kd nb ak : Nat) : Nat → Nat → Nat := mTr M s kd nb ak 0 0 0 0 0
def mTrP (M : Nat → Nat → Nat) (s kd nb ak p : Nat) : Nat → Nat → Nat := mTr M s kd nb ak (M 18 p) (M 19 p) (M 20 p) (M 21 p) (M 22 p)
def mUn (M : Nat → Nat → Nat) (s : Nat) : Nat := ds (M 12 s) (M 11 s)
def mCarry (M : Nat → Nat → Nat) (s k : Nat) : Nat → Nat → Nat := mS (mTrP M s 3 ((M 12 s + k) % 8) (M 13 s) (16 * s + k)) 16 s 1
def mPump1 (M : Nat → Nat → Nat) (s : Nat) : Nat → Nat → Nat := mS (mCarry M s (mUn M s)) 11 s (af (mCarry M s (mUn M s) 11 s))
def mPump : Nat → (Nat → Nat → Nat) → Nat → Nat → Nat → Nat
  | 0, M, _ => M
  | n + 1, M, s => if M 10 s = 2 ∧ mUn M s < M 17 s ∧ mUn M s < 3 then mPump n (mPump1 M s) s else M
def mAgR : Nat → (Nat → Nat → Nat) → Nat → Nat → Nat → Nat → Nat
  | 0, M, _, _ => M
  | n + 1, M, s, k => mAgR n (mCarry M s k) s (k + 1)
def mAgain (M : Nat → Nat → Nat) (s : Nat) : Nat → Nat → Nat := mAgR (mUn M s) M s 0
def mPut (M : Nat → Nat → Nat) (s kd c nb ak v : Nat) : Nat → Nat → Nat :=
  if M 17 s < 16 then mS (mS (mS (mS (mS (mS M 17 s (M 17 s + 1)) 18 (16 * s + M 17 s) kd) 19 (16 * s + M 17 s) c) 20 (16 * s + M 17 s) nb) 21 (16 * s + M 17 s) ak) 22 (16 * s + M 17 s) v else M
def mPost (M : Nat → Nat → Nat) (s kd c nb ak v : Nat) : Nat → Nat → Nat := mPump 4 (mPut M s kd c nb ak v) s
def mRenew (M : Nat → Nat → Nat) (k : Nat) : Nat → Nat → Nat := mS (mS (mS (mS M 24 k 0) 25 k 0) 26 k 0) 27 k 0
def mIdle (M : Nat → Nat → Nat) (k : Nat) : Nat → Nat → Nat := mRenew (mS M 23 k 0) k
def mClean (M : Nat → Nat → Nat) (s : Nat) : Nat → Nat → Nat :=
  mIdle (mIdle (mIdle (mS (mS (mS (mS (mS (mS M 11 s 0) 12 s 0) 13 s 0) 14 s 0) 15 s 0) 17 s 0) (3 * s + 0)) (3 * s + (0 + 1))) (3 * s + (0 + 1 + 1))
def mSetUp (M : Nat → Nat → Nat) (s : Nat) : Nat → Nat → Nat := mTrN (mS (mClean M s) 10 s 1) s 1 0 0
def mSh1 (M : Nat → Nat → Nat) (p n : Nat) : Nat → Nat → Nat := mS (mS (mS (mS (mS M 18 p (M 18 (p + n))) 19 p (M 19 (p + n))) 20 p (M 20 (p + n))) 21 p (M 21 (p + n))) 22 p (M 22 (p + n))
def mShR : Nat → (Nat → Nat → Nat) → Nat → Nat → Nat → Nat → Nat
  | 0, M, _, _ => M
  | k + 1, M, p, n => mShR k (mSh1 M p n) (p + 1) n
def mConf (M : Nat → Nat → Nat) (s ak : Nat) : Nat → Nat → Nat :=
  if mUn M s < ds (M 12 s) ak then M else
    mS (mS (mShR (M 17 s - ds (M 12 s) ak) (mS M 17 s (M 17 s - ds (M 12 s) ak)) (16 * s) (ds (M 12 s) ak)) 12 s ak) 14 s (if 0 < ds (M 12 s) ak then 0 else M 14 s)
def mTk1 (M : Nat → Nat → Nat) (f : Nat) : Nat → Nat → Nat := mS (mS (mS (mS (mS (mS (mS (mS M 2 f (M 2 (f + 1))) 3 f (M 3 (f + 1))) 4 f (M 4 (f + 1))) 5 f (M 5 (f + 1))) 6 f (M 6 (f + 1))) 7 f (M 7 (f + 1))) 8 f (M 8 (f + 1))) 9 f (M 9 (f + 1))
def mTkR : Nat → (Nat → Nat → Nat) → Nat → Nat → Nat → Nat
  | 0, M, _ => M
  | k + 1, M, f => mTkR k (mTk1 M f) (f + 1)
def mTake (M : Nat → Nat → Nat) (s : Nat) : Nat → Nat → Nat := mTkR (M 1 s - 1) (mS M 1 s (M 1 s - 1)) (12 * s)
def mFault (M : Nat → Nat → Nat) (s c : Nat) : Nat → Nat → Nat := mPost (mS (mRenew M (3 * s + c)) 23 (3 * s + c) 5) s 7 c 0 0 0
def mMove (M : Nat → Nat → Nat) (s c kd nb ak v : Nat) : Nat → Nat → Nat :=
  if ds (M 25 (3 * s + c)) (M 24 (3 * s + c)) < ds (M 25 (3 * s + c)) ak then mFault M s c
  else if kd = 5 ∧ (nb ≠ M 26 (3 * s + c) ∨ ds (M 27 (3 * s + c)) (M 26 (3 * s + c)) = 2) then mFault (mS M 25 (3 * s + c) ak) s c
  else if kd = 5 then mS (mS (mS M 25 (3 * s + c) ak) 28 (2 * (3 * s + c) + ds (M 27 (3 * s + c)) (M 26 (3 * s + c))) v) 26 (3 * s + c) (af (M 26 (3 * s + c)))
  else mS M 25 (3 * s + c) ak
def mHear (M : Nat → Nat → Nat) (s c kd nb ak v : Nat) : Nat → Nat → Nat :=
  if kd = 1 then mS M 23 (3 * s + c) (if M 23 (3 * s + c) = 0 ∨ (M 23 (3 * s + c) = 1 ∧ s = 1) then 2 else M 23 (3 * s + c))
  else if kd = 2 then (if M 23 (3 * s + c) = 1 then mS (mRenew M (3 * s + c)) 23 (3 * s + c) 3 else M)
  else if kd = 3 then (if M 23 (3 * s + c) = 0 then M else if M 23 (3 * s + c) = 4 then mIdle M (3 * s + c) else mPost (mIdle M (3 * s + c)) s 4 c 0 0 0)
  else if kd = 4 then (if M 23 (3 * s + c) = 4 then mIdle M (3 * s + c) else M)
  else if kd = 7 then (if M 23 (3 * s + c) = 3 then mPost (mS (mRenew M (3 * s + c)) 23 (3 * s + c) 3) s 8 c 0 0 0 else if M 23 (3 * s + c) = 5 then mS (mRenew M (3 * s + c)) 23 (3 * s + c) 3 else M)
  else if kd = 8 then mS M 23 (3 * s + c) (if M 23 (3 * s + c) = 5 then 3 else M 23 (3 * s + c))
  else if M 23 (3 * s + c) = 3 then mMove M s c kd nb ak v else M
/-! bounds -/
def bd (i : Nat) : Nat := if i = 1 then 13 else if i = 10 then 3 else if i = 11 then 8 else if i = 12 then 8 else if i = 13 then 8 else if i = 14 then 5 else if i = 15 then 2 else if i = 16 then 2 else if i = 17 then 17 else if i = 23 then 6 else if i = 24 then 8 else if i = 25 then 8 else if i = 26 then 8 else if i = 27 then 8 else 1048576
theorem ite_le {p : Prop} [Decidable p] {a b c : Nat} (h1 : a ≤ c) (h2 : b ≤ c) : (if p then a else b) ≤ c := by
  by_cases h : p
  · rw [if_pos h]; exact h1
  · rw [if_neg h]; exact h2
def mOk (M : Nat → Nat → Nat) : Prop := ∀ i j, M i j < bd i
theorem mOk.set {M : Nat → Nat → Nat} (h : mOk M) (i : Nat) {k x : Nat} (hx : x < bd i) : mOk (mS M i k x) := by
  intro a b
  unfold mS va_up
  split
  next e =>
    subst e
    show (if b = k then x else M a b) < bd a
    split
    · exact hx
    · exact h _ _
  · exact h _ _
theorem mOk.big {M : Nat → Nat → Nat} (h : mOk M) (i j : Nat) : M i j < 1048576 := by
  have h1 := h i j
  have h2 : bd i ≤ 1048576 := by unfold bd; repeat (first | decide | (refine ite_le (by decide) ?_))
  omega
theorem mOk.tr {M : Nat → Nat → Nat} (h : mOk M) (s : Nat) {kd nb ak c1 c2 c3 c4 c5 : Nat} (h1 : kd < 1048576) (h2 : nb < 1048576) (h3 : ak < 1048576) (h4 : c1 < 1048576) (h5 : c2 < 1048576) (h6 : c3 < 1048576) (h7 : c4 < 1048576) (h8 : c5 < 1048576) : mOk (mTr M s kd nb ak c1 c2 c3 c4 c5) := by
  unfold mTr
  split
  · exact h
  next e =>
    have b : M 1 (1 - s) < 13 := h 1 _
    exact ((((((((h.set 1 (show _ < 13 by omega)).set 2 h1).set 3 h2).set 4 h3).set 5 h4).set 6 h5).set 7 h6).set 8 h7).set 9 h8
theorem mOk.trN {M : Nat → Nat → Nat} (h : mOk M) (s : Nat) {kd nb ak : Nat} (h1 : kd < 1048576) (h2 : nb < 1048576) (h3 : ak < 1048576) : mOk (mTrN M s kd nb ak) := h.tr s h1 h2 h3 (by decide) (by decide) (by decide) (by decide) (by decide)
theorem mOk.trP {M : Nat → Nat → Nat} (h : mOk M) (s : Nat) {kd nb ak p : Nat} (h1 : kd < 1048576) (h2 : nb < 1048576) (h3 : ak < 1048576) : mOk (mTrP M s kd nb ak p) := h.tr s h1 h2 h3 (h.big _ _) (h.big _ _) (h.big _ _) (h.big _ _) (h.big _ _)
theorem mOk.carry {M : Nat → Nat → Nat} (h : mOk M) (s k : Nat) : mOk (mCarry M s k) := (h.trP s (by decide) (by omega) (h.big _ _)).set 16 (show 1 < 2 by decide)
theorem mOk.pump1 {M : Nat → Nat → Nat} (h : mOk M) (s : Nat) : mOk (mPump1 M s) := (h.carry s _).set 11 (af_lt _)
theorem mOk.pump : ∀ (n : Nat) {M : Nat → Nat → Nat} (_ : mOk M) (s : Nat), mOk (mPump n M s)
  | 0, _, h, _ => h
  | n + 1, M, h, s => by
    unfold mPump
    split
    · exact mOk.pump n (h.pump1 s) s
    · exact h
theorem mOk.agR : ∀ (n : Nat) {M : Nat → Nat → Nat} (_ : mOk M) (s k : Nat), mOk (mAgR n M s k)
  | 0, _, h, _, _ => h
  | n + 1, _, h, s, k => mOk.agR n (h.carry s k) s (k + 1)
theorem mOk.put {M : Nat → Nat → Nat} (h : mOk M) (s : Nat) {kd c nb ak v : Nat} (h1 : kd < 1048576) (h2 : c < 1048576) (h3 : nb < 1048576) (h4 : ak < 1048576) (h5 : v < 1048576) : mOk (mPut M s kd c nb ak v) := by
  unfold mPut
  split
  next e => exact (((((h.set 17 (show _ < 17 by omega)).set 18 h1).set 19 h2).set 20 h3).set 21 h4).set 22 h5
  · exact h
theorem mOk.post {M : Nat → Nat → Nat} (h : mOk M) (s : Nat) {kd c nb ak v : Nat} (h1 : kd < 1048576) (h2 : c < 1048576) (h3 : nb < 1048576) (h4 : ak < 1048576) (h5 : v < 1048576) : mOk (mPost M s kd c nb ak v) := mOk.pump 4 (h.put s h1 h2 h3 h4 h5) s
theorem mOk.renew {M : Nat → Nat → Nat} (h : mOk M) (k : Nat) : mOk (mRenew M k) := (((h.set 24 (show 0 < 8 by decide)).set 25 (show 0 < 8 by decide)).set 26 (show 0 < 8 by decide)).set 27 (show 0 < 8 by decide)
theorem mOk.idle {M : Nat → Nat → Nat} (h : mOk M) (k : Nat) : mOk (mIdle M k) := (h.set 23 (show 0 < 6 by decide)).renew k
theorem mOk.clean {M : Nat → Nat → Nat} (h : mOk M) (s : Nat) : mOk (mClean M s) := ((((((((h.set 11 (show 0 < 8 by decide)).set 12 (show 0 < 8 by decide)).set 13 (show 0 < 8 by decide)).set 14 (show 0 < 5 by decide)).set 15 (show 0 < 2 by decide)).set 17 (show 0 < 17 by decide)).idle _).idle _).idle _
theorem mOk.setUp {M : Nat → Nat → Nat} (h : mOk M) (s : Nat) : mOk (mSetUp M s) := ((h.clean s).set 10 (show 1 < 3 by decide)).trN s (by decide) (by decide) (by decide)
theorem mOk.sh1 {M : Nat → Nat → Nat} (h : mOk M) (p n : Nat) : mOk (mSh1 M p n) := ((((h.set 18 (h _ _)).set 19 (h _ _)).set 20 (h _ _)).set 21 (h _ _)).set 22 (h _ _)
theorem mOk.shR : ∀ (k : Nat) {M : Nat → Nat → Nat} (_ : mOk M) (p n : Nat), mOk (mShR k M p n)
  | 0, _, h, _, _ => h
  | k + 1, _, h, p, n => mOk.shR k (h.sh1 p n) (p + 1) n
theorem mOk.tk1 {M : Nat → Nat → Nat} (h : mOk M) (f : Nat) : mOk (mTk1 M f) := (((((((h.set 2 (h _ _)).set 3 (h _ _)).set 4 (h _ _)).set 5 (h _ _)).set 6 (h _ _)).set 7 (h _ _)).set 8 (h _ _)).set 9 (h _ _)
theorem mOk.tkR : ∀ (k : Nat) {M : Nat → Nat → Nat} (_ : mOk M) (f : Nat), mOk (mTkR k M f)
  | 0, _, h, _ => h
  | k + 1, _, h, f => mOk.tkR k (h.tk1 f) (f + 1)
theorem mOk.take {M : Nat → Nat → Nat} (h : mOk M) (s : Nat) : mOk (mTake M s) := mOk.tkR _ (h.set 1 (show M 1 s - 1 < 13 by have : M 1 s < 13 := h 1 s; omega)) _
theorem mOk.conf {M : Nat → Nat → Nat} (h : mOk M) (s : Nat) {ak : Nat} (ha : ak < 8) : mOk (mConf M s ak) := by
  unfold mConf
  have b1 : M 17 s < 17 := h 17 s
  have b2 : M 14 s < 5 := h 14 s
  split
  · exact h
  · exact ((mOk.shR _ (h.set 17 (show _ < 17 by omega)) _ _).set 12 ha).set 14 (show _ < 5 by split <;> omega)
theorem mTr_hi {M : Nat → Nat → Nat} {s kd nb ak c1 c2 c3 c4 c5 j : Nat} (hj : 9 < j) : mTr M s kd nb ak c1 c2 c3 c4 c5 j = M j := by
  unfold mTr
  split
  · rfl
  · rw [mS_ne (by omega), mS_ne (by omega), mS_ne (by omega), mS_ne (by omega), mS_ne (by omega), mS_ne (by omega), mS_ne (by omega), mS_ne (by omega), mS_ne (by omega)]
theorem mCarry_hi {M : Nat → Nat → Nat} {s k j : Nat} (hj : 9 < j) (h2 : j ≠ 16) : mCarry M s k j = M j := by
  unfold mCarry
  rw [mS_ne h2]
  exact mTr_hi hj
theorem mPump1_hi {M : Nat → Nat → Nat} {s j : Nat} (hj : 9 < j) (h2 : j ≠ 16) (h3 : j ≠ 11) : mPump1 M s j = M j := by
  unfold mPump1
  rw [mS_ne h3]
  exact mCarry_hi hj h2
theorem mPump1_11 {M : Nat → Nat → Nat} {s : Nat} : mPump1 M s 11 s = af (M 11 s) := by
  unfold mPump1
  rw [mS_same, va_up_self, mCarry_hi (by decide) (by decide)]
theorem ds_af {a b : Nat} (ha : a < 8) (hb : b < 8) (h : ds a b < 7) : ds a (af b) = ds a b + 1 := by
  unfold ds af at *
  omega
theorem mUn_pump1 {M : Nat → Nat → Nat} {s : Nat} (h : mOk M) (h3 : mUn M s < 3) : mUn (mPump1 M s) s = mUn M s + 1 := by
  unfold mUn at *
  rw [mPump1_11, mPump1_hi (by decide) (by decide) (by decide)]
  exact ds_af (h 12 s) (h 11 s) (by omega)
theorem mSh1_lo {M : Nat → Nat → Nat} {p n j : Nat} (hj : j < 18) : mSh1 M p n j = M j := by
  unfold mSh1
  rw [mS_ne (by omega), mS_ne (by omega), mS_ne (by omega), mS_ne (by omega), mS_ne (by omega)]
theorem mTk1_1 {M : Nat → Nat → Nat} {f : Nat} : mTk1 M f 1 = M 1 := rfl
def mReady (M : Nat → Nat → Nat) (s : Nat) : Nat → Nat → Nat :=
  if M 16 s = 0 then (if mPump 4 M s 16 s = 0 then mTrN (mPump 4 M s) s 4 0 (mPump 4 M s 13 s) else mPump 4 M s) else M
def mCarr (M : Nat → Nat → Nat) (s nb kd c n a v : Nat) : Nat → Nat → Nat :=
  if nb = M 13 s then mReady (mHear (mS (mS M 13 s (af (M 13 s))) 15 s 0) s c kd n a v) s
  else if M 15 s = 0 then mTrN (mS M 15 s 1) s 5 0 (M 13 s) else M
def mLink (M : Nat → Nat → Nat) (s kd : Nat) : Nat → Nat → Nat :=
  if kd = 1 then mTrN (if M 10 s = 1 then M else mS (mClean M s) 10 s 2) s 2 0 0
  else if M 10 s = 1 then mS (mClean M s) 10 s 2 else if M 10 s = 2 then mSetUp M s else M
theorem mOk.fault {M : Nat → Nat → Nat} (h : mOk M) (s : Nat) {c : Nat} (hc : c < 3) : mOk (mFault M s c) := ((h.renew _).set 23 (show 5 < 6 by decide)).post s (by decide) (by omega) (by decide) (by decide) (by decide)
theorem mOk.move {M : Nat → Nat → Nat} (h : mOk M) (s : Nat) {c kd nb ak v : Nat} (hc : c < 3) (ha : ak < 8) (hv : v < 1048576) : mOk (mMove M s c kd nb ak v) := by
  unfold mMove
  split
  · exact h.fault s hc
  · split
    · exact (h.set 25 (show ak < 8 from ha)).fault s hc
    · split
      · exact ((h.set 25 (show ak < 8 from ha)).set 28 (show v < 1048576 from hv)).set 26 (af_lt _)
      · exact h.set 25 (show ak < 8 from ha)
theorem mOk.hear {M : Nat → Nat → Nat} (h : mOk M) (s : Nat) {c kd nb ak v : Nat} (hc : c < 3) (ha : ak < 8) (hv : v < 1048576) : mOk (mHear M s c kd nb ak v) := by
  have b : M 23 (3 * s + c) < 6 := h 23 _
  unfold mHear
  split
  · exact h.set 23 (show _ < 6 by split <;> omega)
  split
  · split
    · exact (h.renew _).set 23 (show 3 < 6 by decide)
    · exact h
  split
  · split
    · exact h
    · split
      · exact h.idle _
      · exact (h.idle _).post s (by decide) (by omega) (by decide) (by decide) (by decide)
  split
  · split
    · exact h.idle _
    · exact h
  split
  · split
    · exact ((h.renew _).set 23 (show 3 < 6 by decide)).post s (by decide) (by omega) (by decide) (by decide) (by decide)
    · split
      · exact (h.renew _).set 23 (show 3 < 6 by decide)
      · exact h
  split
  · exact h.set 23 (show _ < 6 by split <;> omega)
  split
  · exact h.move s hc ha hv
  · exact h
theorem mOk.link {M : Nat → Nat → Nat} (h : mOk M) (s kd : Nat) : mOk (mLink M s kd) := by
  unfold mLink
  split
  · refine mOk.trN ?_ s (by decide) (by decide) (by decide)
    split
    · exact h
    · exact (h.clean s).set 10 (show 2 < 3 by decide)
  · split
    · exact (h.clean s).set 10 (show 2 < 3 by decide)
    · split
      · exact h.setUp s
      · exact h
theorem mOk.ready {M : Nat → Nat → Nat} (h : mOk M) (s : Nat) : mOk (mReady M s) := by
  unfold mReady
  split
  · split
    · exact (mOk.pump 4 h s).trN s (by decide) (by decide) ((mOk.pump 4 h s).big _ _)
    · exact mOk.pump 4 h s
  · exact h
theorem mOk.carr {M : Nat → Nat → Nat} (h : mOk M) (s : Nat) {nb kd c n a v : Nat} (hc : c < 3) (ha : a < 8) (hv : v < 1048576) : mOk (mCarr M s nb kd c n a v) := by
  unfold mCarr
  split
  · exact (mOk.hear ((h.set 13 (af_lt _)).set 15 (show 0 < 2 by decide)) s hc ha hv).ready s
  · split
    · exact (h.set 15 (show 1 < 2 by decide)).trN s (by decide) (by decide) (h.big _ _)
    · exact h
def mDeliv (M : Nat → Nat → Nat) (s : Nat) : Nat → Nat → Nat :=
  if M 2 (12 * s) = 1 ∨ M 2 (12 * s) = 2 then mLink (mS (mTake M s) 16 s 0) s (M 2 (12 * s))
  else if mS (mTake M s) 16 s 0 10 s = 2 then
    (if M 2 (12 * s) = 3 then mCarr (mConf (mS (mTake M s) 16 s 0) s (M 4 (12 * s))) s (M 3 (12 * s)) (M 5 (12 * s)) (M 6 (12 * s)) (M 7 (12 * s)) (M 8 (12 * s)) (M 9 (12 * s))
    else if M 2 (12 * s) = 5 then mPump 4 (mAgain (mConf (mS (mTake M s) 16 s 0) s (M 4 (12 * s))) s) s else mPump 4 (mConf (mS (mTake M s) 16 s 0) s (M 4 (12 * s))) s)
  else mS (mTake M s) 16 s 0
def mExp (M : Nat → Nat → Nat) (s : Nat) : Nat → Nat → Nat :=
  if M 14 s + 1 = 4 then (if M 10 s = 1 then mS (mS (mS M 14 s (M 14 s + 1)) 10 s 0) 14 s 0 else mSetUp (mS M 14 s (M 14 s + 1)) s)
  else if M 10 s = 1 then mTrN (mS M 14 s (M 14 s + 1)) s 1 0 0 else mAgain (mS M 14 s (M 14 s + 1)) s
def mBec (M : Nat → Nat → Nat) (s c kd nw : Nat) : Nat → Nat → Nat := mS (mRenew (mPost M s kd c 0 0 0) (3 * s + c)) 23 (3 * s + c) nw
def mSend (M : Nat → Nat → Nat) (s c v : Nat) : Nat → Nat → Nat := mS (mPost M s 5 c (M 24 (3 * s + c)) (M 27 (3 * s + c)) v) 24 (3 * s + c) (af (mPost M s 5 c (M 24 (3 * s + c)) (M 27 (3 * s + c)) v 24 (3 * s + c)))
def mRecv (M : Nat → Nat → Nat) (s c : Nat) : Nat → Nat → Nat := mPost (mS (mS M 28 (2 * (3 * s + c)) (M 28 (2 * (3 * s + c) + 1))) 27 (3 * s + c) (af (M 27 (3 * s + c)))) s 6 c 0 (af (M 27 (3 * s + c))) 0
theorem mTk1_hi {M : Nat → Nat → Nat} {f i : Nat} (h : 10 ≤ i) : mTk1 M f i = M i := by
  unfold mTk1
  rw [mS_ne (by omega), mS_ne (by omega), mS_ne (by omega), mS_ne (by omega), mS_ne (by omega), mS_ne (by omega), mS_ne (by omega), mS_ne (by omega)]
theorem mTkR_hi : ∀ (k : Nat) (M : Nat → Nat → Nat) (f : Nat) {i : Nat} (_ : 10 ≤ i), mTkR k M f i = M i
  | 0, _, _, _, _ => rfl
  | k + 1, M, f, i, h => (mTkR_hi k (mTk1 M f) (f + 1) h).trans (mTk1_hi h)
theorem mTake_hi {M : Nat → Nat → Nat} {s i : Nat} (h : 10 ≤ i) : mTake M s i = M i := by
  unfold mTake
  rw [mTkR_hi _ _ _ h, mS_ne (by omega)]
theorem mSh1_hi {M : Nat → Nat → Nat} {p n i : Nat} (h : 23 ≤ i) : mSh1 M p n i = M i := by
  unfold mSh1
  rw [mS_ne (by omega), mS_ne (by omega), mS_ne (by omega), mS_ne (by omega), mS_ne (by omega)]
theorem mShR_hi : ∀ (k : Nat) (M : Nat → Nat → Nat) (p n : Nat) {i : Nat} (_ : 23 ≤ i), mShR k M p n i = M i
  | 0, _, _, _, _, _ => rfl
  | k + 1, M, p, n, i, h => (mShR_hi k (mSh1 M p n) (p + 1) n h).trans (mSh1_hi h)
theorem mConf_hi {M : Nat → Nat → Nat} {s ak i : Nat} (h : 23 ≤ i) : mConf M s ak i = M i := by
  unfold mConf
  split
  · rfl
  · rw [mS_ne (by omega), mS_ne (by omega), mShR_hi _ _ _ _ h, mS_ne (by omega)]
theorem lt_23 {y : Int32} (h : nI 3 ≤ y) : nI 2 < y := by
  have h1 : (nI 3).toInt ≤ y.toInt := Int32.le_iff_toInt_le.mp h
  rw [nI_toInt (by decide)] at h1
  apply Int32.lt_iff_toInt_lt.mpr
  rw [nI_toInt (by decide)]
  omega
