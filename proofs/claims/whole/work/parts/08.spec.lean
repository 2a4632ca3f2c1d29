/-! What the class does, as functions over Nat: rows (contents, count), packed packets and frames, channels, stations. -/
abbrev Rw_ : Type := (Nat → Nat) × Nat
def rAdd (N : Nat) (r : Rw_) (v : Nat) : Rw_ := if r.2 < N then (va_up r.1 r.2 v, r.2 + 1) else r
def rDrop (r : Rw_) (k : Nat) : Rw_ := (va_cpy r.1 r.1 k 0 (r.2 - k), r.2 - k)
def rNone (r : Rw_) : Rw_ := (r.1, 0)
def af (n : Nat) : Nat := (n + 1) % 8
def ds (a b : Nat) : Nat := (b + 8 - a) % 8
def pk5 (k c n a d : Nat) : Nat := k * 131072 + c * 32768 + n * 4096 + a * 512 + d
def fr4 (k n a p : Nat) : Nat := k * 134217728 + n * 16777216 + a * 2097152 + p
def pKind (p : Nat) : Nat := p / 131072 % 16
def pChan (p : Nat) : Nat := p / 32768 % 4
def pNumb (p : Nat) : Nat := p / 4096 % 8
def pAckn (p : Nat) : Nat := p / 512 % 8
def pData (p : Nat) : Nat := p % 512
def fKind (f : Nat) : Nat := f / 134217728 % 8
def fNumb (f : Nat) : Nat := f / 16777216 % 8
def fAckn (f : Nat) : Nat := f / 2097152 % 8
def fPack (f : Nat) : Nat := f % 2097152
/-- a channel: state, next, passed, due, taken, data -/
abbrev Cn_ : Type := Nat × Nat × Nat × Nat × Nat × Rw_
def cNew (ns : Nat) (r : Rw_) : Cn_ := (ns, 0, 0, 0, 0, rNone r)
def cFlow (st nx pa du ta : Nat) (r : Rw_) (p : Nat) : Nat × Cn_ :=
  if st ≠ 3 then (0, st, nx, pa, du, ta, r)
  else if ds pa nx < ds pa (pAckn p) ∨ (pKind p = 5 ∧ (pNumb p ≠ du ∨ 2 ≤ r.2)) then (7, cNew 5 r)
  else if pKind p = 5 then (0, st, nx, pAckn p, af du, ta, rAdd 2 r (pData p))
  else (0, st, nx, pAckn p, du, ta, r)
def cAns (y st nx pa du ta : Nat) (r : Rw_) (p : Nat) : Nat × Cn_ :=
  if pKind p = 1 then (if st = 0 ∨ (st = 1 ∧ y ≠ 0) then (0, cNew 2 r) else (0, st, nx, pa, du, ta, r))
  else if pKind p = 2 then (if st = 1 then (0, cNew 3 r) else (0, st, nx, pa, du, ta, r))
  else if pKind p = 3 then (if st ≠ 0 ∧ st ≠ 4 then (4, cNew 0 r) else (0, cNew 0 r))
  else if pKind p = 4 then (if st = 4 then (0, cNew 0 r) else (0, st, nx, pa, du, ta, r))
  else if pKind p = 5 ∨ pKind p = 6 then cFlow st nx pa du ta r p
  else if pKind p = 7 then (if st = 3 then (8, cNew 3 r) else if st = 5 then (0, cNew 3 r) else (0, st, nx, pa, du, ta, r))
  else if pKind p = 8 then (if st = 5 then (0, cNew 3 r) else (0, st, nx, pa, du, ta, r))
  else (0, st, nx, pa, du, ta, r)
/-- pump's loop: n packets of OUT from place pl on go out, numbered from sn on -/
def pumpR (ex : Nat) (O : Rw_) : Nat → Rw_ → Nat → Nat → Rw_ × Nat
  | 0, P, sn, _ => (P, sn)
  | n + 1, P, sn, pl => pumpR ex O n (rAdd 12 P (fr4 3 sn ex (O.1 pl))) (af sn) (pl + 1)
def pumpN (lk sn ac : Nat) (O : Rw_) : Nat := (if lk = 2 then min O.2 3 else 0) - ds ac sn
def cPump (lk sn ac ex : Nat) (O P : Rw_) : Rw_ × Nat := pumpR ex O (pumpN lk sn ac O) P sn (ds ac sn)
def againR (ex : Nat) (O : Rw_) : Nat → Rw_ → Nat → Nat → Rw_
  | 0, P, _, _ => P
  | n + 1, P, nb, pl => againR ex O n (rAdd 12 P (fr4 3 nb ex (O.1 pl))) (af nb) (pl + 1)
def cAgain (sn ac ex : Nat) (O P : Rw_) : Rw_ := againR ex O (ds ac sn) P ac 0
/-! bits -/
theorem af_lt (n : Nat) : af n < 8 := Nat.mod_lt _ (by decide)
theorem ds_lt (a b : Nat) : ds a b < 8 := Nat.mod_lt _ (by decide)
theorem n_after {n : Nat} (h : n < 8) : nI (n + 1) &&& nI 7 = nI (af n) := pk_andN (n := n + 1) (m := nI 7) (by omega) 3 (by decide)
theorem n_dist : ∀ a, a < 8 → ∀ b, b < 8 → (nI b - nI a) &&& nI 7 = nI (ds a b) := by decide +kernel
theorem nI_or (a b : Nat) : nI a ||| nI b = nI (a ||| b) := by
  apply Int32.toBitVec_inj.mp
  show BitVec.ofNat 32 a ||| BitVec.ofNat 32 b = BitVec.ofNat 32 (a ||| b)
  exact (BitVec.ofNat_or).symm
theorem nI_orAdd {a b k : Nat} (h : b < 2 ^ k) : nI (a * 2 ^ k) ||| nI b = nI (a * 2 ^ k + b) := by
  rw [nI_or, ← Nat.shiftLeft_eq, ← Nat.shiftLeft_add_eq_or_of_lt h]
theorem n_pack {k c n a d : Nat} (hk : k < 16) (hc : c < 4) (hn : n < 8) (ha : a < 8) (hd : d < 512) :
    (((nI k <<< (nI 17 &&& 31)) ||| (nI c <<< (nI 15 &&& 31))) ||| (nI n <<< (nI 12 &&& 31)) ||| (nI a <<< (nI 9 &&& 31))) ||| nI d = nI (pk5 k c n a d) := by
  rw [pk_shlN (n := k) (nI 17 &&& 31) 17 (by decide) (by omega), pk_shlN (n := c) (nI 15 &&& 31) 15 (by decide) (by omega), pk_shlN (n := n) (nI 12 &&& 31) 12 (by decide) (by omega), pk_shlN (n := a) (nI 9 &&& 31) 9 (by decide) (by omega)]
  rw [nI_orAdd (k := 17) (by omega : c * 2 ^ 15 < 2 ^ 17), show k * 2 ^ 17 + c * 2 ^ 15 = (k * 4 + c) * 2 ^ 15 by omega]
  rw [nI_orAdd (k := 15) (by omega : n * 2 ^ 12 < 2 ^ 15), show (k * 4 + c) * 2 ^ 15 + n * 2 ^ 12 = (k * 32 + c * 8 + n) * 2 ^ 12 by omega]
  rw [nI_orAdd (k := 12) (by omega : a * 2 ^ 9 < 2 ^ 12), show (k * 32 + c * 8 + n) * 2 ^ 12 + a * 2 ^ 9 = (k * 256 + c * 64 + n * 8 + a) * 2 ^ 9 by omega]
  rw [nI_orAdd (k := 9) hd]
  exact congrArg nI (by unfold pk5; omega)
theorem n_frame {k n a p : Nat} (hk : k < 8) (hn : n < 8) (ha : a < 8) (hp : p < 2097152) :
    ((nI k <<< (nI 27 &&& 31)) ||| (nI n <<< (nI 24 &&& 31))) ||| (nI a <<< (nI 21 &&& 31)) ||| nI p = nI (fr4 k n a p) := by
  rw [pk_shlN (n := k) (nI 27 &&& 31) 27 (by decide) (by omega), pk_shlN (n := n) (nI 24 &&& 31) 24 (by decide) (by omega), pk_shlN (n := a) (nI 21 &&& 31) 21 (by decide) (by omega)]
  rw [nI_orAdd (k := 27) (by omega : n * 2 ^ 24 < 2 ^ 27), show k * 2 ^ 27 + n * 2 ^ 24 = (k * 8 + n) * 2 ^ 24 by omega]
  rw [nI_orAdd (k := 24) (by omega : a * 2 ^ 21 < 2 ^ 24), show (k * 8 + n) * 2 ^ 24 + a * 2 ^ 21 = (k * 64 + n * 8 + a) * 2 ^ 21 by omega]
  rw [nI_orAdd (k := 21) hp]
  exact congrArg nI (by unfold fr4; omega)
theorem n_field {x : Nat} (hx : x < 2 ^ 31) (sh : Int32) (k : Nat) (hs : (sh.toBitVec.smod 32).toNat = k) (m : Int32) (b : Nat) (hm : m.toBitVec.toNat = 2 ^ b - 1) : (nI x >>> sh) &&& m = nI (x / 2 ^ k % 2 ^ b) := by
  rw [pk_shrN hx sh k hs]
  exact pk_andN (Nat.lt_of_le_of_lt (Nat.div_le_self _ _) (by omega)) b hm
/-! packing and unpacking -/
theorem pk5_lt {k c n a d : Nat} (hk : k < 16) (hc : c < 4) (hn : n < 8) (ha : a < 8) (hd : d < 512) : pk5 k c n a d < 2097152 := by unfold pk5; omega
theorem pKind_pk {k c n a d : Nat} (hk : k < 16) (hc : c < 4) (hn : n < 8) (ha : a < 8) (hd : d < 512) : pKind (pk5 k c n a d) = k := by unfold pKind pk5; omega
theorem pChan_pk {k c n a d : Nat} (hc : c < 4) (hn : n < 8) (ha : a < 8) (hd : d < 512) : pChan (pk5 k c n a d) = c := by unfold pChan pk5; omega
theorem pNumb_pk {k c n a d : Nat} (hn : n < 8) (ha : a < 8) (hd : d < 512) : pNumb (pk5 k c n a d) = n := by unfold pNumb pk5; omega
theorem pAckn_pk {k c n a d : Nat} (ha : a < 8) (hd : d < 512) : pAckn (pk5 k c n a d) = a := by unfold pAckn pk5; omega
theorem pData_pk {k c n a d : Nat} (hd : d < 512) : pData (pk5 k c n a d) = d := by unfold pData pk5; omega
theorem fr4_lt {k n a p : Nat} (hk : k < 8) (hn : n < 8) (ha : a < 8) (hp : p < 2097152) : fr4 k n a p < 2 ^ 30 := by unfold fr4; omega
theorem fKind_fr {k n a p : Nat} (hk : k < 8) (hn : n < 8) (ha : a < 8) (hp : p < 2097152) : fKind (fr4 k n a p) = k := by unfold fKind fr4; omega
theorem fNumb_fr {k n a p : Nat} (hn : n < 8) (ha : a < 8) (hp : p < 2097152) : fNumb (fr4 k n a p) = n := by unfold fNumb fr4; omega
theorem fAckn_fr {k n a p : Nat} (ha : a < 8) (hp : p < 2097152) : fAckn (fr4 k n a p) = a := by unfold fAckn fr4; omega
theorem fPack_fr {k n a p : Nat} (hp : p < 2097152) : fPack (fr4 k n a p) = p := by unfold fPack fr4; omega
theorem rAdd_le {N : Nat} {r : Rw_} {v : Nat} (h : r.2 ≤ N) : (rAdd N r v).2 ≤ N := by
  unfold rAdd
  split
  · show r.2 + 1 ≤ N
    omega
  · exact h
theorem n_min {a b : Nat} (ha : a < 2 ^ 31) (hb : b < 2 ^ 31) : (if nI b < nI a then nI b else nI a) = nI (min a b) := by
  by_cases h : b < a
  · rw [if_pos ((nI_ltI hb ha).mpr h), Nat.min_eq_right (Nat.le_of_lt h)]
  · rw [if_neg (fun z => h ((nI_ltI hb ha).mp z)), Nat.min_eq_left (Nat.not_lt.mp h)]
/-! a station: link, sent, acknowledged, expected, tries, rejected; OUT; channels; the peer's line -/
abbrev Nm_ : Type := Nat × Nat × Nat × Nat × Nat × Nat
abbrev Sn_ : Type := Nm_ × Rw_ × (Nat → Cn_) × Rw_
def kRow (k : Cn_) : Rw_ := k.2.2.2.2.2
def kClean (K : Nat → Cn_) : Nat → Cn_ := fun c => cNew 0 (kRow (K c))
def sSend (lk sn ac ex : Nat) (O P : Rw_) (pk : Nat) : Nat × Rw_ × Rw_ := ((cPump lk sn ac ex (rAdd 16 O pk) P).2, rAdd 16 O pk, (cPump lk sn ac ex (rAdd 16 O pk) P).1)
def sConf (sn ac ak tr : Nat) (O : Rw_) : Nat × Nat × Rw_ := if 0 < ds ac ak ∧ ds ac ak ≤ ds ac sn then (ak, 0, rDrop O (ds ac ak)) else (ac, tr, O)
def sHear (lk sn ac ex : Nat) (O P : Rw_) (rk cn : Nat) : Nat × Rw_ × Rw_ := if rk = 0 then (sn, O, P) else sSend lk sn ac ex O P (pk5 rk cn 0 0 0)
def sReady (lk sn0 sn ac ex : Nat) (O P : Rw_) : Nat × Rw_ :=
  if sn = sn0 then (if (cPump lk sn ac ex O P).2 = sn0 then ((cPump lk sn ac ex O P).2, rAdd 12 (cPump lk sn ac ex O P).1 (fr4 4 0 ex 0)) else ((cPump lk sn ac ex O P).2, (cPump lk sn ac ex O P).1)) else (sn, P)
def sRej (rj ex : Nat) (P : Rw_) : Nat × Rw_ := if rj = 0 then (1, rAdd 12 P (fr4 5 0 ex 0)) else (rj, P)
def sCarr2 (lk sn ac ex : Nat) (a : Nat × Cn_) (b : Nat × Rw_ × Rw_) : (Nat × Nat × Nat) × Rw_ × Cn_ × Rw_ :=
  (((sReady lk sn b.1 ac (af ex) b.2.1 b.2.2).1, af ex, 0), b.2.1, a.2, (sReady lk sn b.1 ac (af ex) b.2.1 b.2.2).2)
def kAns (y : Nat) (k : Cn_) (p : Nat) : Nat × Cn_ := cAns y k.1 k.2.1 k.2.2.1 k.2.2.2.1 k.2.2.2.2.1 k.2.2.2.2.2 p
/-- a CARRIER is heard: (sent, expected, rejected), OUT, the channel, the peer's line -/
def sCarr (lk sn ac ex rj : Nat) (O P : Rw_) (y : Nat) (k : Cn_) (f : Nat) : (Nat × Nat × Nat) × Rw_ × Cn_ × Rw_ :=
  if fNumb f = ex then sCarr2 lk sn ac ex (kAns y k (fPack f)) (sHear lk sn ac (af ex) O P (kAns y k (fPack f)).1 (pChan (fPack f)))
  else ((sn, ex, (sRej rj ex P).1), O, k, (sRej rj ex P).2)
def sClean (nl : Nat) (O : Rw_) (K : Nat → Cn_) (P : Rw_) : Sn_ := ((nl, 0, 0, 0, 0, 0), rNone O, kClean K, P)
def sSetUp (O : Rw_) (K : Nat → Cn_) (P : Rw_) : Sn_ := sClean 1 O K (rAdd 12 P (fr4 1 0 0 0))
def sTry (lk sn ac ex tr rj : Nat) (O : Rw_) (K : Nat → Cn_) (P : Rw_) : Sn_ :=
  if 4 ≤ tr + 1 then (if lk = 1 then ((0, sn, ac, ex, 0, rj), O, K, P) else sSetUp O K P)
  else if lk = 1 then ((lk, sn, ac, ex, tr + 1, rj), O, K, rAdd 12 P (fr4 1 0 0 0))
  else ((lk, sn, ac, ex, tr + 1, rj), O, K, cAgain sn ac ex O P)
def sHSet (lk sn ac ex tr rj : Nat) (O : Rw_) (K : Nat → Cn_) (P : Rw_) : Sn_ :=
  if lk = 1 then ((lk, sn, ac, ex, tr, rj), O, K, rAdd 12 P (fr4 2 0 0 0)) else sClean 2 O K (rAdd 12 P (fr4 2 0 0 0))
def sHAgr (lk sn ac ex tr rj : Nat) (O : Rw_) (K : Nat → Cn_) (P : Rw_) : Sn_ :=
  if lk = 1 then sClean 2 O K P else if lk = 2 then sSetUp O K P else ((lk, sn, ac, ex, tr, rj), O, K, P)
def sFrameC (lk : Nat) (b : Nat × Nat × Rw_) (K : Nat → Cn_) (c : Nat) (d : (Nat × Nat × Nat) × Rw_ × Cn_ × Rw_) : Sn_ := ((lk, d.1.1, b.1, d.1.2.1, b.2.1, d.1.2.2), d.2.1, va_up K c d.2.2.1, d.2.2.2)
def sFrameP (lk ex rj : Nat) (b : Nat × Nat × Rw_) (K : Nat → Cn_) (x : Rw_ × Nat) : Sn_ := ((lk, x.2, b.1, ex, b.2.1, rj), b.2.2, K, x.1)
def sFrame (y lk sn ac ex tr rj : Nat) (O : Rw_) (K : Nat → Cn_) (P : Rw_) (f : Nat) : Sn_ :=
  if fKind f = 1 then sHSet lk sn ac ex tr rj O K P
  else if fKind f = 2 then sHAgr lk sn ac ex tr rj O K P
  else if lk = 2 then
    (if fKind f = 3 then sFrameC lk (sConf sn ac (fAckn f) tr O) K (pChan (fPack f)) (sCarr lk sn (sConf sn ac (fAckn f) tr O).1 ex rj (sConf sn ac (fAckn f) tr O).2.2 P y (K (pChan (fPack f))) f)
    else if fKind f = 5 then sFrameP lk ex rj (sConf sn ac (fAckn f) tr O) K (cPump lk sn (sConf sn ac (fAckn f) tr O).1 ex (sConf sn ac (fAckn f) tr O).2.2 (cAgain sn (sConf sn ac (fAckn f) tr O).1 ex (sConf sn ac (fAckn f) tr O).2.2 P))
    else sFrameP lk ex rj (sConf sn ac (fAckn f) tr O) K (cPump lk sn (sConf sn ac (fAckn f) tr O).1 ex (sConf sn ac (fAckn f) tr O).2.2 P))
  else ((lk, sn, ac, ex, tr, rj), O, K, P)
def sGive (lk sn ac ex rj : Nat) (O : Rw_) (K : Nat → Cn_) (P : Rw_) : Sn_ := if lk = 1 then ((0, sn, ac, ex, 0, rj), O, K, P) else sSetUp O K P
/-! what stays true -/
def oOk (O : Rw_) : Prop := O.2 ≤ 16 ∧ ∀ i, i < O.2 → O.1 i < 2097152
theorem oOk.add {O : Rw_} (h : oOk O) {v : Nat} (hv : v < 2097152) : oOk (rAdd 16 O v) := by
  refine ⟨rAdd_le h.1, fun i hi => ?_⟩
  unfold rAdd at hi ⊢
  split at hi
  next h9 =>
    rw [if_pos h9]
    show va_up O.1 O.2 v i < 2097152
    unfold va_up
    split
    · exact hv
    next hne =>
      have hi : i < O.2 + 1 := hi
      exact h.2 i (by omega)
  next h9 =>
    rw [if_neg h9]
    exact h.2 i hi
theorem rDrop_at {r : Rw_} {k i : Nat} (h : i < r.2 - k) : (rDrop r k).1 i = r.1 (k + i) := by
  show va_cpy r.1 r.1 k 0 (r.2 - k) i = _
  rw [pk_cpy_in (Nat.zero_le _) (by omega)]
  simp
theorem oOk.drop {O : Rw_} (h : oOk O) (k : Nat) : oOk (rDrop O k) := by
  refine ⟨?_, fun i hi => ?_⟩
  · show O.2 - k ≤ 16
    have := h.1
    omega
  · have hi : i < O.2 - k := hi
    rw [rDrop_at hi]
    exact h.2 _ (by omega)
theorem oOk.none {O : Rw_} : oOk (rNone O) := ⟨Nat.zero_le _, fun i hi => absurd hi (Nat.not_lt_zero i)⟩
def kOk (k : Cn_) : Prop := k.1 < 6 ∧ k.2.1 < 8 ∧ k.2.2.1 < 8 ∧ k.2.2.2.1 < 8 ∧ k.2.2.2.2.1 < 8 ∧ k.2.2.2.2.2.2 ≤ 2
theorem ds_sub {a b c : Nat} (ha : a < 8) (hb : b < 8) (hc : c < 8) (h : ds a b ≤ ds a c) : ds b c = ds a c - ds a b := by
  unfold ds at *
  omega
theorem cFlow_rk (st nx pa du ta : Nat) (r : Rw_) (p : Nat) : (cFlow st nx pa du ta r p).1 < 16 := by
  unfold cFlow
  split
  · exact (by decide : 0 < 16)
  · split
    · exact (by decide : 7 < 16)
    · split <;> exact (by decide : 0 < 16)
theorem cAns_rk (y st nx pa du ta : Nat) (r : Rw_) (p : Nat) : (cAns y st nx pa du ta r p).1 < 16 := by
  unfold cAns
  split
  · split <;> exact (by decide : 0 < 16)
  split
  · split <;> exact (by decide : 0 < 16)
  split
  · split
    · exact (by decide : 4 < 16)
    · exact (by decide : 0 < 16)
  split
  · split <;> exact (by decide : 0 < 16)
  split
  · exact cFlow_rk ..
  split
  · split
    · exact (by decide : 8 < 16)
    · split <;> exact (by decide : 0 < 16)
  split
  · split <;> exact (by decide : 0 < 16)
  · exact (by decide : 0 < 16)
theorem pumpR_snd (ex : Nat) (O : Rw_) : ∀ (n : Nat) (P : Rw_) (sn pl : Nat), sn < 8 → (pumpR ex O n P sn pl).2 < 8
  | 0, _, _, _, h => h
  | n + 1, P, sn, pl, _ => pumpR_snd ex O n _ (af sn) (pl + 1) (af_lt sn)
theorem pumpR_le (ex : Nat) (O : Rw_) : ∀ (n : Nat) (P : Rw_) (sn pl : Nat), P.2 ≤ 12 → (pumpR ex O n P sn pl).1.2 ≤ 12
  | 0, _, _, _, h => h
  | n + 1, P, sn, pl, h => pumpR_le ex O n _ (af sn) (pl + 1) (rAdd_le h)
theorem againR_le (ex : Nat) (O : Rw_) : ∀ (n : Nat) (P : Rw_) (nb pl : Nat), P.2 ≤ 12 → (againR ex O n P nb pl).2 ≤ 12
  | 0, _, _, _, h => h
  | n + 1, P, nb, pl, h => againR_le ex O n _ (af nb) (pl + 1) (rAdd_le h)
theorem cPump_snd {lk sn ac ex : Nat} {O P : Rw_} (h : sn < 8) : (cPump lk sn ac ex O P).2 < 8 := pumpR_snd _ _ _ _ _ _ h
theorem cPump_le {lk sn ac ex : Nat} {O P : Rw_} (h : P.2 ≤ 12) : (cPump lk sn ac ex O P).1.2 ≤ 12 := pumpR_le _ _ _ _ _ _ h
theorem cAgain_le {sn ac ex : Nat} {O P : Rw_} (h : P.2 ≤ 12) : (cAgain sn ac ex O P).2 ≤ 12 := againR_le _ _ _ _ _ _ h
theorem sHear_keep {lk sn ac ex : Nat} {O P : Rw_} {rk cn sn' : Nat} {O' P' : Rw_} (hO : oOk O) (hP : P.2 ≤ 12) (hs : sn < 8) (hrk : rk < 16) (hc : cn < 4) (h : sHear lk sn ac ex O P rk cn = (sn', O', P')) : sn' < 8 ∧ oOk O' ∧ P'.2 ≤ 12 := by
  unfold sHear at h
  split at h
  · simp only [Prod.mk.injEq] at h
    obtain ⟨rfl, rfl, rfl⟩ := h
    exact ⟨hs, hO, hP⟩
  · simp only [sSend, Prod.mk.injEq] at h
    obtain ⟨rfl, rfl, rfl⟩ := h
    exact ⟨cPump_snd hs, hO.add (pk5_lt hrk hc (by decide) (by decide) (by decide)), cPump_le hP⟩
theorem sConf_keep {sn ac ak tr ac' tr' : Nat} {O O' : Rw_} (hO : oOk O) (hs : sn < 8) (ha : ac < 8) (hk : ak < 8) (hun : ds ac sn ≤ O.2) (h : sConf sn ac ak tr O = (ac', tr', O')) : ac' < 8 ∧ oOk O' ∧ ds ac' sn ≤ O'.2 := by
  unfold sConf at h
  split at h
  next h9 =>
    simp only [Prod.mk.injEq] at h
    obtain ⟨rfl, rfl, rfl⟩ := h
    refine ⟨hk, hO.drop _, ?_⟩
    show ds ak sn ≤ O.2 - ds ac ak
    rw [ds_sub ha hk hs h9.2]
    omega
  · simp only [Prod.mk.injEq] at h
    obtain ⟨rfl, rfl, rfl⟩ := h
    exact ⟨ha, hO, hun⟩
