/-! The class's whole world; a station's view of it; what a wrapper leaves alone. -/
theorem CoW.frame {S : Type} {l : Launch} {y : MethodName} {ws : List Cond} {rm : Room} {D : va_G} {ca : Nat → ClassId} {av : List Value} {wc wx : va_W} {rv : S → Option Value} {post : S → Prop} {w1 wx1 : S → va_W} {mc ms : Nat} (h : CoW l y ws rm D ca av wc rv post w1 mc ms) (isC isR isP : List Nat) (hC : isC.map (fun i => wx[i]?) = wc.map some) (hnC : va_nd isC = true) (hR : isR.map (fun i => wx[i]?) = (isR.filterMap (fun i => wx[i]?)).map some) (hnR : va_nd isR = true) (hdis : isR.all (fun i => !isC.contains i) = true) (hnP : va_nd isP = true)
    (hX : ∀ u, isP.map (fun i => (isR.filterMap (fun i => wx[i]?) ++ w1 u)[i]?) = (wx1 u).map some) : CoW l y ws rm D ca av wx rv post wx1 mc ms := by
  intro sz
  have hd : ∀ i ∈ isR, i ∉ isC := fun i hi hc => by
    have h1 := List.all_eq_true.mp hdis i hi
    rw [Bool.not_eq_true'] at h1
    exact absurd (List.contains_iff_mem.mpr hc) (by rw [h1]; decide)
  have hA : ∀ q, va_A wc sz q → va_A wx sz q := by
    intro q hq
    rcases hq with ⟨k, e, hq⟩ | hq
    · have h1 : (isC.map (fun i => wx[i]?))[k]? = some (some (q, e)) := by rw [hC, List.getElem?_map, hq]; rfl
      rw [List.getElem?_map] at h1
      cases hi : isC[k]? with
      | none => rw [hi] at h1; cases h1
      | some i => rw [hi] at h1; exact Or.inl ⟨i, e, Option.some.inj h1⟩
    · exact Or.inr hq
  refine Jvm.Free.MetFree.mono (h sz) ?_ (fun _ _ _ _ _ h => h) ?_
  · rintro a s ⟨rfl, ⟨hsz, hP, hE, hD⟩, hZ⟩
    exact ⟨rfl, ⟨hsz, hP.sub isC (fm_of hC), hE, hD.sub isC hnC hC⟩, hZ.narrow hA⟩
  · rintro a s o s' ⟨rfl, ⟨hsz, hP, hE, hD⟩, hZ⟩ ⟨⟨⟨u, ho, hp, hP1, hD1⟩, hF⟩, L, hL, hfree⟩
    subst hsz
    obtain ⟨hP2, hD2⟩ := va_join hP hD.self isC isR hC hR hnR hd hF.2 hA hP1 hD1
    exact ⟨⟨⟨u, ho, hp, hP2.sub isP (fm_of (hX u)), hD2.sub isP hnP (hX u)⟩, hF.1, fun q h1 h2 => hF.2 q h1 (fun z => h2 (hA q z))⟩, L, hL, fun q hq => hA _ (hfree q hq)⟩
def putAll : va_W → List Nat → va_W → va_W
  | w, i :: is, c :: cs => putAll (w.set i c) is cs
  | w, _, _ => w
theorem putAll_at : ∀ (is : List Nat) (cs w : va_W) (k : Nat) (q : Nat × va_E), (putAll w is cs)[k]? = some q → w[k]? = some q ∧ (∀ j i : Nat, is[j]? = some i → j < cs.length → k ≠ i) ∨ ∃ j : Nat, is[j]? = some k ∧ cs[j]? = some q
  | [], cs, w, k, q, h => Or.inl ⟨by cases cs <;> exact h, fun j i h => by cases h⟩
  | i :: is, [], w, k, q, h => Or.inl ⟨h, fun j i _ h => absurd h (Nat.not_lt_zero j)⟩
  | i :: is, c :: cs, w, k, q, h => by
    rcases putAll_at is cs (w.set i c) k q h with ⟨h1, h2⟩ | ⟨j, h1, h2⟩
    · by_cases e : k = i
      · subst e
        rw [List.getElem?_set] at h1
        split at h1
        · split at h1
          · exact Or.inr ⟨0, rfl, h1⟩
          · cases h1
        next z => exact absurd rfl z
      · rw [List.getElem?_set_ne (fun z => e z.symm)] at h1
        refine Or.inl ⟨h1, fun j i' hj hl => ?_⟩
        cases j with
        | zero => exact fun z => e (z.trans (Option.some.inj hj).symm)
        | succ j => exact h2 j i' hj (Nat.lt_of_succ_lt_succ hl)
    · exact Or.inr ⟨j + 1, h1, h2⟩
theorem CoW.put {S : Type} {l : Launch} {y : MethodName} {ws : List Cond} {rm : Room} {D : va_G} {ca : Nat → ClassId} {av : List Value} {wc wx : va_W} {rv : S → Option Value} {post : S → Prop} {w1 wx1 : S → va_W} {mc ms : Nat} (h : CoW l y ws rm D ca av wc rv post w1 mc ms) (isC : List Nat) (as : List Nat) (hC : isC.map (fun i => wx[i]?) = wc.map some) (hnC : va_nd isC = true) (h1 : ∀ u, (w1 u).map Prod.fst = as) (h2 : wc.map Prod.fst = as) (hX : ∀ u, putAll wx isC (w1 u) = wx1 u) : CoW l y ws rm D ca av wx rv post wx1 mc ms := by
  intro sz
  have at' : ∀ (k : Nat) (q : Nat × va_E), wc[k]? = some q → ∃ i, isC[k]? = some i ∧ wx[i]? = some q := by
    intro k q hq
    have h1 : (isC.map (fun i => wx[i]?))[k]? = some (some q) := by rw [hC, List.getElem?_map, hq]; rfl
    rw [List.getElem?_map] at h1
    cases hi : isC[k]? with
    | none => rw [hi] at h1; cases h1
    | some i => rw [hi] at h1; exact ⟨i, rfl, Option.some.inj h1⟩
  have hA : ∀ q, va_A wc sz q → va_A wx sz q := by
    intro q hq
    rcases hq with ⟨k, e, hq⟩ | hq
    · obtain ⟨i, -, h2⟩ := at' k (q, e) hq
      exact Or.inl ⟨i, e, h2⟩
    · exact Or.inr hq
  have hsame : ∀ (u : S) (j : Nat) (q : Nat × va_E), (w1 u)[j]? = some q → ∃ e i, wc[j]? = some (q.1, e) ∧ isC[j]? = some i ∧ wx[i]? = some (q.1, e) := by
    intro u j q hq
    have h3 : ((w1 u).map Prod.fst)[j]? = some q.1 := by rw [List.getElem?_map, hq]; rfl
    rw [h1 u, ← h2, List.getElem?_map] at h3
    cases hi : wc[j]? with
    | none => rw [hi] at h3; cases h3
    | some z =>
      rw [hi] at h3
      have h4 : z.1 = q.1 := Option.some.inj h3
      obtain ⟨i, h5, h6⟩ := at' j z hi
      exact ⟨z.2, i, by rw [← h4], h5, by rw [h6, ← h4]⟩
  have hlen : ∀ u, isC.length = (w1 u).length := by
    intro u
    have e1 := congrArg List.length hC
    have e2 := congrArg List.length (h1 u)
    have e3 := congrArg List.length h2
    simp only [List.length_map] at e1 e2 e3
    omega
  have hfst : ∀ (u : S) (k : Nat) (q : Nat × va_E), (wx1 u)[k]? = some q → ∃ e, wx[k]? = some (q.1, e) := by
    intro u k q hq
    rw [← hX u] at hq
    rcases putAll_at isC (w1 u) wx k q hq with ⟨h3, -⟩ | ⟨j, h3, h4⟩
    · exact ⟨q.2, h3⟩
    · obtain ⟨e, i, -, g2, g3⟩ := hsame u j q h4
      cases h3.symm.trans g2
      exact ⟨e, g3⟩
  refine Jvm.Free.MetFree.mono (h sz) ?_ (fun _ _ _ _ _ h => h) ?_
  · rintro a s ⟨rfl, ⟨hsz, hP, hE, hD⟩, hZ⟩
    exact ⟨rfl, ⟨hsz, hP.sub isC (fm_of hC), hE, hD.sub isC hnC hC⟩, hZ.narrow hA⟩
  · rintro a s o s' ⟨rfl, ⟨hsz, hP, hE, hD⟩, hZ⟩ ⟨⟨⟨u, ho, hp, hP1, hD1⟩, hF⟩, L, hL, hfree⟩
    subst hsz
    refine ⟨⟨⟨u, ho, hp, fun k q hk => ?_, fun i j p q hi hj hpq => ?_, fun k q hk => ?_⟩, hF.1, fun q h1 h2 => hF.2 q h1 (fun z => h2 (hA q z))⟩, L, hL, fun q hq => hA _ (hfree q hq)⟩
    · rw [← hX u] at hk
      rcases putAll_at isC (w1 u) wx k q hk with ⟨h3, h4⟩ | ⟨j, h3, h4⟩
      · have hq := hP k q h3
        refine hq.kept (hF.2 q.1 hq.lt ?_)
        rintro (⟨k2, e, h5⟩ | h5)
        · obtain ⟨j, h6, h7⟩ := at' k2 (q.1, e) h5
          have hij := hD.1 k j q (q.1, e) h3 h7 rfl
          exact h4 k2 j h6 (by rw [← hlen u]; exact (List.getElem?_eq_some_iff.mp h6).1) hij
        · have := hq.lt
          omega
      · exact hP1 j q h4
    · obtain ⟨e1, h1⟩ := hfst u i p hi
      obtain ⟨e2, h2⟩ := hfst u j q hj
      exact hD.1 i j _ _ h1 h2 hpq
    · obtain ⟨e1, h1⟩ := hfst u k q hk
      exact Or.inl ⟨k, e1, h1⟩
def fsV (v : Nat → Nat) : Nat → Option Nat := va_up (va_up (fun _ => none) 0 (some (v 0))) 1 (some (v 1))
def fcV (v : Nat → Nat) (s : Nat) : Nat → Option Nat := va_up (va_up (va_up (fun _ => none) 0 (some (v (13 + 20 * s)))) (0 + 1) (some (v (16 + 20 * s)))) (0 + 1 + 1) (some (v (19 + 20 * s)))
theorem fsV_at {v : Nat → Nat} {s : Nat} (hs : s < 2) : fsV v s = some (v s) := by
  rcases (show s = 0 ∨ s = 1 by omega) with rfl | rfl <;> rfl
def sysO (x : Nat) (v : Nat → Nat) (ca : Nat → ClassId) (oq : Nat) (C : CS_) (G : Nat → Int64) : va_W := [(x, .inr (3, [.ref (v 6)])), (v 6, .inl (ca 2, 2, .inr (.inr (.inr (.inr (fsV v)))))), (v 2, .inr (0, [.ref (v 3), .int (nI (C.2.2.2 0).2)])), (v 3, .inl (ca 0, 12, .inl (fun j => nI ((C.2.2.2 0).1 j)))), (v 4, .inr (0, [.ref (v 5), .int (nI (C.2.2.2 1).2)])), (v 5, .inl (ca 0, 12, .inl (fun j => nI ((C.2.2.2 1).1 j)))), (v 0, .inr (2, [.ref (v 2), .ref (v 4), .ref (v 10), .ref (v 12), .int (nI (C.1 0).1), .int (nI (C.1 0).2.1), .int (nI (C.1 0).2.2.1), .int (nI (C.1 0).2.2.2.1), .int (nI (C.1 0).2.2.2.2.1), .int (nI (C.1 0).2.2.2.2.2)])), (v 10, .inr (0, [.ref (v 11), .int (nI (C.2.1 0).2)])), (v 11, .inl (ca 0, 16, .inl (fun j => nI ((C.2.1 0).1 j)))), (v 12, .inl (ca 3, 3, .inr (.inr (.inr (.inr (fcV v 0)))))), (v 13, .inr (1, [.int (nI (0)), .ref (v 14), .int (nI ((C.2.2.1 0 0)).1), .int (nI ((C.2.2.1 0 0)).2.1), .int (nI ((C.2.2.1 0 0)).2.2.1), .int (nI ((C.2.2.1 0 0)).2.2.2.1), .int (nI ((C.2.2.1 0 0)).2.2.2.2.1)])), (v 14, .inr (0, [.ref (v 15), .int (nI ((C.2.2.1 0 0).2.2.2.2.2).2)])), (v 15, .inl (ca 0, 2, .inl (fun j => nI (((C.2.2.1 0 0).2.2.2.2.2).1 j)))), (v 16, .inr (1, [.int (nI (0)), .ref (v 17), .int (nI ((C.2.2.1 0 1)).1), .int (nI ((C.2.2.1 0 1)).2.1), .int (nI ((C.2.2.1 0 1)).2.2.1), .int (nI ((C.2.2.1 0 1)).2.2.2.1), .int (nI ((C.2.2.1 0 1)).2.2.2.2.1)])), (v 17, .inr (0, [.ref (v 18), .int (nI ((C.2.2.1 0 1).2.2.2.2.2).2)])), (v 18, .inl (ca 0, 2, .inl (fun j => nI (((C.2.2.1 0 1).2.2.2.2.2).1 j)))), (v 19, .inr (1, [.int (nI (0)), .ref (v 20), .int (nI ((C.2.2.1 0 2)).1), .int (nI ((C.2.2.1 0 2)).2.1), .int (nI ((C.2.2.1 0 2)).2.2.1), .int (nI ((C.2.2.1 0 2)).2.2.2.1), .int (nI ((C.2.2.1 0 2)).2.2.2.2.1)])), (v 20, .inr (0, [.ref (v 21), .int (nI ((C.2.2.1 0 2).2.2.2.2.2).2)])), (v 21, .inl (ca 0, 2, .inl (fun j => nI (((C.2.2.1 0 2).2.2.2.2.2).1 j)))), (v 1, .inr (2, [.ref (v 4), .ref (v 2), .ref (v 30), .ref (v 32), .int (nI (C.1 1).1), .int (nI (C.1 1).2.1), .int (nI (C.1 1).2.2.1), .int (nI (C.1 1).2.2.2.1), .int (nI (C.1 1).2.2.2.2.1), .int (nI (C.1 1).2.2.2.2.2)])), (v 30, .inr (0, [.ref (v 31), .int (nI (C.2.1 1).2)])), (v 31, .inl (ca 0, 16, .inl (fun j => nI ((C.2.1 1).1 j)))), (v 32, .inl (ca 3, 3, .inr (.inr (.inr (.inr (fcV v 1)))))), (v 33, .inr (1, [.int (nI (1)), .ref (v 34), .int (nI ((C.2.2.1 1 0)).1), .int (nI ((C.2.2.1 1 0)).2.1), .int (nI ((C.2.2.1 1 0)).2.2.1), .int (nI ((C.2.2.1 1 0)).2.2.2.1), .int (nI ((C.2.2.1 1 0)).2.2.2.2.1)])), (v 34, .inr (0, [.ref (v 35), .int (nI ((C.2.2.1 1 0).2.2.2.2.2).2)])), (v 35, .inl (ca 0, 2, .inl (fun j => nI (((C.2.2.1 1 0).2.2.2.2.2).1 j)))), (v 36, .inr (1, [.int (nI (1)), .ref (v 37), .int (nI ((C.2.2.1 1 1)).1), .int (nI ((C.2.2.1 1 1)).2.1), .int (nI ((C.2.2.1 1 1)).2.2.1), .int (nI ((C.2.2.1 1 1)).2.2.2.1), .int (nI ((C.2.2.1 1 1)).2.2.2.2.1)])), (v 37, .inr (0, [.ref (v 38), .int (nI ((C.2.2.1 1 1).2.2.2.2.2).2)])), (v 38, .inl (ca 0, 2, .inl (fun j => nI (((C.2.2.1 1 1).2.2.2.2.2).1 j)))), (v 39, .inr (1, [.int (nI (1)), .ref (v 40), .int (nI ((C.2.2.1 1 2)).1), .int (nI ((C.2.2.1 1 2)).2.1), .int (nI ((C.2.2.1 1 2)).2.2.1), .int (nI ((C.2.2.1 1 2)).2.2.2.1), .int (nI ((C.2.2.1 1 2)).2.2.2.2.1)])), (v 40, .inr (0, [.ref (v 41), .int (nI ((C.2.2.1 1 2).2.2.2.2.2).2)])), (v 41, .inl (ca 0, 2, .inl (fun j => nI (((C.2.2.1 1 2).2.2.2.2.2).1 j)))), (oq, .inl (ca 4, 1, .inr (.inl G)))]
def vW (x : Nat) (v : Nat → Nat) (ca : Nat → ClassId) (oq s : Nat) (n : Nm_) (O : Rw_) (K : Nat → Cn_) (L P : Rw_) (n2 : Nm_) (O2 : Rw_) (K2 : Nat → Cn_) (G : Nat → Int64) : va_W := [(x, .inr (3, [.ref (v 6)])), (v 6, .inl (ca 2, 2, .inr (.inr (.inr (.inr (fsV v)))))), (v s, .inr (2, [.ref (v (2 + 2 * s)), .ref (v (4 - 2 * s)), .ref (v (10 + 20 * s)), .ref (v (12 + 20 * s)), .int (nI (n).1), .int (nI (n).2.1), .int (nI (n).2.2.1), .int (nI (n).2.2.2.1), .int (nI (n).2.2.2.2.1), .int (nI (n).2.2.2.2.2)])), (v (4 - 2 * s), .inr (0, [.ref (v (5 - 2 * s)), .int (nI (P).2)])), (v (5 - 2 * s), .inl (ca 0, 12, .inl (fun j => nI ((P).1 j)))), (v (10 + 20 * s), .inr (0, [.ref (v (11 + 20 * s)), .int (nI (O).2)])), (v (11 + 20 * s), .inl (ca 0, 16, .inl (fun j => nI ((O).1 j)))), (v (12 + 20 * s), .inl (ca 3, 3, .inr (.inr (.inr (.inr (fcV v s)))))), (v (13 + 20 * s), .inr (1, [.int (nI (s)), .ref (v (14 + 20 * s)), .int (nI ((K 0)).1), .int (nI ((K 0)).2.1), .int (nI ((K 0)).2.2.1), .int (nI ((K 0)).2.2.2.1), .int (nI ((K 0)).2.2.2.2.1)])), (v (14 + 20 * s), .inr (0, [.ref (v (15 + 20 * s)), .int (nI ((K 0).2.2.2.2.2).2)])), (v (15 + 20 * s), .inl (ca 0, 2, .inl (fun j => nI (((K 0).2.2.2.2.2).1 j)))), (v (16 + 20 * s), .inr (1, [.int (nI (s)), .ref (v (17 + 20 * s)), .int (nI ((K 1)).1), .int (nI ((K 1)).2.1), .int (nI ((K 1)).2.2.1), .int (nI ((K 1)).2.2.2.1), .int (nI ((K 1)).2.2.2.2.1)])), (v (17 + 20 * s), .inr (0, [.ref (v (18 + 20 * s)), .int (nI ((K 1).2.2.2.2.2).2)])), (v (18 + 20 * s), .inl (ca 0, 2, .inl (fun j => nI (((K 1).2.2.2.2.2).1 j)))), (v (19 + 20 * s), .inr (1, [.int (nI (s)), .ref (v (20 + 20 * s)), .int (nI ((K 2)).1), .int (nI ((K 2)).2.1), .int (nI ((K 2)).2.2.1), .int (nI ((K 2)).2.2.2.1), .int (nI ((K 2)).2.2.2.2.1)])), (v (20 + 20 * s), .inr (0, [.ref (v (21 + 20 * s)), .int (nI ((K 2).2.2.2.2.2).2)])), (v (21 + 20 * s), .inl (ca 0, 2, .inl (fun j => nI (((K 2).2.2.2.2.2).1 j)))), (v (2 + 2 * s), .inr (0, [.ref (v (3 + 2 * s)), .int (nI (L).2)])), (v (3 + 2 * s), .inl (ca 0, 12, .inl (fun j => nI ((L).1 j)))), (oq, .inl (ca 4, 1, .inr (.inl G))), (v (1 - s), .inr (2, [.ref (v (4 - 2 * s)), .ref (v (2 + 2 * s)), .ref (v (10 + 20 * (1 - s))), .ref (v (12 + 20 * (1 - s))), .int (nI (n2).1), .int (nI (n2).2.1), .int (nI (n2).2.2.1), .int (nI (n2).2.2.2.1), .int (nI (n2).2.2.2.2.1), .int (nI (n2).2.2.2.2.2)])), (v (10 + 20 * (1 - s)), .inr (0, [.ref (v (11 + 20 * (1 - s))), .int (nI (O2).2)])), (v (11 + 20 * (1 - s)), .inl (ca 0, 16, .inl (fun j => nI ((O2).1 j)))), (v (12 + 20 * (1 - s)), .inl (ca 3, 3, .inr (.inr (.inr (.inr (fcV v (1 - s))))))), (v (13 + 20 * (1 - s)), .inr (1, [.int (nI (1 - s)), .ref (v (14 + 20 * (1 - s))), .int (nI ((K2 0)).1), .int (nI ((K2 0)).2.1), .int (nI ((K2 0)).2.2.1), .int (nI ((K2 0)).2.2.2.1), .int (nI ((K2 0)).2.2.2.2.1)])), (v (14 + 20 * (1 - s)), .inr (0, [.ref (v (15 + 20 * (1 - s))), .int (nI ((K2 0).2.2.2.2.2).2)])), (v (15 + 20 * (1 - s)), .inl (ca 0, 2, .inl (fun j => nI (((K2 0).2.2.2.2.2).1 j)))), (v (16 + 20 * (1 - s)), .inr (1, [.int (nI (1 - s)), .ref (v (17 + 20 * (1 - s))), .int (nI ((K2 1)).1), .int (nI ((K2 1)).2.1), .int (nI ((K2 1)).2.2.1), .int (nI ((K2 1)).2.2.2.1), .int (nI ((K2 1)).2.2.2.2.1)])), (v (17 + 20 * (1 - s)), .inr (0, [.ref (v (18 + 20 * (1 - s))), .int (nI ((K2 1).2.2.2.2.2).2)])), (v (18 + 20 * (1 - s)), .inl (ca 0, 2, .inl (fun j => nI (((K2 1).2.2.2.2.2).1 j)))), (v (19 + 20 * (1 - s)), .inr (1, [.int (nI (1 - s)), .ref (v (20 + 20 * (1 - s))), .int (nI ((K2 2)).1), .int (nI ((K2 2)).2.1), .int (nI ((K2 2)).2.2.1), .int (nI ((K2 2)).2.2.2.1), .int (nI ((K2 2)).2.2.2.2.1)])), (v (20 + 20 * (1 - s)), .inr (0, [.ref (v (21 + 20 * (1 - s))), .int (nI ((K2 2).2.2.2.2.2).2)])), (v (21 + 20 * (1 - s)), .inl (ca 0, 2, .inl (fun j => nI (((K2 2).2.2.2.2.2).1 j))))]
set_option maxRecDepth 100000 in
set_option maxHeartbeats 4000000 in
theorem vw_in {l : Launch} {y : MethodName} {ws : List Cond} {rm : Room} {D : va_G} {ca : Nat → ClassId} {av : List Value} {rv : Unit → Option Value} {post : Unit → Prop} {mc ms : Nat} {x oq s : Nat} {v : Nat → Nat} {C : CS_} {G G' : Nat → Int64} {n : Nm_} {O : Rw_} {K : Nat → Cn_} {L P : Rw_} (hs : s < 2) (h : CoW l y ws rm D ca av (vW x v ca oq s (C.1 s) (C.2.1 s) (C.2.2.1 s) (C.2.2.2 s) (C.2.2.2 (1 - s)) (C.1 (1 - s)) (C.2.1 (1 - s)) (C.2.2.1 (1 - s)) G) rv post (fun _ => vW x v ca oq s n O K L P (C.1 (1 - s)) (C.2.1 (1 - s)) (C.2.2.1 (1 - s)) G') mc ms) : CoW l y ws rm D ca av (sysO x v ca oq C G) rv post (fun _ => sysO x v ca oq (stp C s n O K L P) G') mc ms := by
  rcases (show s = 0 ∨ s = 1 by omega) with rfl | rfl
  · exact h.frame [0, 1, 6, 4, 5, 7, 8, 9, 10, 11, 12, 13, 14, 15, 16, 17, 18, 2, 3, 32, 19, 20, 21, 22, 23, 24, 25, 26, 27, 28, 29, 30, 31] [] [0, 1, 17, 18, 3, 4, 2, 5, 6, 7, 8, 9, 10, 11, 12, 13, 14, 15, 16, 20, 21, 22, 23, 24, 25, 26, 27, 28, 29, 30, 31, 32, 19] rfl rfl rfl rfl rfl rfl (fun _ => rfl)
  · exact h.frame [0, 1, 19, 2, 3, 20, 21, 22, 23, 24, 25, 26, 27, 28, 29, 30, 31, 4, 5, 32, 6, 7, 8, 9, 10, 11, 12, 13, 14, 15, 16, 17, 18] [] [0, 1, 3, 4, 17, 18, 20, 21, 22, 23, 24, 25, 26, 27, 28, 29, 30, 31, 32, 2, 5, 6, 7, 8, 9, 10, 11, 12, 13, 14, 15, 16, 19] rfl rfl rfl rfl rfl rfl (fun _ => rfl)
set_option maxRecDepth 100000 in
set_option maxHeartbeats 4000000 in
theorem vw_id {l : Launch} {y : MethodName} {ws : List Cond} {rm : Room} {D : va_G} {ca : Nat → ClassId} {av : List Value} {rv : Unit → Option Value} {post : Unit → Prop} {mc ms : Nat} {x oq s : Nat} {v : Nat → Nat} {C : CS_} {G G' : Nat → Int64} (hs : s < 2) (h : CoW l y ws rm D ca av (vW x v ca oq s (C.1 s) (C.2.1 s) (C.2.2.1 s) (C.2.2.2 s) (C.2.2.2 (1 - s)) (C.1 (1 - s)) (C.2.1 (1 - s)) (C.2.2.1 (1 - s)) G) rv post (fun _ => vW x v ca oq s (C.1 s) (C.2.1 s) (C.2.2.1 s) (C.2.2.2 s) (C.2.2.2 (1 - s)) (C.1 (1 - s)) (C.2.1 (1 - s)) (C.2.2.1 (1 - s)) G') mc ms) : CoW l y ws rm D ca av (sysO x v ca oq C G) rv post (fun _ => sysO x v ca oq C G') mc ms := by
  rcases (show s = 0 ∨ s = 1 by omega) with rfl | rfl
  · exact h.frame [0, 1, 6, 4, 5, 7, 8, 9, 10, 11, 12, 13, 14, 15, 16, 17, 18, 2, 3, 32, 19, 20, 21, 22, 23, 24, 25, 26, 27, 28, 29, 30, 31] [] [0, 1, 17, 18, 3, 4, 2, 5, 6, 7, 8, 9, 10, 11, 12, 13, 14, 15, 16, 20, 21, 22, 23, 24, 25, 26, 27, 28, 29, 30, 31, 32, 19] rfl rfl rfl rfl rfl rfl (fun _ => rfl)
  · exact h.frame [0, 1, 19, 2, 3, 20, 21, 22, 23, 24, 25, 26, 27, 28, 29, 30, 31, 4, 5, 32, 6, 7, 8, 9, 10, 11, 12, 13, 14, 15, 16, 17, 18] [] [0, 1, 3, 4, 17, 18, 20, 21, 22, 23, 24, 25, 26, 27, 28, 29, 30, 31, 32, 2, 5, 6, 7, 8, 9, 10, 11, 12, 13, 14, 15, 16, 19] rfl rfl rfl rfl rfl rfl (fun _ => rfl)
set_option maxRecDepth 100000 in
set_option maxHeartbeats 4000000 in
theorem fr2 {l : Launch} {y : MethodName} {ws : List Cond} {rm : Room} {D : va_G} {ca : Nat → ClassId} {av : List Value} {rv : Unit → Option Value} {post : Unit → Prop} {mc ms : Nat} {x oq : Nat} {v : Nat → Nat} {C : CS_} {G : Nat → Int64} (h : CoW l y ws rm D ca av [(x, .inr (3, [.ref (v 6)])), (v 6, .inl (ca 2, 2, .inr (.inr (.inr (.inr (fsV v))))))] rv post (fun _ => [(x, .inr (3, [.ref (v 6)])), (v 6, .inl (ca 2, 2, .inr (.inr (.inr (.inr (fsV v))))))]) mc ms) : CoW l y ws rm D ca av (sysO x v ca oq C G) rv post (fun _ => sysO x v ca oq C G) mc ms := h.frame [0, 1] [2, 3, 4, 5, 6, 7, 8, 9, 10, 11, 12, 13, 14, 15, 16, 17, 18, 19, 20, 21, 22, 23, 24, 25, 26, 27, 28, 29, 30, 31, 32] [31, 32, 0, 1, 2, 3, 4, 5, 6, 7, 8, 9, 10, 11, 12, 13, 14, 15, 16, 17, 18, 19, 20, 21, 22, 23, 24, 25, 26, 27, 28, 29, 30] rfl rfl rfl rfl rfl rfl (fun _ => rfl)
set_option maxRecDepth 100000 in
set_option maxHeartbeats 4000000 in
theorem fr3 {l : Launch} {y : MethodName} {ws : List Cond} {rm : Room} {D : va_G} {ca : Nat → ClassId} {av : List Value} {rv : Unit → Option Value} {post : Unit → Prop} {mc ms : Nat} {x oq : Nat} {v : Nat → Nat} {C : CS_} {G G' : Nat → Int64} (h : CoW l y ws rm D ca av [(x, .inr (3, [.ref (v 6)])), (v 6, .inl (ca 2, 2, .inr (.inr (.inr (.inr (fsV v)))))), (oq, .inl (ca 4, 1, .inr (.inl G)))] rv post (fun _ => [(x, .inr (3, [.ref (v 6)])), (v 6, .inl (ca 2, 2, .inr (.inr (.inr (.inr (fsV v)))))), (oq, .inl (ca 4, 1, .inr (.inl G')))]) mc ms) : CoW l y ws rm D ca av (sysO x v ca oq C G) rv post (fun _ => sysO x v ca oq C G') mc ms := h.frame [0, 1, 32] [2, 3, 4, 5, 6, 7, 8, 9, 10, 11, 12, 13, 14, 15, 16, 17, 18, 19, 20, 21, 22, 23, 24, 25, 26, 27, 28, 29, 30, 31] [30, 31, 0, 1, 2, 3, 4, 5, 6, 7, 8, 9, 10, 11, 12, 13, 14, 15, 16, 17, 18, 19, 20, 21, 22, 23, 24, 25, 26, 27, 28, 29, 32] rfl rfl rfl rfl rfl rfl (fun _ => rfl)
def Bn (n : Nm_) (O : Rw_) (K : Nat → Cn_) (L P : Rw_) : Prop := n.1 < 3 ∧ n.2.1 < 8 ∧ n.2.2.1 < 8 ∧ n.2.2.2.1 < 8 ∧ n.2.2.2.2.1 < 4 ∧ n.2.2.2.2.2 < 2 ∧ oOk O ∧ P.2 ≤ 12 ∧ L.2 ≤ 12 ∧ ds n.2.2.1 n.2.1 ≤ O.2 ∧ (∀ c, c < 3 → kOk (K c)) ∧ ∀ j, j < L.2 → L.1 j < 2 ^ 31
theorem RX.bn {M : Nat → Nat → Nat} {s : Nat} {n : Nm_} {O : Rw_} {K : Nat → Cn_} {L P : Rw_} (h : RX M s n O K L P) : Bn n O K L P := by
  obtain ⟨h1, h2, h3, h4, h5, h6, h7, h8, h9, h10, h11, h12, -⟩ := h.bnd
  exact ⟨h1, h2, h3, h4, h5, h6, h7, h8, h9, h10, h11, h12⟩
