/-! what holds between two calls -/
def CInv (S : tkS) (z : Nat) (B : Nat → Int32) (on : Int32) (T : Nat → Int32) (t : Int32) (I : tkI) (J : tkJ) (R : Nat → Nat) : Prop :=
  (R 0 < 2 ∧ R 1 < 2 ∧ R 0 ≠ R 1) ∧ NetP (I 1 (R 0)) S ∧ TpC (I 3 0) z B ∧ (¬ I 0 0 0 1 = 0 → I 0 0 0 2 = spo S) ∧ (¬ I 4 0 0 6 = 0 → KnS S (I 4 0) (J 4 0)) ∧ I 2 0 0 1 = on ∧ (on = 1 → (∀ j, j < 16 → I 2 0 1 j = T j) ∧ I 2 0 0 2 = t ∧ I 2 0 0 3 = nI (sM S - ncF T (sM S)) ∧ ¬ I 4 0 0 6 = 0)
def MInv (S : tkS) (z : Nat) (B : Nat → Int32) (on : Int32) (T : Nat → Int32) (t : Int32) (I : tkI) (J : tkJ) : Prop :=
  NetP (I 6 0) S ∧ TpM (I 6 0) z B ∧ (I 6 0 0 11 = 0 ∨ I 6 0 0 11 = 1) ∧ (I 6 0 0 11 = 1 → KnM S (I 6 0) (J 6 0)) ∧ I 6 0 0 10 = on ∧ (∀ j, j < 16 → I 6 0 33 j = T j) ∧ I 6 0 0 31 = t ∧ (on = 1 → I 6 0 0 11 = 1)
def AInv (c : Nat) (S : tkS) (z : Nat) (on : Int32) (T : Nat → Int32) (t : Int32) : Prop :=
  WF S ∧ z ≤ 1000 ∧ (on = 0 ∨ on = 1) ∧ TOk T ∧ (on = 1 → (∃ k e v, WkP S 1 k e v) ∧ ∃ n, t = nI n ∧ n ≤ 200001 * c ∧ ∀ j, j < 16 → T j = -9 ∨ ∃ k, k ≤ n ∧ T j = nI k)
/-- what the law needs of a pair of calls -/
def Fin (c : Nat) (r : Option tkV) : tkQ := fun r' W => r' = r ∧ ∃ S z B on T t, AInv (c + 1) S z on T t ∧ CInv S z B on T t W.1 W.2.1 W.2.2 ∧ MInv S z B on T t W.1 W.2.1
theorem CInv.to {S : tkS} {z : Nat} {B : Nat → Int32} {on : Int32} {T : Nat → Int32} {t : Int32} {I I' : tkI} {J J' : tkJ} {R : Nat → Nat} (h : CInv S z B on T t I J R) (h1 : I' 1 (R 0) = I 1 (R 0)) (h3 : I' 3 0 = I 3 0) (h0 : I' 0 0 = I 0 0) (h4 : I' 4 0 = I 4 0) (j4 : J' 4 0 = J 4 0) (h2 : I' 2 0 = I 2 0) : CInv S z B on T t I' J' R := by
  unfold CInv
  rw [h1, h3, h0, h4, j4, h2]
  exact h
theorem MInv.to {S : tkS} {z : Nat} {B : Nat → Int32} {on : Int32} {T : Nat → Int32} {t : Int32} {I I' : tkI} {J J' : tkJ} (h : MInv S z B on T t I J) (h1 : I' 6 0 = I 6 0) (h2 : J' 6 0 = J 6 0) : MInv S z B on T t I' J' := by
  unfold MInv
  rw [h1, h2]
  exact h
theorem CInv.m {S : tkS} {z : Nat} {B : Nat → Int32} {on : Int32} {T : Nat → Int32} {t : Int32} {I : tkI} {J : tkJ} {R : Nat → Nat} (h : CInv S z B on T t I J R) (X : Nat → Nat → Int32) (N : Nat → Nat → Int64) : CInv S z B on T t (tk_so I 6 0 X) (tk_so J 6 0 N) R :=
  h.to (tk_so_ne (by omega)) (tk_so_ne (by omega)) (tk_so_ne (by omega)) (tk_so_ne (by omega)) (tk_so_ne (by omega)) (tk_so_ne (by omega))
theorem AInv.c {c : Nat} {S : tkS} {z : Nat} {on : Int32} {T : Nat → Int32} {t : Int32} (h : AInv c S z on T t) : AInv (c + 1) S z on T t := by
  obtain ⟨h1, h2, h3, h4, h5⟩ := h
  refine ⟨h1, h2, h3, h4, fun q => ?_⟩
  obtain ⟨a, n, b1, b2, b3⟩ := h5 q
  exact ⟨a, n, b1, by omega, b3⟩
/-- the run is over -/
theorem AInv.off {c : Nat} {S S' : tkS} {z z' : Nat} {on : Int32} {T : Nat → Int32} {t : Int32} (h : AInv c S z on T t) (w : WF S') (hz : z' ≤ 1000) : AInv (c + 1) S' z' 0 T t :=
  ⟨w, hz, Or.inl rfl, h.2.2.2.1, fun q => absurd q (by decide)⟩
theorem AInv.z {c : Nat} {S : tkS} {z z' : Nat} {on : Int32} {T : Nat → Int32} {t : Int32} (h : AInv c S z on T t) (hz : z' ≤ 1000) : AInv (c + 1) S z' on T t := ⟨h.1, hz, h.c.2.2⟩
/-! refused calls leave the net -/
theorem rfF_n {S : tkS} {a b l h f : Int32} : ¬ rfF S a b l h f = 0 → rfF S a b l h f < 0 := by
  intro q
  unfold rfF at *
  split
  · decide
  · rename_i c1
    rw [if_neg c1] at q
    split
    · decide
    · rename_i c2
      rw [if_neg c2] at q
      split
      · rename_i c3; rw [if_pos c3] at q; exact absurd rfl q
      · decide
theorem opMom_n {S : tkS} (w : WF S) {n : Int32} (h : (opMom S n).1 < 0) : (opMom S n).2 = S := by
  unfold opMom at *
  split
  · rfl
  · rename_i c1
    rw [if_neg c1] at h
    split
    · rfl
    · rename_i c2
      rw [if_neg c2] at h
      have hM := w.1
      have a1 : ¬ n < 1 := fun z => c1 (Or.inl z)
      have a2 : ¬ 16 < n := fun z => c1 (Or.inr z)
      obtain ⟨j, hj, rfl⟩ := nI_of (show ¬ n < 0 from fun z => a1 (by rw [Int32.lt_iff_toInt_lt] at *; have : (1 : Int32).toInt = 1 := by decide
                                                                      have : (0 : Int32).toInt = 0 := by decide
                                                                      omega))
      have a3 : ¬ nI 16 < nI j := a2
      have a3 : j ≤ 16 := Nat.not_lt.mp (fun z => a3 ((nI_ltI (by omega) hj).mpr z))
      rw [nI_clamp hj] at h
      exact absurd h (nI_pos (by omega))
theorem opWish_n {S : tkS} (w : WF S) {a b l h : Int32} (q : (opWish S a b l h).1 < 0) : (opWish S a b l h).2 = S := by
  have hL := w.2.1
  unfold opWish at *
  split
  · rename_i c1
    rw [if_pos c1] at q
    split
    · rfl
    · rename_i c2
      rw [if_neg c2] at q
      exact absurd q (nI_pos (by omega))
  · rfl
theorem opGift_n {S : tkS} (w : WF S) {a b l h : Int32} (q : (opGift S a b l h).1 < 0) : (opGift S a b l h).2 = S := by
  have hL := w.2.1
  unfold opGift at *
  split
  · rename_i c1
    rw [if_pos c1] at q
    split
    · rfl
    · rename_i c2
      rw [if_neg c2] at q
      split
      · rfl
      · rename_i c3
        rw [if_neg c3] at q
        exact absurd q (nI_pos (by omega))
  · rfl
theorem opUndo_n {S : tkS} (w : WF S) (q : (opUndo S).1 < 0) : (opUndo S).2 = S := by
  have hL := w.2.1
  unfold opUndo at *
  split
  · rfl
  · rename_i c1
    rw [if_neg c1] at q
    exact absurd q (nI_pos (by omega))
theorem opTight_n {S : tkS} {k l h : Int32} (q : (opTight S k l h).1 < 0) : (opTight S k l h).2 = S := by
  unfold opTight at *
  by_cases c1 : 0 ≤ k ∧ k < nI (sL S)
  · rw [if_pos c1] at q ⊢
    by_cases c2 : fitB l h (if sgn S k.toNatClampNeg = -9 then -100000 else 1)
    · rw [if_pos c2] at q; exact absurd (show (1 : Int32) < 0 from q) (by decide)
    · rw [if_neg c2]
  · rw [if_neg c1]
theorem fR.kn {X0 X : Nat → Nat → Int32} (h : fR X0 X) {S : tkS} {N : Nat → Nat → Int64} (hk : KnM S X0 N) : KnM S X N := by
  obtain ⟨x, k, e, v, h1, h2, h3, h4⟩ := hk
  exact ⟨x, k, e, v, h1, by rw [h.1 29 (by decide)]; exact h2, by rw [h.1 30 (by decide)]; exact h3, h4⟩
theorem KnM.to {X X' : Nat → Nat → Int32} {S : tkS} {N N' : Nat → Nat → Int64} (hk : KnM S X N) (h1 : X' 0 29 = X 0 29) (h2 : X' 0 30 = X 0 30) (h3 : N' 24 = N 24) (h4 : N' 25 = N 25) : KnM S X' N' := by
  obtain ⟨x, k, e, v, g1, g2, g3, g4, g5⟩ := hk
  exact ⟨x, k, e, v, g1, h1.trans g2, h2.trans g3, by rw [h3]; exact g4, by rw [h4]; exact g5⟩
