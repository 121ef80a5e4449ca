/-! pure facts: idle, and what a change leaves -/
theorem ltF_no {S : tkS} {T : Nat → Int32} {t : Int32} : ∀ n g, ¬ ltF S T t n g = true → ∀ h, g ≤ h → h < g + n → ¬ (udw S T h ∧ shi S (sgl S h) < t - T (sf S (sgl S h))) := by
  intro n
  induction n with
  | zero => intro g _ h h1 h2; omega
  | succ n ih =>
    intro g hl h h1 h2 q
    unfold ltF at hl
    split at hl
    · exact hl rfl
    · rename_i c
      by_cases e : h = g
      · subst e; exact c q
      · exact ih (g + 1) hl h (by omega) (by omega) q
theorem ftF_ge {S : tkS} {e v : tkD} {T : Nat → Int32} {t : Int32} {m : Nat} : t.toInt64 ≤ ftF S e v T t m := by
  unfold ftF
  split
  · exact le_mx.1
  · exact Int64.le_of_lt (t_far t)
theorem paM_b {S : tkS} {e v : tkD} {T : Nat → Int32} {t : Int32} : ∀ n m a, t.toInt64 ≤ a → t.toInt64 ≤ paM S e v T t n m a ∧ paM S e v T t n m a ≤ a := by
  intro n
  induction n with
  | zero => intro m a h; exact ⟨h, Int64.le_refl _⟩
  | succ n ih =>
    intro m a h
    unfold paM
    split
    · have := ih (m + 1) (mn a (ftF S e v T t m)) (mn_iff.mpr ⟨h, ftF_ge⟩)
      exact ⟨this.1, ll_trans this.2 mn_le.1⟩
    · exact ih (m + 1) a h
theorem paG_b {S : tkS} {T : Nat → Int32} {y : Int64} : ∀ n g a, (∀ h, g ≤ h → h < g + n → udw S T h → y ≤ (T (sf S (sgl S h))).toInt64 + (shi S (sgl S h)).toInt64) → y ≤ a → y ≤ paG S T n g a ∧ paG S T n g a ≤ a := by
  intro n
  induction n with
  | zero => intro g a _ h; exact ⟨h, Int64.le_refl _⟩
  | succ n ih =>
    intro g a hg h
    unfold paG
    split
    · rename_i c
      have := ih (g + 1) (mn a ((T (sf S (sgl S g))).toInt64 + (shi S (sgl S g)).toInt64)) (fun h h1 h2 => hg h (by omega) (by omega)) (mn_iff.mpr ⟨h, hg g (by omega) (by omega) c⟩)
      exact ⟨this.1, ll_trans this.2 mn_le.1⟩
    · exact ih (g + 1) a (fun h h1 h2 => hg h (by omega) (by omega)) h
theorem add64 {x y : Int32} : (x.toInt64 + y.toInt64).toInt = x.toInt + y.toInt := by
  rw [Int64.toInt_add, i64_toInt, i64_toInt]
  have h1 := Int32.toInt_lt x
  have h2 := Int32.toInt_lt y
  have h3 := Int32.le_toInt x
  have h4 := Int32.le_toInt y
  rw [Int.bmod_eq_of_le (by omega) (by omega)]
theorem idle_b {S : tkS} (w : WF S) {e v : tkD} {T : Nat → Int32} {n : Nat} {n0 : Int32} (hn : n < 2 ^ 30) (hT : ∀ j, j < 16 → T j = -9 ∨ ∃ k, k ≤ n ∧ T j = nI k) (h0 : 0 ≤ n0 ∧ n0 ≤ 200000) (hl : ¬ ltF S T (nI n) (sG S) 0 = true) : ∃ d : Nat, d ≤ 200000 ∧ (paF S e v T (nI n) n0).toInt = (n : Int) + (d : Int) := by
  have hM16 := w.1
  have e1 : (nI n).toInt = n := nI_toInt (by omega)
  have e2 : (0 : Int32).toInt = 0 := by decide
  have e3 : (200000 : Int32).toInt = 200000 := by decide
  have q1 := h0.1
  have q2 := h0.2
  rw [Int32.le_iff_toInt_le] at q1 q2
  have s1 : (nI n).toInt64 ≤ (nI n).toInt64 + n0.toInt64 := by
    rw [Int64.le_iff_toInt_le, add64, i64_toInt]; omega
  have s2 := paM_b (S := S) (e := e) (v := v) (T := T) (sM S) 0 _ s1
  have s3 := paG_b (S := S) (T := T) (y := (nI n).toInt64) (sG S) 0 (paM S e v T (nI n) (sM S) 0 ((nI n).toInt64 + n0.toInt64)) (fun g h1 h2 hu => by
    have hf := w.fM (w.gl (g := g) (by omega))
    have hb := w.bn (w.gl (g := g) (by omega))
    unfold bnd at hb
    have hno := ltF_no _ _ hl g h1 h2
    rcases hT (sf S (sgl S g)) (by omega) with z | ⟨k, hk, z⟩
    · exact absurd z hu.1
    · rw [z] at hno ⊢
      have h3 : ¬ shi S (sgl S g) < nI n - nI k := fun y => hno ⟨hu, y⟩
      rw [Int32.lt_iff_toInt_lt, pk_sub_toInt (by omega) (by omega)] at h3
      have e4 : (nI k).toInt = k := nI_toInt (by omega)
      rw [Int64.le_iff_toInt_le, add64, i64_toInt]
      omega) s2.1
  have s4 := s3.1
  have s5 := ll_trans s3.2 s2.2
  rw [Int64.le_iff_toInt_le] at s4 s5
  rw [add64] at s5
  rw [i64_toInt] at s4
  have hp : paF S e v T (nI n) n0 = paG S T (sG S) 0 (paM S e v T (nI n) (sM S) 0 ((nI n).toInt64 + n0.toInt64)) := rfl
  rw [← hp] at s4 s5
  exact ⟨((paF S e v T (nI n) n0).toInt - n).toNat, by omega, by omega⟩
theorem idle_t {t : Int32} {p : Int64} : t + (p - t.toInt64).toInt32 = p.toInt32 := by
  rw [Int64.toInt32_sub, Int32.toInt32_toInt64, Int32.add_comm, Int32.sub_add_cancel]
theorem idle_n {p : Int64} {m : Nat} (hm : m < 2 ^ 31) (h : p.toInt = m) : p.toInt32 = nI m := by
  apply Int32.toInt_inj.mp
  rw [Int64.toInt_toInt32, h, nI_toInt hm]
  exact Int.bmod_eq_of_le (by omega) (by omega)
theorem AInv.chg {c : Nat} {S S' : tkS} {z : Nat} {on : Int32} {T : Nat → Int32} {t r : Int32} (A : AInv c S z on T t) (w : WF S') (h : r < 0 → S' = S) : AInv (c + 1) S' z (if r < 0 then on else 0) T t := by
  by_cases q : r < 0
  · rw [if_pos q, h q]; exact A.c
  · rw [if_neg q]; exact A.off w A.2.1
theorem CInv.m1 {S : tkS} {z : Nat} {B : Nat → Int32} {on : Int32} {T : Nat → Int32} {t : Int32} {I : tkI} {J : tkJ} {R : Nat → Nat} (h : CInv S z B on T t I J R) (X : Nat → Nat → Int32) : CInv S z B on T t (tk_so I 6 0 X) J R :=
  h.to (tk_so_ne (by omega)) (tk_so_ne (by omega)) (tk_so_ne (by omega)) (tk_so_ne (by omega)) rfl (tk_so_ne (by omega))
theorem CInv.m2 {S : tkS} {z : Nat} {B : Nat → Int32} {on : Int32} {T : Nat → Int32} {t : Int32} {I : tkI} {J : tkJ} {R : Nat → Nat} (h : CInv S z B on T t I J R) (N : Nat → Nat → Int64) : CInv S z B on T t I (tk_so J 6 0 N) R :=
  h.to rfl rfl rfl rfl (tk_so_ne (by omega)) rfl
theorem MInv.chg {S S' : tkS} {z : Nat} {B : Nat → Int32} {on : Int32} {T : Nat → Int32} {t r : Int32} {I : tkI} {J : tkJ} (M : MInv S z B on T t I J) {X : Nat → Nat → Int32} (hX : NetP X S') (hO : mOth (I 6 0) X) (hF : mFl r (I 6 0) X) (h : r < 0 → S' = S) : MInv S' z B (if r < 0 then on else 0) T t (tk_so I 6 0 X) J := by
  obtain ⟨m1, m2, m3, m4, m5, m6, m7, m8⟩ := M
  unfold MInv
  rw [tk_so_same]
  have t1 : TpM X z B := m2.to (hO.1 13 (by decide) (by decide) (by decide)) (fun j => by rw [hO.2 13 (by decide)])
  have t6 : ∀ j, j < 16 → X 33 j = T j := fun j hj => by rw [hO.2 33 (by decide)]; exact m6 j hj
  have t7 : X 0 31 = t := (hO.1 31 (by decide) (by decide) (by decide)).trans m7
  by_cases q : r < 0
  · obtain ⟨f1, f2⟩ := hF.1 q
    rw [if_pos q]
    refine ⟨hX, t1, by rw [f2]; exact m3, fun y => ?_, f1.trans m5, t6, t7, fun y => f2.trans (m8 y)⟩
    rw [h q]
    exact (m4 (f2.symm.trans y)).to (hO.1 29 (by decide) (by decide) (by decide)) (hO.1 30 (by decide) (by decide) (by decide)) rfl rfl
  · obtain ⟨f1, f2⟩ := hF.2 q
    rw [if_neg q]
    exact ⟨hX, t1, Or.inl f2, fun y => absurd (f2.symm.trans y) (by decide), f1, t6, t7, fun y => absurd y (by decide)⟩
/-- a change of the reference that leaves net, run and what is known -/
theorem MInv.oth {S : tkS} {z z' : Nat} {B B' : Nat → Int32} {on : Int32} {T : Nat → Int32} {t : Int32} {I : tkI} {J : tkJ} (M : MInv S z B on T t I J) {X : Nat → Nat → Int32} {N : Nat → Nat → Int64} (hT : TpM X z' B') (h0 : ∀ j, j < 3 ∨ j = 10 ∨ j = 11 ∨ j = 29 ∨ j = 30 ∨ j = 31 → X 0 j = I 6 0 0 j) (hs : ∀ s, (4 ≤ s ∧ s ≤ 9) ∨ s = 33 → X s = I 6 0 s) (n1 : N 24 = J 6 0 24) (n2 : N 25 = J 6 0 25) : MInv S z' B' on T t (tk_so I 6 0 X) (tk_so J 6 0 N) := by
  obtain ⟨m1, m2, m3, m4, m5, m6, m7, m8⟩ := M
  unfold MInv
  rw [tk_so_same, tk_so_same]
  refine ⟨NetP_to m1 (fun k hk => h0 k (by omega)) (fun s h4 h9 => hs s (by omega)), hT, by rw [h0 11 (by omega)]; exact m3, fun y => (m4 ((h0 11 (by omega)).symm.trans y)).to (h0 29 (by omega)) (h0 30 (by omega)) n1 n2, (h0 10 (by omega)).trans m5, fun j hj => by rw [hs 33 (by omega)]; exact m6 j hj, (h0 31 (by omega)).trans m7, fun y => (h0 11 (by omega)).trans (m8 y)⟩
theorem MInv.kn {S : tkS} {z : Nat} {B : Nat → Int32} {on : Int32} {T : Nat → Int32} {t : Int32} {I : tkI} {J : tkJ} (M : MInv S z B on T t I J) {X : Nat → Nat → Int32} {N : Nat → Nat → Int64} (h11 : X 0 11 = 1) (hK : KnM S X N) (hX : mKn (I 6 0) X) : MInv S z B on T t (tk_so I 6 0 X) (tk_so J 6 0 N) := by
  obtain ⟨m1, m2, m3, m4, m5, m6, m7, m8⟩ := M
  unfold MInv
  rw [tk_so_same, tk_so_same]
  exact ⟨hX.net m1, m2.to (hX 0 13 (by omega)) (fun j => hX 13 j (by omega)), Or.inr h11, fun _ => hK, (hX 0 10 (by omega)).trans m5, fun j hj => (hX 33 j (by omega)).trans (m6 j hj), (hX 0 31 (by omega)).trans m7, fun _ => h11⟩
/-- both sides' tables while a run goes on -/
theorem tabs {c : Nat} {S : tkS} {z : Nat} {B : Nat → Int32} {on : Int32} {T : Nat → Int32} {t : Int32} {I : tkI} {J : tkJ} {R : Nat → Nat} (A : AInv c S z on T t) (C : CInv S z B on T t I J R) (M : MInv S z B on T t I J) : ∃ e v, (on = 1 → RowP 16 (J 4 0 1) e) ∧ (on = 1 → WRow (J 4 0 4) v) ∧ (on = 1 → RowP (sM S) (J 6 0 24) e) ∧ (on = 1 → WRow (J 6 0 25) v) := by
  by_cases o : on = 1
  · obtain ⟨⟨k0, e0, v0, a1⟩, -⟩ := A.2.2.2.2 o
    obtain ⟨-, -, -, r6⟩ := C.2.2.2.2.2.2 o
    obtain ⟨x, k, e, v, c1, -, -, c4, c5⟩ := C.2.2.2.2.1 r6
    obtain ⟨x', k', e', v', d1, -, -, d4, d5⟩ := M.2.2.2.1 (M.2.2.2.2.2.2.2 o)
    have q1 := (wk_eq A.1 a1 d1).1
    have q2 := wk_eq A.1 c1 d1
    have q3 := q2.2.2 (by rw [q2.1, ← q1]; decide)
    refine ⟨e, v, fun _ => c4, fun _ => c5, fun _ => ?_, fun _ => by rw [← q3.2]; exact d5⟩
    intro a b ha hb
    have hM := A.1.1
    rw [d4 a b (by omega) (by omega), q3.1]
    exact exM_in' ⟨ha, hb⟩
  · exact ⟨fun _ _ => 0, fun _ _ => 0, fun q => absurd q o, fun q => absurd q o, fun q => absurd q o, fun q => absurd q o⟩
