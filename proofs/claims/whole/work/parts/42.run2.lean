/-! Run: its ways on -/
def lcI (o : Option Nat) : Int32 := match o with
  | none => -9
  | some m => nI m
set_option maxRecDepth 8000 in
theorem sr_lc_loop {I : tkI} {J : tkJ} {R : Nat → Nat} {Q : tkQ} {T : Nat → Int32} (hT : ∀ j, j < 16 → I 2 0 1 j = T j) {b : Nat} {S : tkS} (hP : NetP (I 1 b) S) (w : WF S) {e v : tkD} (he : RowP 16 (J 4 0 1) e) (hv : WRow (J 4 0 4) v) {t : Int32} (ht : I 2 0 0 2 = t) (hQ : Q (some (.inl (lcI (lcF S e v T t (sM S) 0)))) (I, J, R)) : ∀ n c , c + n = sM S → lcF S e v T t n c = lcF S e v T t (sM S) 0 → tkDn tm_54 (2, [some (.inr (.inr (2, 0, 0))), some (.inr (.inr (1, b, 0))), some (.inr (.inr (4, 0, 0))), some (.inl (nI c))], [], (I, J, R)) Q := by
  have hM16 := w.1
  have hL60 := w.2.1
  have hG6 := w.2.2.1
  intro n
  induction n with
  | zero =>
    intro c  hc h
    show tkDn tm_54 (2, [some (.inr (.inr (2, 0, 0))), some (.inr (.inr (1, b, 0))), some (.inr (.inr (4, 0, 0))), some (.inl (nI c))], [], (I, J, R)) _
    refine dn_run 2 (show tkDn tm_54 (4, [some (.inr (.inr (2, 0, 0))), some (.inr (.inr (1, b, 0))), some (.inr (.inr (4, 0, 0))), some (.inl (nI c))], [.inr (.inr (1, b, 0)), .inl (nI c)], (I, J, R)) _ from ?_)
    refine dn_call rfl rfl rfl rfl rfl (sN_momentCount hP ?_)
    show tkDn tm_54 (7, [some (.inr (.inr (2, 0, 0))), some (.inr (.inr (1, b, 0))), some (.inr (.inr (4, 0, 0))), some (.inl (nI c))], [.inl (nI (sM S)), .inl (nI c)], (I, J, R)) _
    refine dn_if rfl rfl rfl (fun (c0 : (nI (sM S)) ≤ (nI c)) => ?_) (fun (c0 : ¬ (nI (sM S)) ≤ (nI c)) => ?_)
    · show tkDn tm_54 (43, [some (.inr (.inr (2, 0, 0))), some (.inr (.inr (1, b, 0))), some (.inr (.inr (4, 0, 0))), some (.inl (nI c))], [], (I, J, R)) _
      refine dn_run 1 (show tkDn tm_54 (45, [some (.inr (.inr (2, 0, 0))), some (.inr (.inr (1, b, 0))), some (.inr (.inr (4, 0, 0))), some (.inl (nI c))], [.inl (-9)], (I, J, R)) _ from ?_)
      refine dn_ret0 rfl rfl rfl rfl ?_
      rw [← (show lcF S e v T t 0 c = none from rfl).symm.trans h] at hQ
      exact hQ
    · exact absurd (nI_le (by omega) (by omega)) c0
  | succ n ih =>
    intro c  hc h
    show tkDn tm_54 (2, [some (.inr (.inr (2, 0, 0))), some (.inr (.inr (1, b, 0))), some (.inr (.inr (4, 0, 0))), some (.inl (nI c))], [], (I, J, R)) _
    refine dn_run 2 (show tkDn tm_54 (4, [some (.inr (.inr (2, 0, 0))), some (.inr (.inr (1, b, 0))), some (.inr (.inr (4, 0, 0))), some (.inl (nI c))], [.inr (.inr (1, b, 0)), .inl (nI c)], (I, J, R)) _ from ?_)
    refine dn_call rfl rfl rfl rfl rfl (sN_momentCount hP ?_)
    show tkDn tm_54 (7, [some (.inr (.inr (2, 0, 0))), some (.inr (.inr (1, b, 0))), some (.inr (.inr (4, 0, 0))), some (.inl (nI c))], [.inl (nI (sM S)), .inl (nI c)], (I, J, R)) _
    refine dn_if rfl rfl rfl (fun (c0 : (nI (sM S)) ≤ (nI c)) => ?_) (fun (c0 : ¬ (nI (sM S)) ≤ (nI c)) => ?_)
    · exact absurd c0 (nI_ge (by omega) (by omega))
    · show tkDn tm_54 (10, [some (.inr (.inr (2, 0, 0))), some (.inr (.inr (1, b, 0))), some (.inr (.inr (4, 0, 0))), some (.inl (nI c))], [], (I, J, R)) _
      refine dn_run 3 (show tkDn tm_54 (13, [some (.inr (.inr (2, 0, 0))), some (.inr (.inr (1, b, 0))), some (.inr (.inr (4, 0, 0))), some (.inl (nI c))], [.inl (nI c), .inr (.inr (1, b, 0)), .inr (.inr (2, 0, 0))], (I, J, R)) _ from ?_)
      refine dn_call rfl rfl rfl rfl rfl (sr_isOpen hT hP w (by omega) ?_)
      show tkDn tm_54 (16, [some (.inr (.inr (2, 0, 0))), some (.inr (.inr (1, b, 0))), some (.inr (.inr (4, 0, 0))), some (.inl (nI c))], [.inl (if opn S T c then 1 else 0)], (I, J, R)) _
      refine dn_if rfl rfl rfl (fun (c1 : (if opn S T c then 1 else 0) = 0) => ?_) (fun (c1 : ¬ (if opn S T c then 1 else 0) = 0) => ?_)
      · show tkDn tm_54 (37, [some (.inr (.inr (2, 0, 0))), some (.inr (.inr (1, b, 0))), some (.inr (.inr (4, 0, 0))), some (.inl (nI c))], [], (I, J, R)) _
        refine dn_run 2 (show tkDn tm_54 (2, [some (.inr (.inr (2, 0, 0))), some (.inr (.inr (1, b, 0))), some (.inr (.inr (4, 0, 0))), some (.inl ((nI c) + 1))], [], (I, J, R)) _ from ?_)
        rw [nI_1]
        exact ih (c + 1) (by omega) ((show lcF S e v T t (n + 1) c = lcF S e v T t n (c + 1) from if_neg (fun q => ite10.mp c1 q.1)).symm.trans h)
      · show tkDn tm_54 (19, [some (.inr (.inr (2, 0, 0))), some (.inr (.inr (1, b, 0))), some (.inr (.inr (4, 0, 0))), some (.inl (nI c))], [], (I, J, R)) _
        refine dn_run 4 (show tkDn tm_54 (23, [some (.inr (.inr (2, 0, 0))), some (.inr (.inr (1, b, 0))), some (.inr (.inr (4, 0, 0))), some (.inl (nI c))], [.inl (nI c), .inr (.inr (4, 0, 0)), .inr (.inr (1, b, 0)), .inr (.inr (2, 0, 0))], (I, J, R)) _ from ?_)
        refine dn_call rfl rfl rfl rfl rfl (sr_firstTick hT hP w he hv ht (by omega) ?_)
        show tkDn tm_54 (26, [some (.inr (.inr (2, 0, 0))), some (.inr (.inr (1, b, 0))), some (.inr (.inr (4, 0, 0))), some (.inl (nI c))], [.inr (.inl (ftF S e v T t c))], (I, J, R)) _
        refine dn_run 4 (show tkDn tm_54 (32, [some (.inr (.inr (2, 0, 0))), some (.inr (.inr (1, b, 0))), some (.inr (.inr (4, 0, 0))), some (.inl (nI c))], [.inl (lg_cmp (ftF S e v T t c) (((I 2 0 0 2) : Int32).toInt64))], (I, J, R)) _ from ?_)
        rw [ht]
        show tkDn tm_54 (32, [some (.inr (.inr (2, 0, 0))), some (.inr (.inr (1, b, 0))), some (.inr (.inr (4, 0, 0))), some (.inl (nI c))], [.inl (lg_cmp (ftF S e v T t c) t.toInt64)], (I, J, R)) _
        refine dn_if rfl rfl rfl (fun (c2 : ¬ (lg_cmp (ftF S e v T t c) t.toInt64) = 0) => ?_) (fun (c2 : (lg_cmp (ftF S e v T t c) t.toInt64) = 0) => ?_)
        · show tkDn tm_54 (37, [some (.inr (.inr (2, 0, 0))), some (.inr (.inr (1, b, 0))), some (.inr (.inr (4, 0, 0))), some (.inl (nI c))], [], (I, J, R)) _
          refine dn_run 2 (show tkDn tm_54 (2, [some (.inr (.inr (2, 0, 0))), some (.inr (.inr (1, b, 0))), some (.inr (.inr (4, 0, 0))), some (.inl ((nI c) + 1))], [], (I, J, R)) _ from ?_)
          rw [nI_1]
          exact ih (c + 1) (by omega) ((show lcF S e v T t (n + 1) c = lcF S e v T t n (c + 1) from if_neg (fun q => c2 ((lg_cmp_eq _ _).mpr q.2))).symm.trans h)
        · show tkDn tm_54 (35, [some (.inr (.inr (2, 0, 0))), some (.inr (.inr (1, b, 0))), some (.inr (.inr (4, 0, 0))), some (.inl (nI c))], [], (I, J, R)) _
          refine dn_run 1 (show tkDn tm_54 (36, [some (.inr (.inr (2, 0, 0))), some (.inr (.inr (1, b, 0))), some (.inr (.inr (4, 0, 0))), some (.inl (nI c))], [.inl (nI c)], (I, J, R)) _ from ?_)
          refine dn_ret0 rfl rfl rfl rfl ?_
          rw [← (show lcF S e v T t (n + 1) c = some c from if_pos ⟨Classical.byContradiction fun q => c1 (ite10.mpr q), (lg_cmp_eq _ _).mp c2⟩).symm.trans h] at hQ
          exact hQ
set_option maxRecDepth 8000 in
theorem sr_leastThatCanCome {I : tkI} {J : tkJ} {R : Nat → Nat} {Q : tkQ} {T : Nat → Int32} (hT : ∀ j, j < 16 → I 2 0 1 j = T j) {b : Nat} {S : tkS} (hP : NetP (I 1 b) S) (w : WF S) {e v : tkD} (he : RowP 16 (J 4 0 1) e) (hv : WRow (J 4 0 4) v) {t : Int32} (ht : I 2 0 0 2 = t) (hQ : Q (some (.inl (lcI (lcF S e v T t (sM S) 0)))) (I, J, R)) : tkDn tm_54 (0, [some (.inr (.inr (2, 0, 0))), some (.inr (.inr (1, b, 0))), some (.inr (.inr (4, 0, 0))), none], [], (I, J, R)) Q := by
  refine dn_run 2 (show tkDn tm_54 (2, [some (.inr (.inr (2, 0, 0))), some (.inr (.inr (1, b, 0))), some (.inr (.inr (4, 0, 0))), some (.inl 0)], [], (I, J, R)) _ from ?_)
  exact sr_lc_loop hT hP w he hv ht hQ (sM S) 0 (Nat.zero_add _) rfl
set_option maxRecDepth 8000 in
theorem sr_letCome {I : tkI} {J : tkJ} {R : Nat → Nat} {Q : tkQ} {m : Nat} (hm : m < 16) (hQ : Q none (tk_so I 2 0 (tk_u2 (tk_u2 (I 2 0) 1 m (I 2 0 0 2)) 0 3 (I 2 0 0 3 + 1)), J, R)) : tkDn tm_48 (0, [some (.inr (.inr (2, 0, 0))), some (.inl (nI m))], [], (I, J, R)) Q := by
  refine dn_run 12 (show (vp_in (nI m) 16) ∧ tkDn tm_48 (20, [some (.inr (.inr (2, 0, 0))), some (.inl (nI m))], [], (tk_so (tk_so I 2 0 (tk_u2 (I 2 0) 1 ((nI m).toNatClampNeg) (I 2 0 0 2))) 2 0 (tk_u2 (tk_u2 (I 2 0) 1 ((nI m).toNatClampNeg) (I 2 0 0 2)) 0 3 ((I 2 0 0 3) + 1)), J, R)) _ from ⟨vp_in_nI (by omega) (by omega), ?_⟩)
  rw [tk_so_so]
  rw [nI_clamp (show m < 2 ^ 31 by omega)]
  refine dn_ret0 rfl rfl rfl rfl ?_
  exact hQ
set_option maxRecDepth 8000 in
theorem lcF_lt {S : tkS} {e v : tkD} {T : Nat → Int32} {t : Int32} : ∀ n m k, lcF S e v T t n m = some k → m ≤ k ∧ k < m + n := by
  intro n
  induction n with
  | zero => intro m k h; cases h
  | succ n ih =>
    intro m k h
    unfold lcF at h
    split at h
    · cases h; omega
    · have := ih (m + 1) k h; omega
set_option maxRecDepth 8000 in
theorem sr_all_loop {I : tkI} {J : tkJ} {R : Nat → Nat} {Q : tkQ} {b : Nat} {S : tkS} (hP : NetP (I 1 b) S) (w : WF S) {e v : tkD} (he : RowP 16 (J 4 0 1) e) (hv : WRow (J 4 0 4) v) {t : Int32} {on cc bf : Int32} {T0 : Nat → Int32} (hK : ∀ X T o4 o5, (∀ j, j < 16 → X 1 j = T j) → X 0 2 = t → X 0 1 = on → X 0 3 = cc + nI (goF S e v t 16 T0).1 → T = (goF S e v t 16 T0).2 → tkDn tm_53 (45, [some (.inr (.inr (2, 0, 0))), some (.inr (.inr (1, b, 0))), some (.inr (.inr (4, 0, 0))), some (.inl bf), o4, o5], [], (tk_so I 2 0 X, J, R)) Q) : ∀ f i d T X o5, i + f = 16 → (∀ j, j < 16 → X 1 j = T j) → X 0 2 = t → X 0 1 = on → X 0 3 = cc + nI d → (d + (goF S e v t f T).1, (goF S e v t f T).2) = goF S e v t 16 T0 → tkDn tm_53 (8, [some (.inr (.inr (2, 0, 0))), some (.inr (.inr (1, b, 0))), some (.inr (.inr (4, 0, 0))), some (.inl bf), some (.inl (nI i)), o5], [], (tk_so I 2 0 X, J, R)) Q := by
  have hM16 := w.1
  have hL60 := w.2.1
  have hG6 := w.2.2.1
  intro f
  induction f with
  | zero =>
    intro i d T X o5 hi hT ht hon hc h
    show tkDn tm_53 (8, [some (.inr (.inr (2, 0, 0))), some (.inr (.inr (1, b, 0))), some (.inr (.inr (4, 0, 0))), some (.inl bf), some (.inl (nI i)), o5], [], (tk_so I 2 0 X, J, R)) _
    refine dn_run 2 (show tkDn tm_53 (12, [some (.inr (.inr (2, 0, 0))), some (.inr (.inr (1, b, 0))), some (.inr (.inr (4, 0, 0))), some (.inl bf), some (.inl (nI i)), o5], [.inl 16, .inl (nI i)], (tk_so I 2 0 X, J, R)) _ from ?_)
    refine dn_if rfl rfl rfl (fun (c0 : 16 ≤ (nI i)) => ?_) (fun (c0 : ¬ 16 ≤ (nI i)) => ?_)
    · show tkDn tm_53 (45, [some (.inr (.inr (2, 0, 0))), some (.inr (.inr (1, b, 0))), some (.inr (.inr (4, 0, 0))), some (.inl bf), some (.inl (nI i)), o5], [], (tk_so I 2 0 X, J, R)) _
      exact hK X T _ _ hT ht hon (by rw [hc, ← congrArg Prod.fst h]; rfl) (congrArg Prod.snd h)
    · exact absurd (nI_le (a := 16) (by omega) (by omega)) c0
  | succ f ih =>
    intro i d T X o5 hi hT ht hon hc h
    show tkDn tm_53 (8, [some (.inr (.inr (2, 0, 0))), some (.inr (.inr (1, b, 0))), some (.inr (.inr (4, 0, 0))), some (.inl bf), some (.inl (nI i)), o5], [], (tk_so I 2 0 X, J, R)) _
    refine dn_run 2 (show tkDn tm_53 (12, [some (.inr (.inr (2, 0, 0))), some (.inr (.inr (1, b, 0))), some (.inr (.inr (4, 0, 0))), some (.inl bf), some (.inl (nI i)), o5], [.inl 16, .inl (nI i)], (tk_so I 2 0 X, J, R)) _ from ?_)
    refine dn_if rfl rfl rfl (fun (c0 : 16 ≤ (nI i)) => ?_) (fun (c0 : ¬ 16 ≤ (nI i)) => ?_)
    · exact absurd c0 (nI_ge (b := 16) (by omega) (by omega))
    · show tkDn tm_53 (15, [some (.inr (.inr (2, 0, 0))), some (.inr (.inr (1, b, 0))), some (.inr (.inr (4, 0, 0))), some (.inl bf), some (.inl (nI i)), o5], [], (tk_so I 2 0 X, J, R)) _
      have hT2 : ∀ j, j < 16 → tk_so I 2 0 X 2 0 1 j = T j := by rw [tk_so_same]; exact hT
      have hP2 : NetP (tk_so I 2 0 X 1 b) S := by rw [tk_so_ne (by omega)]; exact hP
      have ht2 : tk_so I 2 0 X 2 0 0 2 = t := by rw [tk_so_same]; exact ht
      refine dn_run 3 (show tkDn tm_53 (18, [some (.inr (.inr (2, 0, 0))), some (.inr (.inr (1, b, 0))), some (.inr (.inr (4, 0, 0))), some (.inl bf), some (.inl (nI i)), o5], [.inr (.inr (4, 0, 0)), .inr (.inr (1, b, 0)), .inr (.inr (2, 0, 0))], (tk_so I 2 0 X, J, R)) _ from ?_)
      refine dn_call rfl rfl rfl rfl rfl (sr_leastThatCanCome hT2 hP2 w he hv ht2 ?_)
      show tkDn tm_53 (21, [some (.inr (.inr (2, 0, 0))), some (.inr (.inr (1, b, 0))), some (.inr (.inr (4, 0, 0))), some (.inl bf), some (.inl (nI i)), o5], [.inl (lcI (lcF S e v T t (sM S) 0))], (tk_so I 2 0 X, J, R)) _
      refine dn_run 3 (show tkDn tm_53 (27, [some (.inr (.inr (2, 0, 0))), some (.inr (.inr (1, b, 0))), some (.inr (.inr (4, 0, 0))), some (.inl bf), some (.inl (nI i)), some (.inl (lcI (lcF S e v T t (sM S) 0)))], [.inl (-9), .inl (lcI (lcF S e v T t (sM S) 0))], (tk_so I 2 0 X, J, R)) _ from ?_)
      cases hl : lcF S e v T t (sM S) 0 with
      | none =>
        show tkDn tm_53 (27, [some (.inr (.inr (2, 0, 0))), some (.inr (.inr (1, b, 0))), some (.inr (.inr (4, 0, 0))), some (.inl bf), some (.inl (nI i)), some (.inl (-9))], [.inl (-9), .inl (-9)], (tk_so I 2 0 X, J, R)) _
        rw [show goF S e v t (f + 1) T = (0, T) by unfold goF; rw [hl]] at h
        refine dn_if rfl rfl rfl (fun (c1 : (¬ ((-9) : Int32) = (-9) : Prop)) => ?_) (fun (c1 : (((-9) : Int32) = (-9) : Prop)) => ?_)
        · exact absurd rfl c1
        · show tkDn tm_53 (30, [some (.inr (.inr (2, 0, 0))), some (.inr (.inr (1, b, 0))), some (.inr (.inr (4, 0, 0))), some (.inl bf), some (.inl (nI i)), some (.inl (-9))], [], (tk_so I 2 0 X, J, R)) _
          refine dn_run 1 (show tkDn tm_53 (45, [some (.inr (.inr (2, 0, 0))), some (.inr (.inr (1, b, 0))), some (.inr (.inr (4, 0, 0))), some (.inl bf), some (.inl (nI i)), some (.inl (-9))], [], (tk_so I 2 0 X, J, R)) _ from ?_)
          exact hK X T _ _ hT ht hon (by rw [hc, ← congrArg Prod.fst h]; rfl) (congrArg Prod.snd h)
      | some m =>
        have hm := lcF_lt _ _ _ hl
        show tkDn tm_53 (27, [some (.inr (.inr (2, 0, 0))), some (.inr (.inr (1, b, 0))), some (.inr (.inr (4, 0, 0))), some (.inl bf), some (.inl (nI i)), some (.inl (nI m))], [.inl (-9), .inl (nI m)], (tk_so I 2 0 X, J, R)) _
        rw [show goF S e v t (f + 1) T = ((goF S e v t f (tk_u1 T m t)).1 + 1, (goF S e v t f (tk_u1 T m t)).2) by rw [goF, hl]] at h
        refine dn_if rfl rfl rfl (fun (c1 : ¬ (nI m) = (-9)) => ?_) (fun (c1 : (nI m) = (-9)) => ?_)
        · show tkDn tm_53 (33, [some (.inr (.inr (2, 0, 0))), some (.inr (.inr (1, b, 0))), some (.inr (.inr (4, 0, 0))), some (.inl bf), some (.inl (nI i)), some (.inl (nI m))], [], (tk_so I 2 0 X, J, R)) _
          refine dn_run 2 (show tkDn tm_53 (36, [some (.inr (.inr (2, 0, 0))), some (.inr (.inr (1, b, 0))), some (.inr (.inr (4, 0, 0))), some (.inl bf), some (.inl (nI i)), some (.inl (nI m))], [.inl (nI m), .inr (.inr (2, 0, 0))], (tk_so I 2 0 X, J, R)) _ from ?_)
          refine dn_call rfl rfl rfl rfl rfl (sr_letCome (by omega) ?_)
          rw [tk_so_so, tk_so_same, ht, hc]
          show tkDn tm_53 (39, [some (.inr (.inr (2, 0, 0))), some (.inr (.inr (1, b, 0))), some (.inr (.inr (4, 0, 0))), some (.inl bf), some (.inl (nI i)), some (.inl (nI m))], [], (tk_so I 2 0 (tk_u2 (tk_u2 X 1 m t) 0 3 (cc + nI d + 1)), J, R)) _
          refine dn_run 2 (show tkDn tm_53 (8, [some (.inr (.inr (2, 0, 0))), some (.inr (.inr (1, b, 0))), some (.inr (.inr (4, 0, 0))), some (.inl bf), some (.inl ((nI i) + 1)), some (.inl (nI m))], [], (tk_so I 2 0 (tk_u2 (tk_u2 X 1 m t) 0 3 (cc + nI d + 1)), J, R)) _ from ?_)
          rw [nI_1]
          refine ih (i + 1) (d + 1) (tk_u1 T m t) _ _ (by omega) (fun j hj => ?_) ?_ ?_ ?_ ?_
          · rw [tk_u2_ne (by decide), tk_u2_at]
            by_cases q : j = m
            · rw [q, tk_u1_same, tk_u1_same]
            · rw [tk_u1_ne q, tk_u1_ne q]; exact hT j hj
          · rw [tk_u2_0 (by decide), tk_u2_0 (by omega)]; exact ht
          · rw [tk_u2_0 (by decide), tk_u2_0 (by omega)]; exact hon
          · rw [tk_u2_1, Int32.add_assoc, nI_1]
          · rw [← h]; exact Prod.ext (by dsimp only; omega) rfl
        · exact absurd (show nI m < 0 by rw [c1]; decide) (nI_pos (by omega))
set_option maxRecDepth 8000 in
theorem sr_letAll {I : tkI} {J : tkJ} {R : Nat → Nat} {Q : tkQ} {T : Nat → Int32} (hT : ∀ j, j < 16 → I 2 0 1 j = T j) {b : Nat} {S : tkS} (hP : NetP (I 1 b) S) (w : WF S) {e v : tkD} (he : RowP 16 (J 4 0 1) e) (hv : WRow (J 4 0 4) v) {t : Int32} (ht : I 2 0 0 2 = t) (hQ : ∀ X, (∀ j, j < 16 → X 1 j = (goF S e v t 16 T).2 j) → X 0 2 = t + 1 → X 0 1 = I 2 0 0 1 → X 0 3 = I 2 0 0 3 + nI (goF S e v t 16 T).1 → Q (some (.inl (nI (goF S e v t 16 T).1))) (tk_so I 2 0 X, J, R)) : tkDn tm_53 (0, [some (.inr (.inr (2, 0, 0))), some (.inr (.inr (1, b, 0))), some (.inr (.inr (4, 0, 0))), none, none, none], [], (I, J, R)) Q := by
  refine dn_run 5 (show tkDn tm_53 (8, [some (.inr (.inr (2, 0, 0))), some (.inr (.inr (1, b, 0))), some (.inr (.inr (4, 0, 0))), some (.inl (I 2 0 0 3)), some (.inl 0), none], [], (I, J, R)) _ from ?_)
  have key := sr_all_loop (Q := Q) (R := R) (bf := I 2 0 0 3) (on := I 2 0 0 1) (cc := I 2 0 0 3) (T0 := T) (b := b) hP w he hv (t := t) (fun X T2 o4 o5 h1 h2 h3 h4 h5 => ?_) 16 0 0 T (I 2 0) none rfl hT ht rfl (by rw [show nI 0 = (0 : Int32) from rfl, Int32.add_zero]) (by rw [Nat.zero_add])
  · rw [tk_so_id] at key; exact key
  show tkDn tm_53 (45, [some (.inr (.inr (2, 0, 0))), some (.inr (.inr (1, b, 0))), some (.inr (.inr (4, 0, 0))), some (.inl (I 2 0 0 3)), o4, o5], [], (tk_so I 2 0 X, J, R)) _
  refine dn_run 10 (show tkDn tm_53 (61, [some (.inr (.inr (2, 0, 0))), some (.inr (.inr (1, b, 0))), some (.inr (.inr (4, 0, 0))), some (.inl (I 2 0 0 3)), o4, o5], [.inl ((X 0 3) - (I 2 0 0 3))], (tk_so (tk_so I 2 0 X) 2 0 (tk_u2 X 0 2 ((X 0 2) + 1)), J, R)) _ from ?_)
  rw [tk_so_so]
  rw [h4, h2, show I 2 0 0 3 + nI (goF S e v t 16 T).1 - I 2 0 0 3 = nI (goF S e v t 16 T).1 by rw [Int32.add_comm, Int32.add_sub_cancel]]
  refine dn_ret0 rfl rfl rfl rfl ?_
  exact hQ _ (fun j hj => by rw [tk_u2_ne (by decide), h1 j hj, h5]) (by rw [tk_u2_1]) (by rw [tk_u2_0 (by decide)]; exact h3) (by rw [tk_u2_0 (by decide)]; exact h4)
set_option maxRecDepth 8000 in
theorem sr_pa1 {I : tkI} {J : tkJ} {R : Nat → Nat} {Q : tkQ} {T : Nat → Int32} (hT : ∀ j, j < 16 → I 2 0 1 j = T j) {b : Nat} {S : tkS} (hP : NetP (I 1 b) S) (w : WF S) {e v : tkD} (he : RowP 16 (J 4 0 1) e) (hv : WRow (J 4 0 4) v) {t : Int32} (ht : I 2 0 0 2 = t) {n0 : Int32} (hK : tkDn tm_55 (53, [some (.inr (.inr (2, 0, 0))), some (.inr (.inr (1, b, 0))), some (.inr (.inr (4, 0, 0))), some (.inl n0), some (.inr (.inl (paM S e v T t (sM S) 0 (t.toInt64 + n0.toInt64)))), none, some (.inl (nI (sM S)))], [], (I, J, R)) Q) : ∀ n c (a : Int64), c + n = sM S → paM S e v T t n c a = paM S e v T t (sM S) 0 (t.toInt64 + n0.toInt64) → tkDn tm_55 (13, [some (.inr (.inr (2, 0, 0))), some (.inr (.inr (1, b, 0))), some (.inr (.inr (4, 0, 0))), some (.inl n0), some (.inr (.inl a)), none, some (.inl (nI c))], [], (I, J, R)) Q := by
  have hM16 := w.1
  have hL60 := w.2.1
  have hG6 := w.2.2.1
  intro n
  induction n with
  | zero =>
    intro c a hc h
    show tkDn tm_55 (13, [some (.inr (.inr (2, 0, 0))), some (.inr (.inr (1, b, 0))), some (.inr (.inr (4, 0, 0))), some (.inl n0), some (.inr (.inl a)), none, some (.inl (nI c))], [], (I, J, R)) _
    refine dn_run 2 (show tkDn tm_55 (16, [some (.inr (.inr (2, 0, 0))), some (.inr (.inr (1, b, 0))), some (.inr (.inr (4, 0, 0))), some (.inl n0), some (.inr (.inl a)), none, some (.inl (nI c))], [.inr (.inr (1, b, 0)), .inl (nI c)], (I, J, R)) _ from ?_)
    refine dn_call rfl rfl rfl rfl rfl (sN_momentCount hP ?_)
    show tkDn tm_55 (19, [some (.inr (.inr (2, 0, 0))), some (.inr (.inr (1, b, 0))), some (.inr (.inr (4, 0, 0))), some (.inl n0), some (.inr (.inl a)), none, some (.inl (nI c))], [.inl (nI (sM S)), .inl (nI c)], (I, J, R)) _
    refine dn_if rfl rfl rfl (fun (c0 : (nI (sM S)) ≤ (nI c)) => ?_) (fun (c0 : ¬ (nI (sM S)) ≤ (nI c)) => ?_)
    · show tkDn tm_55 (53, [some (.inr (.inr (2, 0, 0))), some (.inr (.inr (1, b, 0))), some (.inr (.inr (4, 0, 0))), some (.inl n0), some (.inr (.inl a)), none, some (.inl (nI c))], [], (I, J, R)) _
      rw [show c = sM S by omega, show a = _ from h]; exact hK
    · exact absurd (nI_le (by omega) (by omega)) c0
  | succ n ih =>
    intro c a hc h
    show tkDn tm_55 (13, [some (.inr (.inr (2, 0, 0))), some (.inr (.inr (1, b, 0))), some (.inr (.inr (4, 0, 0))), some (.inl n0), some (.inr (.inl a)), none, some (.inl (nI c))], [], (I, J, R)) _
    refine dn_run 2 (show tkDn tm_55 (16, [some (.inr (.inr (2, 0, 0))), some (.inr (.inr (1, b, 0))), some (.inr (.inr (4, 0, 0))), some (.inl n0), some (.inr (.inl a)), none, some (.inl (nI c))], [.inr (.inr (1, b, 0)), .inl (nI c)], (I, J, R)) _ from ?_)
    refine dn_call rfl rfl rfl rfl rfl (sN_momentCount hP ?_)
    show tkDn tm_55 (19, [some (.inr (.inr (2, 0, 0))), some (.inr (.inr (1, b, 0))), some (.inr (.inr (4, 0, 0))), some (.inl n0), some (.inr (.inl a)), none, some (.inl (nI c))], [.inl (nI (sM S)), .inl (nI c)], (I, J, R)) _
    refine dn_if rfl rfl rfl (fun (c0 : (nI (sM S)) ≤ (nI c)) => ?_) (fun (c0 : ¬ (nI (sM S)) ≤ (nI c)) => ?_)
    · exact absurd c0 (nI_ge (by omega) (by omega))
    · show tkDn tm_55 (22, [some (.inr (.inr (2, 0, 0))), some (.inr (.inr (1, b, 0))), some (.inr (.inr (4, 0, 0))), some (.inl n0), some (.inr (.inl a)), none, some (.inl (nI c))], [], (I, J, R)) _
      refine dn_run 3 (show tkDn tm_55 (26, [some (.inr (.inr (2, 0, 0))), some (.inr (.inr (1, b, 0))), some (.inr (.inr (4, 0, 0))), some (.inl n0), some (.inr (.inl a)), none, some (.inl (nI c))], [.inl (nI c), .inr (.inr (1, b, 0)), .inr (.inr (2, 0, 0))], (I, J, R)) _ from ?_)
      refine dn_call rfl rfl rfl rfl rfl (sr_isOpen hT hP w (by omega) ?_)
      show tkDn tm_55 (29, [some (.inr (.inr (2, 0, 0))), some (.inr (.inr (1, b, 0))), some (.inr (.inr (4, 0, 0))), some (.inl n0), some (.inr (.inl a)), none, some (.inl (nI c))], [.inl (if opn S T c then 1 else 0)], (I, J, R)) _
      refine dn_if rfl rfl rfl (fun (c1 : (if opn S T c then 1 else 0) = 0) => ?_) (fun (c1 : ¬ (if opn S T c then 1 else 0) = 0) => ?_)
      · show tkDn tm_55 (47, [some (.inr (.inr (2, 0, 0))), some (.inr (.inr (1, b, 0))), some (.inr (.inr (4, 0, 0))), some (.inl n0), some (.inr (.inl a)), none, some (.inl (nI c))], [], (I, J, R)) _
        refine dn_run 2 (show tkDn tm_55 (13, [some (.inr (.inr (2, 0, 0))), some (.inr (.inr (1, b, 0))), some (.inr (.inr (4, 0, 0))), some (.inl n0), some (.inr (.inl a)), none, some (.inl ((nI c) + 1))], [], (I, J, R)) _ from ?_)
        rw [nI_1]
        exact ih (c + 1) a (by omega) ((show paM S e v T t (n + 1) c a = paM S e v T t n (c + 1) a from if_neg (ite10.mp c1)).symm.trans h)
      · show tkDn tm_55 (32, [some (.inr (.inr (2, 0, 0))), some (.inr (.inr (1, b, 0))), some (.inr (.inr (4, 0, 0))), some (.inl n0), some (.inr (.inl a)), none, some (.inl (nI c))], [], (I, J, R)) _
        refine dn_run 5 (show tkDn tm_55 (39, [some (.inr (.inr (2, 0, 0))), some (.inr (.inr (1, b, 0))), some (.inr (.inr (4, 0, 0))), some (.inl n0), some (.inr (.inl a)), none, some (.inl (nI c))], [.inl (nI c), .inr (.inr (4, 0, 0)), .inr (.inr (1, b, 0)), .inr (.inr (2, 0, 0)), .inr (.inl a)], (I, J, R)) _ from ?_)
        refine dn_call rfl rfl rfl rfl rfl (sr_firstTick hT hP w he hv ht (by omega) ?_)
        show tkDn tm_55 (42, [some (.inr (.inr (2, 0, 0))), some (.inr (.inr (1, b, 0))), some (.inr (.inr (4, 0, 0))), some (.inl n0), some (.inr (.inl a)), none, some (.inl (nI c))], [.inr (.inl (ftF S e v T t c)), .inr (.inl a)], (I, J, R)) _
        refine dn_run 4 (show tkDn tm_55 (13, [some (.inr (.inr (2, 0, 0))), some (.inr (.inr (1, b, 0))), some (.inr (.inr (4, 0, 0))), some (.inl n0), some (.inr (.inl (if (ftF S e v T t c) < a then (ftF S e v T t c) else a))), none, some (.inl ((nI c) + 1))], [], (I, J, R)) _ from ?_)
        rw [nI_1]
        exact ih (c + 1) (mn a (ftF S e v T t c)) (by omega) ((show paM S e v T t (n + 1) c a = paM S e v T t n (c + 1) (mn a (ftF S e v T t c)) from if_pos (Classical.byContradiction fun q => c1 (ite10.mpr q))).symm.trans h)
set_option maxRecDepth 8000 in
theorem sr_pa2 {I : tkI} {J : tkJ} {R : Nat → Nat} {Q : tkQ} {T : Nat → Int32} (hT : ∀ j, j < 16 → I 2 0 1 j = T j) {b : Nat} {S : tkS} (hP : NetP (I 1 b) S) (w : WF S) {e v : tkD} (he : RowP 16 (J 4 0 1) e) (hv : WRow (J 4 0 4) v) {t : Int32} (ht : I 2 0 0 2 = t) {n0 : Int32} (hK : tkDn tm_55 (108, [some (.inr (.inr (2, 0, 0))), some (.inr (.inr (1, b, 0))), some (.inr (.inr (4, 0, 0))), some (.inl n0), some (.inr (.inl (paF S e v T t n0))), none, some (.inl (nI (sG S)))], [], (I, J, R)) Q) : ∀ n c (a : Int64), c + n = sG S → paG S T n c a = paF S e v T t n0 → tkDn tm_55 (56, [some (.inr (.inr (2, 0, 0))), some (.inr (.inr (1, b, 0))), some (.inr (.inr (4, 0, 0))), some (.inl n0), some (.inr (.inl a)), none, some (.inl (nI c))], [], (I, J, R)) Q := by
  have hM16 := w.1
  have hL60 := w.2.1
  have hG6 := w.2.2.1
  intro n
  induction n with
  | zero =>
    intro c a hc h
    show tkDn tm_55 (56, [some (.inr (.inr (2, 0, 0))), some (.inr (.inr (1, b, 0))), some (.inr (.inr (4, 0, 0))), some (.inl n0), some (.inr (.inl a)), none, some (.inl (nI c))], [], (I, J, R)) _
    refine dn_run 2 (show tkDn tm_55 (59, [some (.inr (.inr (2, 0, 0))), some (.inr (.inr (1, b, 0))), some (.inr (.inr (4, 0, 0))), some (.inl n0), some (.inr (.inl a)), none, some (.inl (nI c))], [.inr (.inr (1, b, 0)), .inl (nI c)], (I, J, R)) _ from ?_)
    refine dn_call rfl rfl rfl rfl rfl (sN_giftCount hP ?_)
    show tkDn tm_55 (62, [some (.inr (.inr (2, 0, 0))), some (.inr (.inr (1, b, 0))), some (.inr (.inr (4, 0, 0))), some (.inl n0), some (.inr (.inl a)), none, some (.inl (nI c))], [.inl (nI (sG S)), .inl (nI c)], (I, J, R)) _
    refine dn_if rfl rfl rfl (fun (c0 : (nI (sG S)) ≤ (nI c)) => ?_) (fun (c0 : ¬ (nI (sG S)) ≤ (nI c)) => ?_)
    · show tkDn tm_55 (108, [some (.inr (.inr (2, 0, 0))), some (.inr (.inr (1, b, 0))), some (.inr (.inr (4, 0, 0))), some (.inl n0), some (.inr (.inl a)), none, some (.inl (nI c))], [], (I, J, R)) _
      rw [show c = sG S by omega, show a = _ from h]; exact hK
    · exact absurd (nI_le (by omega) (by omega)) c0
  | succ n ih =>
    intro c a hc h
    show tkDn tm_55 (56, [some (.inr (.inr (2, 0, 0))), some (.inr (.inr (1, b, 0))), some (.inr (.inr (4, 0, 0))), some (.inl n0), some (.inr (.inl a)), none, some (.inl (nI c))], [], (I, J, R)) _
    refine dn_run 2 (show tkDn tm_55 (59, [some (.inr (.inr (2, 0, 0))), some (.inr (.inr (1, b, 0))), some (.inr (.inr (4, 0, 0))), some (.inl n0), some (.inr (.inl a)), none, some (.inl (nI c))], [.inr (.inr (1, b, 0)), .inl (nI c)], (I, J, R)) _ from ?_)
    refine dn_call rfl rfl rfl rfl rfl (sN_giftCount hP ?_)
    show tkDn tm_55 (62, [some (.inr (.inr (2, 0, 0))), some (.inr (.inr (1, b, 0))), some (.inr (.inr (4, 0, 0))), some (.inl n0), some (.inr (.inl a)), none, some (.inl (nI c))], [.inl (nI (sG S)), .inl (nI c)], (I, J, R)) _
    refine dn_if rfl rfl rfl (fun (c0 : (nI (sG S)) ≤ (nI c)) => ?_) (fun (c0 : ¬ (nI (sG S)) ≤ (nI c)) => ?_)
    · exact absurd c0 (nI_ge (by omega) (by omega))
    · show tkDn tm_55 (65, [some (.inr (.inr (2, 0, 0))), some (.inr (.inr (1, b, 0))), some (.inr (.inr (4, 0, 0))), some (.inl n0), some (.inr (.inl a)), none, some (.inl (nI c))], [], (I, J, R)) _
      have hg : c < sG S := by omega
      have hf := w.fM (w.gl hg)
      refine dn_run 3 (show tkDn tm_55 (69, [some (.inr (.inr (2, 0, 0))), some (.inr (.inr (1, b, 0))), some (.inr (.inr (4, 0, 0))), some (.inl n0), some (.inr (.inl a)), none, some (.inl (nI c))], [.inl (nI c), .inr (.inr (1, b, 0)), .inr (.inr (2, 0, 0))], (I, J, R)) _ from ?_)
      refine dn_call rfl rfl rfl rfl rfl (sr_isUnderWay hT hP w hg ?_)
      show tkDn tm_55 (72, [some (.inr (.inr (2, 0, 0))), some (.inr (.inr (1, b, 0))), some (.inr (.inr (4, 0, 0))), some (.inl n0), some (.inr (.inl a)), none, some (.inl (nI c))], [.inl (if udw S T c then 1 else 0)], (I, J, R)) _
      refine dn_if rfl rfl rfl (fun (c1 : (if udw S T c then 1 else 0) = 0) => ?_) (fun (c1 : ¬ (if udw S T c then 1 else 0) = 0) => ?_)
      · show tkDn tm_55 (102, [some (.inr (.inr (2, 0, 0))), some (.inr (.inr (1, b, 0))), some (.inr (.inr (4, 0, 0))), some (.inl n0), some (.inr (.inl a)), none, some (.inl (nI c))], [], (I, J, R)) _
        refine dn_run 2 (show tkDn tm_55 (56, [some (.inr (.inr (2, 0, 0))), some (.inr (.inr (1, b, 0))), some (.inr (.inr (4, 0, 0))), some (.inl n0), some (.inr (.inl a)), none, some (.inl ((nI c) + 1))], [], (I, J, R)) _ from ?_)
        rw [nI_1]
        exact ih (c + 1) a (by omega) ((show paG S T (n + 1) c a = paG S T n (c + 1) a from if_neg (ite10.mp c1)).symm.trans h)
      · show tkDn tm_55 (75, [some (.inr (.inr (2, 0, 0))), some (.inr (.inr (1, b, 0))), some (.inr (.inr (4, 0, 0))), some (.inl n0), some (.inr (.inl a)), none, some (.inl (nI c))], [], (I, J, R)) _
        refine dn_run 5 (show tkDn tm_55 (84, [some (.inr (.inr (2, 0, 0))), some (.inr (.inr (1, b, 0))), some (.inr (.inr (4, 0, 0))), some (.inl n0), some (.inr (.inl a)), none, some (.inl (nI c))], [.inl (nI c), .inr (.inr (1, b, 0)), .inr (.inr (2, 0, 1)), .inr (.inl a)], (I, J, R)) _ from ?_)
        refine dn_call rfl rfl rfl rfl rfl (sN_giftFrom hP w hg ?_)
        show tkDn tm_55 (87, [some (.inr (.inr (2, 0, 0))), some (.inr (.inr (1, b, 0))), some (.inr (.inr (4, 0, 0))), some (.inl n0), some (.inr (.inl a)), none, some (.inl (nI c))], [.inl (nI (sf S (sgl S c))), .inr (.inr (2, 0, 1)), .inr (.inl a)], (I, J, R)) _
        refine dn_run 4 (show (vp_in (nI (sf S (sgl S c))) 16) ∧ tkDn tm_55 (92, [some (.inr (.inr (2, 0, 0))), some (.inr (.inr (1, b, 0))), some (.inr (.inr (4, 0, 0))), some (.inl n0), some (.inr (.inl a)), none, some (.inl (nI c))], [.inl (nI c), .inr (.inr (1, b, 0)), .inr (.inl (((I 2 0 1 ((nI (sf S (sgl S c))).toNatClampNeg)) : Int32).toInt64)), .inr (.inl a)], (I, J, R)) _ from ⟨vp_in_nI (by omega) (by omega), ?_⟩)
        rw [nI_clamp (show sf S (sgl S c) < 2 ^ 31 by omega), hT (sf S (sgl S c)) (by omega)]
        show tkDn tm_55 (92, [some (.inr (.inr (2, 0, 0))), some (.inr (.inr (1, b, 0))), some (.inr (.inr (4, 0, 0))), some (.inl n0), some (.inr (.inl a)), none, some (.inl (nI c))], [.inl (nI c), .inr (.inr (1, b, 0)), .inr (.inl ((T (sf S (sgl S c))).toInt64)), .inr (.inl a)], (I, J, R)) _
        refine dn_call rfl rfl rfl rfl rfl (sN_giftHigh hP w hg ?_)
        show tkDn tm_55 (95, [some (.inr (.inr (2, 0, 0))), some (.inr (.inr (1, b, 0))), some (.inr (.inr (4, 0, 0))), some (.inl n0), some (.inr (.inl a)), none, some (.inl (nI c))], [.inl (shi S (sgl S c)), .inr (.inl ((T (sf S (sgl S c))).toInt64)), .inr (.inl a)], (I, J, R)) _
        refine dn_run 6 (show tkDn tm_55 (56, [some (.inr (.inr (2, 0, 0))), some (.inr (.inr (1, b, 0))), some (.inr (.inr (4, 0, 0))), some (.inl n0), some (.inr (.inl (if (((T (sf S (sgl S c))).toInt64) + (((shi S (sgl S c)) : Int32).toInt64)) < a then (((T (sf S (sgl S c))).toInt64) + (((shi S (sgl S c)) : Int32).toInt64)) else a))), none, some (.inl ((nI c) + 1))], [], (I, J, R)) _ from ?_)
        rw [nI_1]
        exact ih (c + 1) (mn a ((T (sf S (sgl S c))).toInt64 + (shi S (sgl S c)).toInt64)) (by omega) ((show paG S T (n + 1) c a = paG S T n (c + 1) (mn a ((T (sf S (sgl S c))).toInt64 + (shi S (sgl S c)).toInt64)) from if_pos (Classical.byContradiction fun q => c1 (ite10.mpr q))).symm.trans h)
set_option maxRecDepth 8000 in
theorem sr_passTicks {I : tkI} {J : tkJ} {R : Nat → Nat} {Q : tkQ} {T : Nat → Int32} (hT : ∀ j, j < 16 → I 2 0 1 j = T j) {b : Nat} {S : tkS} (hP : NetP (I 1 b) S) (w : WF S) {e v : tkD} (he : RowP 16 (J 4 0 1) e) (hv : WRow (J 4 0 4) v) {t : Int32} (ht : I 2 0 0 2 = t) {n0 : Int32} (hQ : Q (some (.inl (paF S e v T t n0 - t.toInt64).toInt32)) (tk_so I 2 0 (tk_u2 (I 2 0) 0 2 (t + (paF S e v T t n0 - t.toInt64).toInt32)), J, R)) : tkDn tm_55 (0, [some (.inr (.inr (2, 0, 0))), some (.inr (.inr (1, b, 0))), some (.inr (.inr (4, 0, 0))), some (.inl n0), none, none, none], [], (I, J, R)) Q := by
  refine dn_run 9 (show tkDn tm_55 (13, [some (.inr (.inr (2, 0, 0))), some (.inr (.inr (1, b, 0))), some (.inr (.inr (4, 0, 0))), some (.inl n0), some (.inr (.inl ((((I 2 0 0 2) : Int32).toInt64) + ((n0 : Int32).toInt64)))), none, some (.inl 0)], [], (I, J, R)) _ from ?_)
  rw [ht]
  refine sr_pa1 hT hP w he hv ht ?_ (sM S) 0 _ (Nat.zero_add _) rfl
  show tkDn tm_55 (53, [some (.inr (.inr (2, 0, 0))), some (.inr (.inr (1, b, 0))), some (.inr (.inr (4, 0, 0))), some (.inl n0), some (.inr (.inl (paM S e v T t (sM S) 0 (t.toInt64 + n0.toInt64)))), none, some (.inl (nI (sM S)))], [], (I, J, R)) _
  refine dn_run 2 (show tkDn tm_55 (56, [some (.inr (.inr (2, 0, 0))), some (.inr (.inr (1, b, 0))), some (.inr (.inr (4, 0, 0))), some (.inl n0), some (.inr (.inl (paM S e v T t (sM S) 0 (t.toInt64 + n0.toInt64)))), none, some (.inl 0)], [], (I, J, R)) _ from ?_)
  refine sr_pa2 hT hP w he hv ht ?_ (sG S) 0 _ (Nat.zero_add _) rfl
  show tkDn tm_55 (108, [some (.inr (.inr (2, 0, 0))), some (.inr (.inr (1, b, 0))), some (.inr (.inr (4, 0, 0))), some (.inl n0), some (.inr (.inl (paF S e v T t n0))), none, some (.inl (nI (sG S)))], [], (I, J, R)) _
  refine dn_run 14 (show tkDn tm_55 (132, [some (.inr (.inr (2, 0, 0))), some (.inr (.inr (1, b, 0))), some (.inr (.inr (4, 0, 0))), some (.inl n0), some (.inr (.inl (paF S e v T t n0))), none, some (.inl ((((paF S e v T t n0) - (((I 2 0 0 2) : Int32).toInt64)) : Int64).toInt32))], [.inl ((((paF S e v T t n0) - (((I 2 0 0 2) : Int32).toInt64)) : Int64).toInt32)], (tk_so I 2 0 (tk_u2 (I 2 0) 0 2 ((I 2 0 0 2) + ((((paF S e v T t n0) - (((I 2 0 0 2) : Int32).toInt64)) : Int64).toInt32))), J, R)) _ from ?_)
  rw [ht]
  refine dn_ret0 rfl rfl rfl rfl ?_
  exact hQ
set_option maxRecDepth 8000 in
theorem sr_lt_loop {I : tkI} {J : tkJ} {R : Nat → Nat} {Q : tkQ} {T : Nat → Int32} (hT : ∀ j, j < 16 → I 2 0 1 j = T j) {b : Nat} {S : tkS} (hP : NetP (I 1 b) S) (w : WF S) {t : Int32} (ht : I 2 0 0 2 = t) (hQ : Q (some (.inl (if ltF S T t (sG S) 0 = true then 1 else 0))) (I, J, R)) : ∀ n c , c + n = sG S → ltF S T t n c = ltF S T t (sG S) 0 → tkDn tm_50 (2, [some (.inr (.inr (2, 0, 0))), some (.inr (.inr (1, b, 0))), some (.inl (nI c))], [], (I, J, R)) Q := by
  have hM16 := w.1
  have hL60 := w.2.1
  have hG6 := w.2.2.1
  intro n
  induction n with
  | zero =>
    intro c  hc h
    show tkDn tm_50 (2, [some (.inr (.inr (2, 0, 0))), some (.inr (.inr (1, b, 0))), some (.inl (nI c))], [], (I, J, R)) _
    refine dn_run 2 (show tkDn tm_50 (4, [some (.inr (.inr (2, 0, 0))), some (.inr (.inr (1, b, 0))), some (.inl (nI c))], [.inr (.inr (1, b, 0)), .inl (nI c)], (I, J, R)) _ from ?_)
    refine dn_call rfl rfl rfl rfl rfl (sN_giftCount hP ?_)
    show tkDn tm_50 (7, [some (.inr (.inr (2, 0, 0))), some (.inr (.inr (1, b, 0))), some (.inl (nI c))], [.inl (nI (sG S)), .inl (nI c)], (I, J, R)) _
    refine dn_if rfl rfl rfl (fun (c0 : (nI (sG S)) ≤ (nI c)) => ?_) (fun (c0 : ¬ (nI (sG S)) ≤ (nI c)) => ?_)
    · show tkDn tm_50 (50, [some (.inr (.inr (2, 0, 0))), some (.inr (.inr (1, b, 0))), some (.inl (nI c))], [], (I, J, R)) _
      refine dn_run 1 (show tkDn tm_50 (51, [some (.inr (.inr (2, 0, 0))), some (.inr (.inr (1, b, 0))), some (.inl (nI c))], [.inl 0], (I, J, R)) _ from ?_)
      refine dn_retb rfl rfl rfl rfl (by decide) ?_
      rw [← (show ltF S T t 0 c = false from rfl).symm.trans h] at hQ
      exact hQ
    · exact absurd (nI_le (by omega) (by omega)) c0
  | succ n ih =>
    intro c  hc h
    show tkDn tm_50 (2, [some (.inr (.inr (2, 0, 0))), some (.inr (.inr (1, b, 0))), some (.inl (nI c))], [], (I, J, R)) _
    refine dn_run 2 (show tkDn tm_50 (4, [some (.inr (.inr (2, 0, 0))), some (.inr (.inr (1, b, 0))), some (.inl (nI c))], [.inr (.inr (1, b, 0)), .inl (nI c)], (I, J, R)) _ from ?_)
    refine dn_call rfl rfl rfl rfl rfl (sN_giftCount hP ?_)
    show tkDn tm_50 (7, [some (.inr (.inr (2, 0, 0))), some (.inr (.inr (1, b, 0))), some (.inl (nI c))], [.inl (nI (sG S)), .inl (nI c)], (I, J, R)) _
    refine dn_if rfl rfl rfl (fun (c0 : (nI (sG S)) ≤ (nI c)) => ?_) (fun (c0 : ¬ (nI (sG S)) ≤ (nI c)) => ?_)
    · exact absurd c0 (nI_ge (by omega) (by omega))
    · show tkDn tm_50 (10, [some (.inr (.inr (2, 0, 0))), some (.inr (.inr (1, b, 0))), some (.inl (nI c))], [], (I, J, R)) _
      have hg : c < sG S := by omega
      have hf := w.fM (w.gl hg)
      refine dn_run 3 (show tkDn tm_50 (13, [some (.inr (.inr (2, 0, 0))), some (.inr (.inr (1, b, 0))), some (.inl (nI c))], [.inl (nI c), .inr (.inr (1, b, 0)), .inr (.inr (2, 0, 0))], (I, J, R)) _ from ?_)
      refine dn_call rfl rfl rfl rfl rfl (sr_isUnderWay hT hP w hg ?_)
      show tkDn tm_50 (16, [some (.inr (.inr (2, 0, 0))), some (.inr (.inr (1, b, 0))), some (.inl (nI c))], [.inl (if udw S T c then 1 else 0)], (I, J, R)) _
      refine dn_if rfl rfl rfl (fun (c1 : (if udw S T c then 1 else 0) = 0) => ?_) (fun (c1 : ¬ (if udw S T c then 1 else 0) = 0) => ?_)
      · show tkDn tm_50 (44, [some (.inr (.inr (2, 0, 0))), some (.inr (.inr (1, b, 0))), some (.inl (nI c))], [], (I, J, R)) _
        refine dn_run 2 (show tkDn tm_50 (2, [some (.inr (.inr (2, 0, 0))), some (.inr (.inr (1, b, 0))), some (.inl ((nI c) + 1))], [], (I, J, R)) _ from ?_)
        rw [nI_1]
        exact ih (c + 1) (by omega) ((show ltF S T t (n + 1) c = ltF S T t n (c + 1) from if_neg (fun q => ite10.mp c1 q.1)).symm.trans h)
      · show tkDn tm_50 (19, [some (.inr (.inr (2, 0, 0))), some (.inr (.inr (1, b, 0))), some (.inl (nI c))], [], (I, J, R)) _
        refine dn_run 6 (show tkDn tm_50 (29, [some (.inr (.inr (2, 0, 0))), some (.inr (.inr (1, b, 0))), some (.inl (nI c))], [.inl (nI c), .inr (.inr (1, b, 0)), .inr (.inr (2, 0, 1)), .inl (I 2 0 0 2)], (I, J, R)) _ from ?_)
        refine dn_call rfl rfl rfl rfl rfl (sN_giftFrom hP w hg ?_)
        show tkDn tm_50 (32, [some (.inr (.inr (2, 0, 0))), some (.inr (.inr (1, b, 0))), some (.inl (nI c))], [.inl (nI (sf S (sgl S c))), .inr (.inr (2, 0, 1)), .inl (I 2 0 0 2)], (I, J, R)) _
        refine dn_run 4 (show (vp_in (nI (sf S (sgl S c))) 16) ∧ tkDn tm_50 (36, [some (.inr (.inr (2, 0, 0))), some (.inr (.inr (1, b, 0))), some (.inl (nI c))], [.inl (nI c), .inr (.inr (1, b, 0)), .inl ((I 2 0 0 2) - (I 2 0 1 ((nI (sf S (sgl S c))).toNatClampNeg)))], (I, J, R)) _ from ⟨vp_in_nI (by omega) (by omega), ?_⟩)
        rw [nI_clamp (show sf S (sgl S c) < 2 ^ 31 by omega), hT (sf S (sgl S c)) (by omega), ht]
        show tkDn tm_50 (36, [some (.inr (.inr (2, 0, 0))), some (.inr (.inr (1, b, 0))), some (.inl (nI c))], [.inl (nI c), .inr (.inr (1, b, 0)), .inl (t - T (sf S (sgl S c)))], (I, J, R)) _
        refine dn_call rfl rfl rfl rfl rfl (sN_giftHigh hP w hg ?_)
        show tkDn tm_50 (39, [some (.inr (.inr (2, 0, 0))), some (.inr (.inr (1, b, 0))), some (.inl (nI c))], [.inl (shi S (sgl S c)), .inl (t - T (sf S (sgl S c)))], (I, J, R)) _
        refine dn_if rfl rfl rfl (fun (c2 : (t - T (sf S (sgl S c))) ≤ (shi S (sgl S c))) => ?_) (fun (c2 : ¬ (t - T (sf S (sgl S c))) ≤ (shi S (sgl S c))) => ?_)
        · show tkDn tm_50 (44, [some (.inr (.inr (2, 0, 0))), some (.inr (.inr (1, b, 0))), some (.inl (nI c))], [], (I, J, R)) _
          refine dn_run 2 (show tkDn tm_50 (2, [some (.inr (.inr (2, 0, 0))), some (.inr (.inr (1, b, 0))), some (.inl ((nI c) + 1))], [], (I, J, R)) _ from ?_)
          rw [nI_1]
          exact ih (c + 1) (by omega) ((show ltF S T t (n + 1) c = ltF S T t n (c + 1) from if_neg (fun q => absurd q.2 (Int32.not_lt.mpr c2))).symm.trans h)
        · show tkDn tm_50 (42, [some (.inr (.inr (2, 0, 0))), some (.inr (.inr (1, b, 0))), some (.inl (nI c))], [], (I, J, R)) _
          refine dn_run 1 (show tkDn tm_50 (43, [some (.inr (.inr (2, 0, 0))), some (.inr (.inr (1, b, 0))), some (.inl (nI c))], [.inl 1], (I, J, R)) _ from ?_)
          refine dn_retb rfl rfl rfl rfl (by decide) ?_
          rw [← (show ltF S T t (n + 1) c = true from if_pos ⟨Classical.byContradiction fun q => c1 (ite10.mpr q), Int32.not_le.mp c2⟩).symm.trans h] at hQ
          exact hQ
set_option maxRecDepth 8000 in
theorem sr_someoneIsLate {I : tkI} {J : tkJ} {R : Nat → Nat} {Q : tkQ} {T : Nat → Int32} (hT : ∀ j, j < 16 → I 2 0 1 j = T j) {b : Nat} {S : tkS} (hP : NetP (I 1 b) S) (w : WF S) {t : Int32} (ht : I 2 0 0 2 = t) (hQ : Q (some (.inl (if ltF S T t (sG S) 0 = true then 1 else 0))) (I, J, R)) : tkDn tm_50 (0, [some (.inr (.inr (2, 0, 0))), some (.inr (.inr (1, b, 0))), none], [], (I, J, R)) Q := by
  refine dn_run 2 (show tkDn tm_50 (2, [some (.inr (.inr (2, 0, 0))), some (.inr (.inr (1, b, 0))), some (.inl 0)], [], (I, J, R)) _ from ?_)
  exact sr_lt_loop hT hP w ht hQ (sG S) 0 (Nat.zero_add _) rfl
set_option maxRecDepth 8000 in
theorem sr_canBeGiven {I : tkI} {J : tkJ} {R : Nat → Nat} {Q : tkQ} {T : Nat → Int32} (hT : ∀ j, j < 16 → I 2 0 1 j = T j) {b : Nat} {S : tkS} (hP : NetP (I 1 b) S) (w : WF S) {t : Int32} (ht : I 2 0 0 2 = t) {m : Nat} (hm : m < 16) (hQ : Q (some (.inl (if cgvF S T t m then 1 else 0))) (I, J, R)) : tkDn tm_49 (0, [some (.inr (.inr (2, 0, 0))), some (.inr (.inr (1, b, 0))), some (.inl (nI m)), none, none], [], (I, J, R)) Q := by
  have hM16 := w.1
  have hL60 := w.2.1
  have hG6 := w.2.2.1
  refine dn_run 2 (show tkDn tm_49 (2, [some (.inr (.inr (2, 0, 0))), some (.inr (.inr (1, b, 0))), some (.inl (nI m)), none, none], [.inl (nI m), .inr (.inr (1, b, 0))], (I, J, R)) _ from ?_)
  refine dn_call rfl rfl rfl rfl rfl (sn_giftInto hP w (by omega) ?_)
  show tkDn tm_49 (5, [some (.inr (.inr (2, 0, 0))), some (.inr (.inr (1, b, 0))), some (.inl (nI m)), none, none], [.inl (if gt S m < sG S then nI (gt S m) else -9)], (I, J, R)) _
  refine dn_run 3 (show tkDn tm_49 (9, [some (.inr (.inr (2, 0, 0))), some (.inr (.inr (1, b, 0))), some (.inl (nI m)), some (.inl (if gt S m < sG S then nI (gt S m) else -9)), none], [.inl (-9), .inl (if gt S m < sG S then nI (gt S m) else -9)], (I, J, R)) _ from ?_)
  by_cases hg : gt S m < sG S
  · rw [if_pos hg]
    show tkDn tm_49 (9, [some (.inr (.inr (2, 0, 0))), some (.inr (.inr (1, b, 0))), some (.inl (nI m)), some (.inl (nI (gt S m))), none], [.inl (-9), .inl (nI (gt S m))], (I, J, R)) _
    have hf := w.fM (w.gl hg)
    refine dn_if rfl rfl rfl (fun (c1 : (nI (gt S m)) = (-9)) => ?_) (fun (c1 : ¬ (nI (gt S m)) = (-9)) => ?_)
    · exact absurd (show nI (gt S m) < 0 by rw [c1]; decide) (nI_pos (by omega))
    · show tkDn tm_49 (12, [some (.inr (.inr (2, 0, 0))), some (.inr (.inr (1, b, 0))), some (.inl (nI m)), some (.inl (nI (gt S m))), none], [], (I, J, R)) _
      refine dn_run 2 (show tkDn tm_49 (14, [some (.inr (.inr (2, 0, 0))), some (.inr (.inr (1, b, 0))), some (.inl (nI m)), some (.inl (nI (gt S m))), none], [.inl (nI m), .inr (.inr (2, 0, 0))], (I, J, R)) _ from ?_)
      refine dn_call rfl rfl rfl rfl rfl (sr_hasCome hT (by omega) ?_)
      show tkDn tm_49 (17, [some (.inr (.inr (2, 0, 0))), some (.inr (.inr (1, b, 0))), some (.inl (nI m)), some (.inl (nI (gt S m))), none], [.inl (if T m = -9 then 0 else 1)], (I, J, R)) _
      refine dn_if rfl rfl rfl (fun (c2 : ¬ (if T m = -9 then 0 else 1) = 0) => ?_) (fun (c2 : (if T m = -9 then 0 else 1) = 0) => ?_)
      · show tkDn tm_49 (32, [some (.inr (.inr (2, 0, 0))), some (.inr (.inr (1, b, 0))), some (.inl (nI m)), some (.inl (nI (gt S m))), none], [], (I, J, R)) _
        refine dn_run 1 (show tkDn tm_49 (33, [some (.inr (.inr (2, 0, 0))), some (.inr (.inr (1, b, 0))), some (.inl (nI m)), some (.inl (nI (gt S m))), none], [.inl 0], (I, J, R)) _ from ?_)
        refine dn_retb rfl rfl rfl rfl (by decide) ?_
        rw [if_neg (fun q => c2 (ite01.mpr q.2.1))] at hQ; exact hQ
      · show tkDn tm_49 (20, [some (.inr (.inr (2, 0, 0))), some (.inr (.inr (1, b, 0))), some (.inl (nI m)), some (.inl (nI (gt S m))), none], [], (I, J, R)) _
        refine dn_run 3 (show tkDn tm_49 (23, [some (.inr (.inr (2, 0, 0))), some (.inr (.inr (1, b, 0))), some (.inl (nI m)), some (.inl (nI (gt S m))), none], [.inl (nI (gt S m)), .inr (.inr (1, b, 0)), .inr (.inr (2, 0, 0))], (I, J, R)) _ from ?_)
        refine dn_call rfl rfl rfl rfl rfl (sN_giftFrom hP w hg ?_)
        show tkDn tm_49 (26, [some (.inr (.inr (2, 0, 0))), some (.inr (.inr (1, b, 0))), some (.inl (nI m)), some (.inl (nI (gt S m))), none], [.inl (nI (sf S (sgl S (gt S m)))), .inr (.inr (2, 0, 0))], (I, J, R)) _
        refine dn_call rfl rfl rfl rfl rfl (sr_hasCome hT (by omega) ?_)
        show tkDn tm_49 (29, [some (.inr (.inr (2, 0, 0))), some (.inr (.inr (1, b, 0))), some (.inl (nI m)), some (.inl (nI (gt S m))), none], [.inl (if T (sf S (sgl S (gt S m))) = -9 then 0 else 1)], (I, J, R)) _
        refine dn_if rfl rfl rfl (fun (c3 : ¬ (if T (sf S (sgl S (gt S m))) = -9 then 0 else 1) = 0) => ?_) (fun (c3 : (if T (sf S (sgl S (gt S m))) = -9 then 0 else 1) = 0) => ?_)
        · show tkDn tm_49 (34, [some (.inr (.inr (2, 0, 0))), some (.inr (.inr (1, b, 0))), some (.inl (nI m)), some (.inl (nI (gt S m))), none], [], (I, J, R)) _
          refine dn_run 6 (show tkDn tm_49 (44, [some (.inr (.inr (2, 0, 0))), some (.inr (.inr (1, b, 0))), some (.inl (nI m)), some (.inl (nI (gt S m))), none], [.inl (nI (gt S m)), .inr (.inr (1, b, 0)), .inr (.inr (2, 0, 1)), .inl (I 2 0 0 2)], (I, J, R)) _ from ?_)
          refine dn_call rfl rfl rfl rfl rfl (sN_giftFrom hP w hg ?_)
          show tkDn tm_49 (47, [some (.inr (.inr (2, 0, 0))), some (.inr (.inr (1, b, 0))), some (.inl (nI m)), some (.inl (nI (gt S m))), none], [.inl (nI (sf S (sgl S (gt S m)))), .inr (.inr (2, 0, 1)), .inl (I 2 0 0 2)], (I, J, R)) _
          refine dn_run 6 (show (vp_in (nI (sf S (sgl S (gt S m)))) 16) ∧ tkDn tm_49 (55, [some (.inr (.inr (2, 0, 0))), some (.inr (.inr (1, b, 0))), some (.inl (nI m)), some (.inl (nI (gt S m))), some (.inl ((I 2 0 0 2) - (I 2 0 1 ((nI (sf S (sgl S (gt S m)))).toNatClampNeg))))], [.inl (nI (gt S m)), .inr (.inr (1, b, 0)), .inl ((I 2 0 0 2) - (I 2 0 1 ((nI (sf S (sgl S (gt S m)))).toNatClampNeg)))], (I, J, R)) _ from ⟨vp_in_nI (by omega) (by omega), ?_⟩)
          rw [nI_clamp (show sf S (sgl S (gt S m)) < 2 ^ 31 by omega), hT (sf S (sgl S (gt S m))) (by omega), ht]
          show tkDn tm_49 (55, [some (.inr (.inr (2, 0, 0))), some (.inr (.inr (1, b, 0))), some (.inl (nI m)), some (.inl (nI (gt S m))), some (.inl (t - T (sf S (sgl S (gt S m)))))], [.inl (nI (gt S m)), .inr (.inr (1, b, 0)), .inl (t - T (sf S (sgl S (gt S m))))], (I, J, R)) _
          refine dn_call rfl rfl rfl rfl rfl (sN_giftLow hP w hg ?_)
          show tkDn tm_49 (58, [some (.inr (.inr (2, 0, 0))), some (.inr (.inr (1, b, 0))), some (.inl (nI m)), some (.inl (nI (gt S m))), some (.inl (t - T (sf S (sgl S (gt S m)))))], [.inl (slo S (sgl S (gt S m))), .inl (t - T (sf S (sgl S (gt S m))))], (I, J, R)) _
          refine dn_if rfl rfl rfl (fun (c4 : (t - T (sf S (sgl S (gt S m)))) < (slo S (sgl S (gt S m)))) => ?_) (fun (c4 : ¬ (t - T (sf S (sgl S (gt S m)))) < (slo S (sgl S (gt S m)))) => ?_)
          · show tkDn tm_49 (75, [some (.inr (.inr (2, 0, 0))), some (.inr (.inr (1, b, 0))), some (.inl (nI m)), some (.inl (nI (gt S m))), some (.inl (t - T (sf S (sgl S (gt S m)))))], [], (I, J, R)) _
            refine dn_run 1 (show tkDn tm_49 (76, [some (.inr (.inr (2, 0, 0))), some (.inr (.inr (1, b, 0))), some (.inl (nI m)), some (.inl (nI (gt S m))), some (.inl (t - T (sf S (sgl S (gt S m)))))], [.inl 0], (I, J, R)) _ from ?_)
            refine dn_retb rfl rfl rfl rfl (by decide) ?_
            rw [if_neg (fun q => absurd c4 (Int32.not_lt.mpr q.2.2.2.1))] at hQ; exact hQ
          · show tkDn tm_49 (61, [some (.inr (.inr (2, 0, 0))), some (.inr (.inr (1, b, 0))), some (.inl (nI m)), some (.inl (nI (gt S m))), some (.inl (t - T (sf S (sgl S (gt S m)))))], [], (I, J, R)) _
            refine dn_run 3 (show tkDn tm_49 (65, [some (.inr (.inr (2, 0, 0))), some (.inr (.inr (1, b, 0))), some (.inl (nI m)), some (.inl (nI (gt S m))), some (.inl (t - T (sf S (sgl S (gt S m)))))], [.inl (nI (gt S m)), .inr (.inr (1, b, 0)), .inl (t - T (sf S (sgl S (gt S m))))], (I, J, R)) _ from ?_)
            refine dn_call rfl rfl rfl rfl rfl (sN_giftHigh hP w hg ?_)
            show tkDn tm_49 (68, [some (.inr (.inr (2, 0, 0))), some (.inr (.inr (1, b, 0))), some (.inl (nI m)), some (.inl (nI (gt S m))), some (.inl (t - T (sf S (sgl S (gt S m)))))], [.inl (shi S (sgl S (gt S m))), .inl (t - T (sf S (sgl S (gt S m))))], (I, J, R)) _
            refine dn_if rfl rfl rfl (fun (c5 : (shi S (sgl S (gt S m))) < (t - T (sf S (sgl S (gt S m))))) => ?_) (fun (c5 : ¬ (shi S (sgl S (gt S m))) < (t - T (sf S (sgl S (gt S m))))) => ?_)
            · show tkDn tm_49 (75, [some (.inr (.inr (2, 0, 0))), some (.inr (.inr (1, b, 0))), some (.inl (nI m)), some (.inl (nI (gt S m))), some (.inl (t - T (sf S (sgl S (gt S m)))))], [], (I, J, R)) _
              refine dn_run 1 (show tkDn tm_49 (76, [some (.inr (.inr (2, 0, 0))), some (.inr (.inr (1, b, 0))), some (.inl (nI m)), some (.inl (nI (gt S m))), some (.inl (t - T (sf S (sgl S (gt S m)))))], [.inl 0], (I, J, R)) _ from ?_)
              refine dn_retb rfl rfl rfl rfl (by decide) ?_
              rw [if_neg (fun q => absurd c5 (Int32.not_lt.mpr q.2.2.2.2))] at hQ; exact hQ
            · show tkDn tm_49 (71, [some (.inr (.inr (2, 0, 0))), some (.inr (.inr (1, b, 0))), some (.inl (nI m)), some (.inl (nI (gt S m))), some (.inl (t - T (sf S (sgl S (gt S m)))))], [], (I, J, R)) _
              refine dn_run 2 (show tkDn tm_49 (76, [some (.inr (.inr (2, 0, 0))), some (.inr (.inr (1, b, 0))), some (.inl (nI m)), some (.inl (nI (gt S m))), some (.inl (t - T (sf S (sgl S (gt S m)))))], [.inl 1], (I, J, R)) _ from ?_)
              refine dn_retb rfl rfl rfl rfl (by decide) ?_
              rw [if_pos ⟨hg, ite01.mp c2, fun z => c3 (ite01.mpr z), Int32.not_lt.mp c4, Int32.not_lt.mp c5⟩] at hQ; exact hQ
        · show tkDn tm_49 (32, [some (.inr (.inr (2, 0, 0))), some (.inr (.inr (1, b, 0))), some (.inl (nI m)), some (.inl (nI (gt S m))), none], [], (I, J, R)) _
          refine dn_run 1 (show tkDn tm_49 (33, [some (.inr (.inr (2, 0, 0))), some (.inr (.inr (1, b, 0))), some (.inl (nI m)), some (.inl (nI (gt S m))), none], [.inl 0], (I, J, R)) _ from ?_)
          refine dn_retb rfl rfl rfl rfl (by decide) ?_
          rw [if_neg (fun q => q.2.2.1 (ite01.mp c3))] at hQ; exact hQ
  · rw [if_neg hg]
    show tkDn tm_49 (9, [some (.inr (.inr (2, 0, 0))), some (.inr (.inr (1, b, 0))), some (.inl (nI m)), some (.inl (-9)), none], [.inl (-9), .inl (-9)], (I, J, R)) _
    refine dn_if rfl rfl rfl (fun (c1 : (((-9) : Int32) = (-9) : Prop)) => ?_) (fun (c1 : (¬ ((-9) : Int32) = (-9) : Prop)) => ?_)
    · show tkDn tm_49 (32, [some (.inr (.inr (2, 0, 0))), some (.inr (.inr (1, b, 0))), some (.inl (nI m)), some (.inl (-9)), none], [], (I, J, R)) _
      refine dn_run 1 (show tkDn tm_49 (33, [some (.inr (.inr (2, 0, 0))), some (.inr (.inr (1, b, 0))), some (.inl (nI m)), some (.inl (-9)), none], [.inl 0], (I, J, R)) _ from ?_)
      refine dn_retb rfl rfl rfl rfl (by decide) ?_
      rw [if_neg (fun q => hg q.1)] at hQ; exact hQ
    · exact absurd rfl c1
set_option maxRecDepth 8000 in
theorem sr_fb_loop {I : tkI} {J : tkJ} {R : Nat → Nat} {Q : tkQ} {T : Nat → Int32} (hT : ∀ j, j < 16 → I 2 0 1 j = T j) {b : Nat} {S : tkS} (hP : NetP (I 1 b) S) (w : WF S) (hQ : Q (some (.inl (fbF S T (sL S) 0))) (I, J, R)) : ∀ n c (o3 : Option tkV), c + n = sL S → fbF S T n c = fbF S T (sL S) 0 → tkDn tm_60 (2, [some (.inr (.inr (2, 0, 0))), some (.inr (.inr (1, b, 0))), some (.inl (nI c)), o3], [], (I, J, R)) Q := by
  have hM16 := w.1
  have hL60 := w.2.1
  have hG6 := w.2.2.1
  intro n
  induction n with
  | zero =>
    intro c o3 hc h
    show tkDn tm_60 (2, [some (.inr (.inr (2, 0, 0))), some (.inr (.inr (1, b, 0))), some (.inl (nI c)), o3], [], (I, J, R)) _
    refine dn_run 2 (show tkDn tm_60 (4, [some (.inr (.inr (2, 0, 0))), some (.inr (.inr (1, b, 0))), some (.inl (nI c)), o3], [.inr (.inr (1, b, 0)), .inl (nI c)], (I, J, R)) _ from ?_)
    refine dn_call rfl rfl rfl rfl rfl (sN_linkCount hP ?_)
    show tkDn tm_60 (7, [some (.inr (.inr (2, 0, 0))), some (.inr (.inr (1, b, 0))), some (.inl (nI c)), o3], [.inl (nI (sL S)), .inl (nI c)], (I, J, R)) _
    refine dn_if rfl rfl rfl (fun (c0 : (nI (sL S)) ≤ (nI c)) => ?_) (fun (c0 : ¬ (nI (sL S)) ≤ (nI c)) => ?_)
    · show tkDn tm_60 (58, [some (.inr (.inr (2, 0, 0))), some (.inr (.inr (1, b, 0))), some (.inl (nI c)), o3], [], (I, J, R)) _
      refine dn_run 1 (show tkDn tm_60 (60, [some (.inr (.inr (2, 0, 0))), some (.inr (.inr (1, b, 0))), some (.inl (nI c)), o3], [.inl (-9)], (I, J, R)) _ from ?_)
      refine dn_ret0 rfl rfl rfl rfl ?_
      rw [← (show fbF S T 0 c = -9 from rfl).symm.trans h] at hQ
      exact hQ
    · exact absurd (nI_le (by omega) (by omega)) c0
  | succ n ih =>
    intro c o3 hc h
    show tkDn tm_60 (2, [some (.inr (.inr (2, 0, 0))), some (.inr (.inr (1, b, 0))), some (.inl (nI c)), o3], [], (I, J, R)) _
    refine dn_run 2 (show tkDn tm_60 (4, [some (.inr (.inr (2, 0, 0))), some (.inr (.inr (1, b, 0))), some (.inl (nI c)), o3], [.inr (.inr (1, b, 0)), .inl (nI c)], (I, J, R)) _ from ?_)
    refine dn_call rfl rfl rfl rfl rfl (sN_linkCount hP ?_)
    show tkDn tm_60 (7, [some (.inr (.inr (2, 0, 0))), some (.inr (.inr (1, b, 0))), some (.inl (nI c)), o3], [.inl (nI (sL S)), .inl (nI c)], (I, J, R)) _
    refine dn_if rfl rfl rfl (fun (c0 : (nI (sL S)) ≤ (nI c)) => ?_) (fun (c0 : ¬ (nI (sL S)) ≤ (nI c)) => ?_)
    · exact absurd c0 (nI_ge (by omega) (by omega))
    · show tkDn tm_60 (10, [some (.inr (.inr (2, 0, 0))), some (.inr (.inr (1, b, 0))), some (.inl (nI c)), o3], [], (I, J, R)) _
      have hl : c < sL S := by omega
      have hf := w.fM hl
      have he_ := w.eM hl
      refine dn_run 4 (show tkDn tm_60 (16, [some (.inr (.inr (2, 0, 0))), some (.inr (.inr (1, b, 0))), some (.inl (nI c)), o3], [.inl (nI c), .inr (.inr (1, b, 0)), .inr (.inr (2, 0, 1))], (I, J, R)) _ from ?_)
      refine dn_call rfl rfl rfl rfl rfl (sN_linkTo hP w hl ?_)
      show tkDn tm_60 (19, [some (.inr (.inr (2, 0, 0))), some (.inr (.inr (1, b, 0))), some (.inl (nI c)), o3], [.inl (nI (se S c)), .inr (.inr (2, 0, 1))], (I, J, R)) _
      refine dn_run 5 (show (vp_in (nI (se S c)) 16) ∧ tkDn tm_60 (26, [some (.inr (.inr (2, 0, 0))), some (.inr (.inr (1, b, 0))), some (.inl (nI c)), o3], [.inl (nI c), .inr (.inr (1, b, 0)), .inr (.inr (2, 0, 1)), .inl (I 2 0 1 ((nI (se S c)).toNatClampNeg))], (I, J, R)) _ from ⟨vp_in_nI (by omega) (by omega), ?_⟩)
      rw [nI_clamp (show se S c < 2 ^ 31 by omega), hT (se S c) (by omega)]
      show tkDn tm_60 (26, [some (.inr (.inr (2, 0, 0))), some (.inr (.inr (1, b, 0))), some (.inl (nI c)), o3], [.inl (nI c), .inr (.inr (1, b, 0)), .inr (.inr (2, 0, 1)), .inl (T (se S c))], (I, J, R)) _
      refine dn_call rfl rfl rfl rfl rfl (sN_linkFrom hP w hl ?_)
      show tkDn tm_60 (29, [some (.inr (.inr (2, 0, 0))), some (.inr (.inr (1, b, 0))), some (.inl (nI c)), o3], [.inl (nI (sf S c)), .inr (.inr (2, 0, 1)), .inl (T (se S c))], (I, J, R)) _
      refine dn_run 6 (show (vp_in (nI (sf S c)) 16) ∧ tkDn tm_60 (35, [some (.inr (.inr (2, 0, 0))), some (.inr (.inr (1, b, 0))), some (.inl (nI c)), some (.inl ((T (se S c)) - (I 2 0 1 ((nI (sf S c)).toNatClampNeg))))], [.inl (nI c), .inr (.inr (1, b, 0)), .inl ((T (se S c)) - (I 2 0 1 ((nI (sf S c)).toNatClampNeg)))], (I, J, R)) _ from ⟨vp_in_nI (by omega) (by omega), ?_⟩)
      rw [nI_clamp (show sf S c < 2 ^ 31 by omega), hT (sf S c) (by omega)]
      show tkDn tm_60 (35, [some (.inr (.inr (2, 0, 0))), some (.inr (.inr (1, b, 0))), some (.inl (nI c)), some (.inl (T (se S c) - T (sf S c)))], [.inl (nI c), .inr (.inr (1, b, 0)), .inl (T (se S c) - T (sf S c))], (I, J, R)) _
      refine dn_call rfl rfl rfl rfl rfl (sN_linkLow hP w hl ?_)
      show tkDn tm_60 (38, [some (.inr (.inr (2, 0, 0))), some (.inr (.inr (1, b, 0))), some (.inl (nI c)), some (.inl (T (se S c) - T (sf S c)))], [.inl (slo S c), .inl (T (se S c) - T (sf S c))], (I, J, R)) _
      refine dn_if rfl rfl rfl (fun (c1 : (T (se S c) - T (sf S c)) < (slo S c)) => ?_) (fun (c1 : ¬ (T (se S c) - T (sf S c)) < (slo S c)) => ?_)
      · show tkDn tm_60 (50, [some (.inr (.inr (2, 0, 0))), some (.inr (.inr (1, b, 0))), some (.inl (nI c)), some (.inl (T (se S c) - T (sf S c)))], [], (I, J, R)) _
        refine dn_run 1 (show tkDn tm_60 (51, [some (.inr (.inr (2, 0, 0))), some (.inr (.inr (1, b, 0))), some (.inl (nI c)), some (.inl (T (se S c) - T (sf S c)))], [.inl (nI c)], (I, J, R)) _ from ?_)
        refine dn_ret0 rfl rfl rfl rfl ?_
        rw [← (show fbF S T (n + 1) c = nI c from if_pos (Or.inl c1)).symm.trans h] at hQ
        exact hQ
      · show tkDn tm_60 (41, [some (.inr (.inr (2, 0, 0))), some (.inr (.inr (1, b, 0))), some (.inl (nI c)), some (.inl (T (se S c) - T (sf S c)))], [], (I, J, R)) _
        refine dn_run 3 (show tkDn tm_60 (44, [some (.inr (.inr (2, 0, 0))), some (.inr (.inr (1, b, 0))), some (.inl (nI c)), some (.inl (T (se S c) - T (sf S c)))], [.inl (nI c), .inr (.inr (1, b, 0)), .inl (T (se S c) - T (sf S c))], (I, J, R)) _ from ?_)
        refine dn_call rfl rfl rfl rfl rfl (sN_linkHigh hP w hl ?_)
        show tkDn tm_60 (47, [some (.inr (.inr (2, 0, 0))), some (.inr (.inr (1, b, 0))), some (.inl (nI c)), some (.inl (T (se S c) - T (sf S c)))], [.inl (shi S c), .inl (T (se S c) - T (sf S c))], (I, J, R)) _
        refine dn_if rfl rfl rfl (fun (c2 : (T (se S c) - T (sf S c)) ≤ (shi S c)) => ?_) (fun (c2 : ¬ (T (se S c) - T (sf S c)) ≤ (shi S c)) => ?_)
        · show tkDn tm_60 (52, [some (.inr (.inr (2, 0, 0))), some (.inr (.inr (1, b, 0))), some (.inl (nI c)), some (.inl (T (se S c) - T (sf S c)))], [], (I, J, R)) _
          refine dn_run 2 (show tkDn tm_60 (2, [some (.inr (.inr (2, 0, 0))), some (.inr (.inr (1, b, 0))), some (.inl ((nI c) + 1)), some (.inl (T (se S c) - T (sf S c)))], [], (I, J, R)) _ from ?_)
          rw [nI_1]
          exact ih (c + 1) _ (by omega) ((show fbF S T (n + 1) c = fbF S T n (c + 1) from if_neg (fun q => q.elim c1 (fun q => absurd q (Int32.not_lt.mpr c2)))).symm.trans h)
        · show tkDn tm_60 (50, [some (.inr (.inr (2, 0, 0))), some (.inr (.inr (1, b, 0))), some (.inl (nI c)), some (.inl (T (se S c) - T (sf S c)))], [], (I, J, R)) _
          refine dn_run 1 (show tkDn tm_60 (51, [some (.inr (.inr (2, 0, 0))), some (.inr (.inr (1, b, 0))), some (.inl (nI c)), some (.inl (T (se S c) - T (sf S c)))], [.inl (nI c)], (I, J, R)) _ from ?_)
          refine dn_ret0 rfl rfl rfl rfl ?_
          rw [← (show fbF S T (n + 1) c = nI c from if_pos (Or.inr (Int32.not_le.mp c2))).symm.trans h] at hQ
          exact hQ
set_option maxRecDepth 8000 in
theorem sr_firstBrokenLink {I : tkI} {J : tkJ} {R : Nat → Nat} {Q : tkQ} {T : Nat → Int32} (hT : ∀ j, j < 16 → I 2 0 1 j = T j) {b : Nat} {S : tkS} (hP : NetP (I 1 b) S) (w : WF S) (hQ : Q (some (.inl (fbF S T (sL S) 0))) (I, J, R)) : tkDn tm_60 (0, [some (.inr (.inr (2, 0, 0))), some (.inr (.inr (1, b, 0))), none, none], [], (I, J, R)) Q := by
  refine dn_run 2 (show tkDn tm_60 (2, [some (.inr (.inr (2, 0, 0))), some (.inr (.inr (1, b, 0))), some (.inl 0), none], [], (I, J, R)) _ from ?_)
  exact sr_fb_loop hT hP w hQ (sL S) 0 none (Nat.zero_add _) rfl
set_option maxRecDepth 8000 in
theorem sr_fill_loop {I : tkI} {J : tkJ} {R : Nat → Nat} {Q : tkQ} {x : Int32} (hQ : Q none (tk_so I 2 0 (tk_u1 (I 2 0) 1 (fillR (I 2 0 1) 16 x)), J, R)) : ∀ n i, i + n = 16 → tkDn tm_192 (5, [some (.inr (.inr (2, 0, 1))), some (.inl x), some (.inl (nI i)), some (.inl 16)], [], (tk_so I 2 0 (tk_u1 (I 2 0) 1 (fillR (I 2 0 1) i x)), J, R)) Q := by
  intro n
  induction n with
  | zero =>
    intro i hi
    have hi : i = 16 := by omega
    subst hi
    show tkDn tm_192 (5, [some (.inr (.inr (2, 0, 1))), some (.inl x), some (.inl (nI 16)), some (.inl 16)], [], (tk_so I 2 0 (tk_u1 (I 2 0) 1 (fillR (I 2 0 1) 16 x)), J, R)) _
    refine dn_run 2 (show tkDn tm_192 (7, [some (.inr (.inr (2, 0, 1))), some (.inl x), some (.inl (nI 16)), some (.inl 16)], [.inl 16, .inl (nI 16)], (tk_so I 2 0 (tk_u1 (I 2 0) 1 (fillR (I 2 0 1) 16 x)), J, R)) _ from ?_)
    refine dn_if rfl rfl rfl (fun (c : 16 ≤ (nI 16)) => ?_) (fun (c : ¬ 16 ≤ (nI 16)) => ?_)
    · show tkDn tm_192 (20, [some (.inr (.inr (2, 0, 1))), some (.inl x), some (.inl (nI 16)), some (.inl 16)], [], (tk_so I 2 0 (tk_u1 (I 2 0) 1 (fillR (I 2 0 1) 16 x)), J, R)) _
      refine dn_ret0 rfl rfl rfl rfl ?_
      exact hQ
    · exact absurd (by decide) c
  | succ n ih =>
    intro i hi
    show tkDn tm_192 (5, [some (.inr (.inr (2, 0, 1))), some (.inl x), some (.inl (nI i)), some (.inl 16)], [], (tk_so I 2 0 (tk_u1 (I 2 0) 1 (fillR (I 2 0 1) i x)), J, R)) _
    refine dn_run 2 (show tkDn tm_192 (7, [some (.inr (.inr (2, 0, 1))), some (.inl x), some (.inl (nI i)), some (.inl 16)], [.inl 16, .inl (nI i)], (tk_so I 2 0 (tk_u1 (I 2 0) 1 (fillR (I 2 0 1) i x)), J, R)) _ from ?_)
    refine dn_if rfl rfl rfl (fun (c : 16 ≤ (nI i)) => ?_) (fun (c : ¬ 16 ≤ (nI i)) => ?_)
    · exact absurd c (nI_ge (b := 16) (by omega) (by omega))
    · show tkDn tm_192 (10, [some (.inr (.inr (2, 0, 1))), some (.inl x), some (.inl (nI i)), some (.inl 16)], [], (tk_so I 2 0 (tk_u1 (I 2 0) 1 (fillR (I 2 0 1) i x)), J, R)) _
      refine dn_run 6 (show (vp_in (nI i) 16) ∧ tkDn tm_192 (5, [some (.inr (.inr (2, 0, 1))), some (.inl x), some (.inl ((nI i) + 1)), some (.inl 16)], [], (tk_so (tk_so I 2 0 (tk_u1 (I 2 0) 1 (fillR (I 2 0 1) i x))) 2 0 (tk_u2 (tk_u1 (I 2 0) 1 (fillR (I 2 0 1) i x)) 1 ((nI i).toNatClampNeg) x), J, R)) _ from ⟨vp_in_nI (by omega) (by omega), ?_⟩)
      rw [tk_so_so]
      rw [tk_u2_u1, nI_clamp (by omega), fillR_s, nI_1]
      exact ih (i + 1) (by omega)
set_option maxRecDepth 8000 in
theorem sr_fill {I : tkI} {J : tkJ} {R : Nat → Nat} {Q : tkQ} {x : Int32} (hQ : Q none (tk_so I 2 0 (tk_u1 (I 2 0) 1 (fillR (I 2 0 1) 16 x)), J, R)) : tkDn tm_192 (0, [some (.inr (.inr (2, 0, 1))), some (.inl x), none, none], [], (I, J, R)) Q := by
  refine dn_run 5 (show tkDn tm_192 (5, [some (.inr (.inr (2, 0, 1))), some (.inl x), some (.inl 0), some (.inl 16)], [], (I, J, R)) _ from ?_)
  have := sr_fill_loop hQ 16 0 rfl
  rw [fillR_0, jr_id] at this
  exact this
set_option maxRecDepth 8000 in
theorem sr_begin {I : tkI} {J : tkJ} {R : Nat → Nat} {Q : tkQ} (hQ : ∀ X, (∀ j, j < 16 → X 1 j = -9) → X 0 1 = 1 → X 0 2 = 0 → X 0 3 = 0 → Q none (tk_so I 2 0 X, J, R)) : tkDn tm_40 (0, [some (.inr (.inr (2, 0, 0)))], [], (I, J, R)) Q := by
  refine dn_run 3 (show tkDn tm_40 (6, [some (.inr (.inr (2, 0, 0)))], [.inl (-9), .inr (.inr (2, 0, 1))], (I, J, R)) _ from ?_)
  refine dn_call rfl rfl rfl rfl rfl (sr_fill ?_)
  show tkDn tm_40 (9, [some (.inr (.inr (2, 0, 0)))], [], (tk_so I 2 0 (tk_u1 (I 2 0) 1 (fillR (I 2 0 1) 16 (-9))), J, R)) _
  refine dn_run 9 (show (1 = 0 ∨ 1 = 1) ∧ tkDn tm_40 (24, [some (.inr (.inr (2, 0, 0)))], [], (tk_so (tk_so (tk_so (tk_so I 2 0 (tk_u1 (I 2 0) 1 (fillR (I 2 0 1) 16 (-9)))) 2 0 (tk_u2 (tk_u1 (I 2 0) 1 (fillR (I 2 0 1) 16 (-9))) 0 1 1)) 2 0 (tk_u2 (tk_u2 (tk_u1 (I 2 0) 1 (fillR (I 2 0 1) 16 (-9))) 0 1 1) 0 2 0)) 2 0 (tk_u2 (tk_u2 (tk_u2 (tk_u1 (I 2 0) 1 (fillR (I 2 0 1) 16 (-9))) 0 1 1) 0 2 0) 0 3 0), J, R)) _ from ⟨Or.inr rfl, ?_⟩)
  rw [tk_so_so, tk_so_so, tk_so_so]
  refine dn_ret0 rfl rfl rfl rfl ?_
  exact hQ _ (fun j hj => by rw [tk_u2_ne (by decide), tk_u2_ne (by decide), tk_u2_ne (by decide), tk_u1_same]; exact if_pos hj) (by rw [tk_u2_0 (by decide), tk_u2_0 (by decide), tk_u2_1]) (by rw [tk_u2_0 (by decide), tk_u2_1]) (by rw [tk_u2_1])
