/-! Run: who may come -/
set_option maxRecDepth 8000 in
theorem sr_hasCome {I : tkI} {J : tkJ} {R : Nat → Nat} {Q : tkQ} {T : Nat → Int32} (hT : ∀ j, j < 16 → I 2 0 1 j = T j) {m : Nat} (hm : m < 16) (hQ : Q (some (.inl (if T m = -9 then 0 else 1))) (I, J, R)) : tkDn tm_46 (0, [some (.inr (.inr (2, 0, 0))), some (.inl (nI m))], [], (I, J, R)) Q := by
  refine dn_run 5 (show (vp_in (nI m) 16) ∧ tkDn tm_46 (8, [some (.inr (.inr (2, 0, 0))), some (.inl (nI m))], [.inl (-9), .inl (I 2 0 1 ((nI m).toNatClampNeg))], (I, J, R)) _ from ⟨vp_in_nI (by omega) (by omega), ?_⟩)
  rw [nI_clamp (show m < 2 ^ 31 by omega), hT m hm]
  show tkDn tm_46 (8, [some (.inr (.inr (2, 0, 0))), some (.inl (nI m))], [.inl (-9), .inl (T m)], (I, J, R)) _
  refine dn_if rfl rfl rfl (fun (c : (T m) = (-9)) => ?_) (fun (c : ¬ (T m) = (-9)) => ?_)
  · show tkDn tm_46 (15, [some (.inr (.inr (2, 0, 0))), some (.inl (nI m))], [], (I, J, R)) _
    refine dn_run 1 (show tkDn tm_46 (16, [some (.inr (.inr (2, 0, 0))), some (.inl (nI m))], [.inl 0], (I, J, R)) _ from ?_)
    refine dn_retb rfl rfl rfl rfl (by decide) ?_
    rw [if_pos c] at hQ; exact hQ
  · show tkDn tm_46 (11, [some (.inr (.inr (2, 0, 0))), some (.inl (nI m))], [], (I, J, R)) _
    refine dn_run 2 (show tkDn tm_46 (16, [some (.inr (.inr (2, 0, 0))), some (.inl (nI m))], [.inl 1], (I, J, R)) _ from ?_)
    refine dn_retb rfl rfl rfl rfl (by decide) ?_
    rw [if_neg c] at hQ; exact hQ
set_option maxRecDepth 8000 in
theorem sr_isOpen {I : tkI} {J : tkJ} {R : Nat → Nat} {Q : tkQ} {T : Nat → Int32} (hT : ∀ j, j < 16 → I 2 0 1 j = T j) {b : Nat} {S : tkS} (hP : NetP (I 1 b) S) (w : WF S) {m : Nat} (hm : m < 16) (hQ : Q (some (.inl (if opn S T m then 1 else 0))) (I, J, R)) : tkDn tm_47 (0, [some (.inr (.inr (2, 0, 0))), some (.inr (.inr (1, b, 0))), some (.inl (nI m))], [], (I, J, R)) Q := by
  have hM16 := w.1
  have hL60 := w.2.1
  have hG6 := w.2.2.1
  refine dn_run 2 (show tkDn tm_47 (2, [some (.inr (.inr (2, 0, 0))), some (.inr (.inr (1, b, 0))), some (.inl (nI m))], [.inl (nI m), .inr (.inr (2, 0, 0))], (I, J, R)) _ from ?_)
  refine dn_call rfl rfl rfl rfl rfl (sr_hasCome hT (by omega) ?_)
  show tkDn tm_47 (5, [some (.inr (.inr (2, 0, 0))), some (.inr (.inr (1, b, 0))), some (.inl (nI m))], [.inl (if T m = -9 then 0 else 1)], (I, J, R)) _
  refine dn_if rfl rfl rfl (fun (c1 : ¬ (if T m = -9 then 0 else 1) = 0) => ?_) (fun (c1 : (if T m = -9 then 0 else 1) = 0) => ?_)
  · show tkDn tm_47 (20, [some (.inr (.inr (2, 0, 0))), some (.inr (.inr (1, b, 0))), some (.inl (nI m))], [], (I, J, R)) _
    refine dn_run 1 (show tkDn tm_47 (21, [some (.inr (.inr (2, 0, 0))), some (.inr (.inr (1, b, 0))), some (.inl (nI m))], [.inl 0], (I, J, R)) _ from ?_)
    refine dn_retb rfl rfl rfl rfl (by decide) ?_
    rw [if_neg (fun q => c1 (ite01.mpr q.1))] at hQ; exact hQ
  · show tkDn tm_47 (8, [some (.inr (.inr (2, 0, 0))), some (.inr (.inr (1, b, 0))), some (.inl (nI m))], [], (I, J, R)) _
    refine dn_run 2 (show tkDn tm_47 (10, [some (.inr (.inr (2, 0, 0))), some (.inr (.inr (1, b, 0))), some (.inl (nI m))], [.inl (nI m), .inr (.inr (1, b, 0))], (I, J, R)) _ from ?_)
    refine dn_call rfl rfl rfl rfl rfl (sn_isGiven hP w (by omega) ?_)
    show tkDn tm_47 (13, [some (.inr (.inr (2, 0, 0))), some (.inr (.inr (1, b, 0))), some (.inl (nI m))], [.inl (if gt S m < sG S then 1 else 0)], (I, J, R)) _
    refine dn_if rfl rfl rfl (fun (c2 : ¬ (if gt S m < sG S then 1 else 0) = 0) => ?_) (fun (c2 : (if gt S m < sG S then 1 else 0) = 0) => ?_)
    · show tkDn tm_47 (20, [some (.inr (.inr (2, 0, 0))), some (.inr (.inr (1, b, 0))), some (.inl (nI m))], [], (I, J, R)) _
      refine dn_run 1 (show tkDn tm_47 (21, [some (.inr (.inr (2, 0, 0))), some (.inr (.inr (1, b, 0))), some (.inl (nI m))], [.inl 0], (I, J, R)) _ from ?_)
      refine dn_retb rfl rfl rfl rfl (by decide) ?_
      rw [if_neg (fun q => q.2 (Classical.byContradiction fun t => c2 (ite10.mpr t)))] at hQ; exact hQ
    · show tkDn tm_47 (16, [some (.inr (.inr (2, 0, 0))), some (.inr (.inr (1, b, 0))), some (.inl (nI m))], [], (I, J, R)) _
      refine dn_run 2 (show tkDn tm_47 (21, [some (.inr (.inr (2, 0, 0))), some (.inr (.inr (1, b, 0))), some (.inl (nI m))], [.inl 1], (I, J, R)) _ from ?_)
      refine dn_retb rfl rfl rfl rfl (by decide) ?_
      rw [if_pos ⟨ite01.mp c1, ite10.mp c2⟩] at hQ; exact hQ
set_option maxRecDepth 8000 in
theorem sr_isUnderWay {I : tkI} {J : tkJ} {R : Nat → Nat} {Q : tkQ} {T : Nat → Int32} (hT : ∀ j, j < 16 → I 2 0 1 j = T j) {b : Nat} {S : tkS} (hP : NetP (I 1 b) S) (w : WF S) {g : Nat} (hg : g < sG S) (hQ : Q (some (.inl (if udw S T g then 1 else 0))) (I, J, R)) : tkDn tm_51 (0, [some (.inr (.inr (2, 0, 0))), some (.inr (.inr (1, b, 0))), some (.inl (nI g))], [], (I, J, R)) Q := by
  have hM16 := w.1
  have hL60 := w.2.1
  have hG6 := w.2.2.1
  have hf := w.fM (w.gl hg)
  have he_ := w.eM (w.gl hg)
  refine dn_run 3 (show tkDn tm_51 (3, [some (.inr (.inr (2, 0, 0))), some (.inr (.inr (1, b, 0))), some (.inl (nI g))], [.inl (nI g), .inr (.inr (1, b, 0)), .inr (.inr (2, 0, 0))], (I, J, R)) _ from ?_)
  refine dn_call rfl rfl rfl rfl rfl (sN_giftFrom hP w hg ?_)
  show tkDn tm_51 (6, [some (.inr (.inr (2, 0, 0))), some (.inr (.inr (1, b, 0))), some (.inl (nI g))], [.inl (nI (sf S (sgl S g))), .inr (.inr (2, 0, 0))], (I, J, R)) _
  refine dn_call rfl rfl rfl rfl rfl (sr_hasCome hT (by omega) ?_)
  show tkDn tm_51 (9, [some (.inr (.inr (2, 0, 0))), some (.inr (.inr (1, b, 0))), some (.inl (nI g))], [.inl (if T (sf S (sgl S g)) = -9 then 0 else 1)], (I, J, R)) _
  refine dn_if rfl rfl rfl (fun (c1 : (if T (sf S (sgl S g)) = -9 then 0 else 1) = 0) => ?_) (fun (c1 : ¬ (if T (sf S (sgl S g)) = -9 then 0 else 1) = 0) => ?_)
  · show tkDn tm_51 (28, [some (.inr (.inr (2, 0, 0))), some (.inr (.inr (1, b, 0))), some (.inl (nI g))], [], (I, J, R)) _
    refine dn_run 1 (show tkDn tm_51 (29, [some (.inr (.inr (2, 0, 0))), some (.inr (.inr (1, b, 0))), some (.inl (nI g))], [.inl 0], (I, J, R)) _ from ?_)
    refine dn_retb rfl rfl rfl rfl (by decide) ?_
    rw [if_neg (fun q => q.1 (ite01.mp c1))] at hQ; exact hQ
  · show tkDn tm_51 (12, [some (.inr (.inr (2, 0, 0))), some (.inr (.inr (1, b, 0))), some (.inl (nI g))], [], (I, J, R)) _
    refine dn_run 3 (show tkDn tm_51 (15, [some (.inr (.inr (2, 0, 0))), some (.inr (.inr (1, b, 0))), some (.inl (nI g))], [.inl (nI g), .inr (.inr (1, b, 0)), .inr (.inr (2, 0, 0))], (I, J, R)) _ from ?_)
    refine dn_call rfl rfl rfl rfl rfl (sN_giftTo hP w hg ?_)
    show tkDn tm_51 (18, [some (.inr (.inr (2, 0, 0))), some (.inr (.inr (1, b, 0))), some (.inl (nI g))], [.inl (nI (se S (sgl S g))), .inr (.inr (2, 0, 0))], (I, J, R)) _
    refine dn_call rfl rfl rfl rfl rfl (sr_hasCome hT (by omega) ?_)
    show tkDn tm_51 (21, [some (.inr (.inr (2, 0, 0))), some (.inr (.inr (1, b, 0))), some (.inl (nI g))], [.inl (if T (se S (sgl S g)) = -9 then 0 else 1)], (I, J, R)) _
    refine dn_if rfl rfl rfl (fun (c2 : ¬ (if T (se S (sgl S g)) = -9 then 0 else 1) = 0) => ?_) (fun (c2 : (if T (se S (sgl S g)) = -9 then 0 else 1) = 0) => ?_)
    · show tkDn tm_51 (28, [some (.inr (.inr (2, 0, 0))), some (.inr (.inr (1, b, 0))), some (.inl (nI g))], [], (I, J, R)) _
      refine dn_run 1 (show tkDn tm_51 (29, [some (.inr (.inr (2, 0, 0))), some (.inr (.inr (1, b, 0))), some (.inl (nI g))], [.inl 0], (I, J, R)) _ from ?_)
      refine dn_retb rfl rfl rfl rfl (by decide) ?_
      rw [if_neg (fun q => c2 (ite01.mpr q.2))] at hQ; exact hQ
    · show tkDn tm_51 (24, [some (.inr (.inr (2, 0, 0))), some (.inr (.inr (1, b, 0))), some (.inl (nI g))], [], (I, J, R)) _
      refine dn_run 2 (show tkDn tm_51 (29, [some (.inr (.inr (2, 0, 0))), some (.inr (.inr (1, b, 0))), some (.inl (nI g))], [.inl 1], (I, J, R)) _ from ?_)
      refine dn_retb rfl rfl rfl rfl (by decide) ?_
      rw [if_pos ⟨fun z => c1 (ite01.mpr z), ite01.mp c2⟩] at hQ; exact hQ
set_option maxRecDepth 8000 in
theorem sr_eE_loop {I : tkI} {J : tkJ} {R : Nat → Nat} {Q : tkQ} {T : Nat → Int32} (hT : ∀ j, j < 16 → I 2 0 1 j = T j) {b : Nat} {S : tkS} (hP : NetP (I 1 b) S) (w : WF S) {e v : tkD} (he : RowP 16 (J 4 0 1) e) (hv : WRow (J 4 0 4) v) {m : Nat} (hm : m < sM S) (hQ : Q (some (.inr (.inl ((blE e T m (sM S) 0 0).getD 4611686018427387904)))) (I, J, R)) : ∀ n c (a : Int64) (o7 : Option tkV), c + n = sM S → blE e T m n c a = blE e T m (sM S) 0 0 → tkDn tm_57 (6, [some (.inr (.inr (2, 0, 0))), some (.inr (.inr (1, b, 0))), some (.inr (.inr (4, 0, 0))), some (.inl (nI m)), some (.inr (.inl a)), none, some (.inl (nI c)), o7, none], [], (I, J, R)) Q := by
  have hM16 := w.1
  have hL60 := w.2.1
  have hG6 := w.2.2.1
  intro n
  induction n with
  | zero =>
    intro c a o7 hc h
    show tkDn tm_57 (6, [some (.inr (.inr (2, 0, 0))), some (.inr (.inr (1, b, 0))), some (.inr (.inr (4, 0, 0))), some (.inl (nI m)), some (.inr (.inl a)), none, some (.inl (nI c)), o7, none], [], (I, J, R)) _
    refine dn_run 2 (show tkDn tm_57 (9, [some (.inr (.inr (2, 0, 0))), some (.inr (.inr (1, b, 0))), some (.inr (.inr (4, 0, 0))), some (.inl (nI m)), some (.inr (.inl a)), none, some (.inl (nI c)), o7, none], [.inr (.inr (1, b, 0)), .inl (nI c)], (I, J, R)) _ from ?_)
    refine dn_call rfl rfl rfl rfl rfl (sN_momentCount hP ?_)
    show tkDn tm_57 (12, [some (.inr (.inr (2, 0, 0))), some (.inr (.inr (1, b, 0))), some (.inr (.inr (4, 0, 0))), some (.inl (nI m)), some (.inr (.inl a)), none, some (.inl (nI c)), o7, none], [.inl (nI (sM S)), .inl (nI c)], (I, J, R)) _
    refine dn_if rfl rfl rfl (fun (c0 : (nI (sM S)) ≤ (nI c)) => ?_) (fun (c0 : ¬ (nI (sM S)) ≤ (nI c)) => ?_)
    · show tkDn tm_57 (89, [some (.inr (.inr (2, 0, 0))), some (.inr (.inr (1, b, 0))), some (.inr (.inr (4, 0, 0))), some (.inl (nI m)), some (.inr (.inl a)), none, some (.inl (nI c)), o7, none], [], (I, J, R)) _
      refine dn_run 1 (show tkDn tm_57 (91, [some (.inr (.inr (2, 0, 0))), some (.inr (.inr (1, b, 0))), some (.inr (.inr (4, 0, 0))), some (.inl (nI m)), some (.inr (.inl a)), none, some (.inl (nI c)), o7, none], [.inr (.inl a)], (I, J, R)) _ from ?_)
      refine dn_ret0 rfl rfl rfl rfl ?_
      rw [← (show blE e T m 0 c a = some a from rfl).symm.trans h] at hQ
      exact hQ
    · exact absurd (nI_le (by omega) (by omega)) c0
  | succ n ih =>
    intro c a o7 hc h
    show tkDn tm_57 (6, [some (.inr (.inr (2, 0, 0))), some (.inr (.inr (1, b, 0))), some (.inr (.inr (4, 0, 0))), some (.inl (nI m)), some (.inr (.inl a)), none, some (.inl (nI c)), o7, none], [], (I, J, R)) _
    refine dn_run 2 (show tkDn tm_57 (9, [some (.inr (.inr (2, 0, 0))), some (.inr (.inr (1, b, 0))), some (.inr (.inr (4, 0, 0))), some (.inl (nI m)), some (.inr (.inl a)), none, some (.inl (nI c)), o7, none], [.inr (.inr (1, b, 0)), .inl (nI c)], (I, J, R)) _ from ?_)
    refine dn_call rfl rfl rfl rfl rfl (sN_momentCount hP ?_)
    show tkDn tm_57 (12, [some (.inr (.inr (2, 0, 0))), some (.inr (.inr (1, b, 0))), some (.inr (.inr (4, 0, 0))), some (.inl (nI m)), some (.inr (.inl a)), none, some (.inl (nI c)), o7, none], [.inl (nI (sM S)), .inl (nI c)], (I, J, R)) _
    refine dn_if rfl rfl rfl (fun (c0 : (nI (sM S)) ≤ (nI c)) => ?_) (fun (c0 : ¬ (nI (sM S)) ≤ (nI c)) => ?_)
    · exact absurd c0 (nI_ge (by omega) (by omega))
    · show tkDn tm_57 (15, [some (.inr (.inr (2, 0, 0))), some (.inr (.inr (1, b, 0))), some (.inr (.inr (4, 0, 0))), some (.inl (nI m)), some (.inr (.inl a)), none, some (.inl (nI c)), o7, none], [], (I, J, R)) _
      refine dn_run 3 (show tkDn tm_57 (19, [some (.inr (.inr (2, 0, 0))), some (.inr (.inr (1, b, 0))), some (.inr (.inr (4, 0, 0))), some (.inl (nI m)), some (.inr (.inl a)), none, some (.inl (nI c)), o7, none], [.inl (nI c), .inl (nI m), .inr (.inr (4, 0, 0))], (I, J, R)) _ from ?_)
      refine dn_call rfl rfl rfl rfl rfl (sw_edgeOf he (by omega) (by omega) ?_)
      show tkDn tm_57 (22, [some (.inr (.inr (2, 0, 0))), some (.inr (.inr (1, b, 0))), some (.inr (.inr (4, 0, 0))), some (.inl (nI m)), some (.inr (.inl a)), none, some (.inl (nI c)), o7, none], [.inr (.inl (e m c))], (I, J, R)) _
      refine dn_run 3 (show tkDn tm_57 (27, [some (.inr (.inr (2, 0, 0))), some (.inr (.inr (1, b, 0))), some (.inr (.inr (4, 0, 0))), some (.inl (nI m)), some (.inr (.inl a)), none, some (.inl (nI c)), some (.inr (.inl (e m c))), none], [.inl (nI m), .inl (nI c)], (I, J, R)) _ from ?_)
      refine dn_if rfl rfl rfl (fun (c1 : (nI c) = (nI m)) => ?_) (fun (c1 : ¬ (nI c) = (nI m)) => ?_)
      · show tkDn tm_57 (83, [some (.inr (.inr (2, 0, 0))), some (.inr (.inr (1, b, 0))), some (.inr (.inr (4, 0, 0))), some (.inl (nI m)), some (.inr (.inl a)), none, some (.inl (nI c)), some (.inr (.inl (e m c))), none], [], (I, J, R)) _
        refine dn_run 2 (show tkDn tm_57 (6, [some (.inr (.inr (2, 0, 0))), some (.inr (.inr (1, b, 0))), some (.inr (.inr (4, 0, 0))), some (.inl (nI m)), some (.inr (.inl a)), none, some (.inl ((nI c) + 1)), some (.inr (.inl (e m c))), none], [], (I, J, R)) _ from ?_)
        rw [nI_1]
        exact ih (c + 1) a _ (by omega) ((show blE e T m (n + 1) c a = blE e T m n (c + 1) a from if_pos (Or.inl ((nI_eq (by omega) (by omega)).mp c1))).symm.trans h)
      · show tkDn tm_57 (30, [some (.inr (.inr (2, 0, 0))), some (.inr (.inr (1, b, 0))), some (.inr (.inr (4, 0, 0))), some (.inl (nI m)), some (.inr (.inl a)), none, some (.inl (nI c)), some (.inr (.inl (e m c))), none], [], (I, J, R)) _
        refine dn_run 3 (show tkDn tm_57 (36, [some (.inr (.inr (2, 0, 0))), some (.inr (.inr (1, b, 0))), some (.inr (.inr (4, 0, 0))), some (.inl (nI m)), some (.inr (.inl a)), none, some (.inl (nI c)), some (.inr (.inl (e m c))), none], [.inl (lg_cmp (e m c) 4611686018427387904)], (I, J, R)) _ from ?_)
        refine dn_if rfl rfl rfl (fun (c2 : ¬ (lg_cmp (e m c) 4611686018427387904) = 0) => ?_) (fun (c2 : (lg_cmp (e m c) 4611686018427387904) = 0) => ?_)
        · show tkDn tm_57 (42, [some (.inr (.inr (2, 0, 0))), some (.inr (.inr (1, b, 0))), some (.inr (.inr (4, 0, 0))), some (.inl (nI m)), some (.inr (.inl a)), none, some (.inl (nI c)), some (.inr (.inl (e m c))), none], [], (I, J, R)) _
          refine dn_run 2 (show tkDn tm_57 (45, [some (.inr (.inr (2, 0, 0))), some (.inr (.inr (1, b, 0))), some (.inr (.inr (4, 0, 0))), some (.inl (nI m)), some (.inr (.inl a)), none, some (.inl (nI c)), some (.inr (.inl (e m c))), none], [.inl (nI c), .inr (.inr (2, 0, 0))], (I, J, R)) _ from ?_)
          refine dn_call rfl rfl rfl rfl rfl (sr_hasCome hT (by omega) ?_)
          show tkDn tm_57 (48, [some (.inr (.inr (2, 0, 0))), some (.inr (.inr (1, b, 0))), some (.inr (.inr (4, 0, 0))), some (.inl (nI m)), some (.inr (.inl a)), none, some (.inl (nI c)), some (.inr (.inl (e m c))), none], [.inl (if T c = -9 then 0 else 1)], (I, J, R)) _
          refine dn_if rfl rfl rfl (fun (c3 : (if T c = -9 then 0 else 1) = 0) => ?_) (fun (c3 : ¬ (if T c = -9 then 0 else 1) = 0) => ?_)
          · show tkDn tm_57 (72, [some (.inr (.inr (2, 0, 0))), some (.inr (.inr (1, b, 0))), some (.inr (.inr (4, 0, 0))), some (.inl (nI m)), some (.inr (.inl a)), none, some (.inl (nI c)), some (.inr (.inl (e m c))), none], [], (I, J, R)) _
            refine dn_run 3 (show tkDn tm_57 (76, [some (.inr (.inr (2, 0, 0))), some (.inr (.inr (1, b, 0))), some (.inr (.inr (4, 0, 0))), some (.inl (nI m)), some (.inr (.inl a)), none, some (.inl (nI c)), some (.inr (.inl (e m c))), none], [.inl (lg_cmp (e m c) 0)], (I, J, R)) _ from ?_)
            refine dn_if rfl rfl rfl (fun (c4 : 0 ≤ (lg_cmp (e m c) 0)) => ?_) (fun (c4 : ¬ 0 ≤ (lg_cmp (e m c) 0)) => ?_)
            · show tkDn tm_57 (83, [some (.inr (.inr (2, 0, 0))), some (.inr (.inr (1, b, 0))), some (.inr (.inr (4, 0, 0))), some (.inl (nI m)), some (.inr (.inl a)), none, some (.inl (nI c)), some (.inr (.inl (e m c))), none], [], (I, J, R)) _
              refine dn_run 2 (show tkDn tm_57 (6, [some (.inr (.inr (2, 0, 0))), some (.inr (.inr (1, b, 0))), some (.inr (.inr (4, 0, 0))), some (.inl (nI m)), some (.inr (.inl a)), none, some (.inl ((nI c) + 1)), some (.inr (.inl (e m c))), none], [], (I, J, R)) _ from ?_)
              rw [nI_1]
              exact ih (c + 1) a _ (by omega) ((show blE e T m (n + 1) c a = blE e T m n (c + 1) a from (if_neg (fun q => q.elim (fun q => c1 (by rw [q])) (fun q => c2 ((lg_cmp_eq _ _).mpr q)))).trans ((if_pos (ite01.mp c3)).trans (if_neg (Int64.not_lt.mpr ((lg_cmp_ge _ _).mp c4))))).symm.trans h)
            · show tkDn tm_57 (79, [some (.inr (.inr (2, 0, 0))), some (.inr (.inr (1, b, 0))), some (.inr (.inr (4, 0, 0))), some (.inl (nI m)), some (.inr (.inl a)), none, some (.inl (nI c)), some (.inr (.inl (e m c))), none], [], (I, J, R)) _
              refine dn_run 1 (show tkDn tm_57 (82, [some (.inr (.inr (2, 0, 0))), some (.inr (.inr (1, b, 0))), some (.inr (.inr (4, 0, 0))), some (.inl (nI m)), some (.inr (.inl a)), none, some (.inl (nI c)), some (.inr (.inl (e m c))), none], [.inr (.inl 4611686018427387904)], (I, J, R)) _ from ?_)
              refine dn_ret0 rfl rfl rfl rfl ?_
              rw [← (show blE e T m (n + 1) c a = none from (if_neg (fun q => q.elim (fun q => c1 (by rw [q])) (fun q => c2 ((lg_cmp_eq _ _).mpr q)))).trans ((if_pos (ite01.mp c3)).trans (if_pos (Int64.not_le.mp (fun q => c4 ((lg_cmp_ge _ _).mpr q))))) ).symm.trans h] at hQ
              exact hQ
          · show tkDn tm_57 (51, [some (.inr (.inr (2, 0, 0))), some (.inr (.inr (1, b, 0))), some (.inr (.inr (4, 0, 0))), some (.inl (nI m)), some (.inr (.inl a)), none, some (.inl (nI c)), some (.inr (.inl (e m c))), none], [], (I, J, R)) _
            refine dn_run 13 (show (vp_in (nI c) 16) ∧ tkDn tm_57 (6, [some (.inr (.inr (2, 0, 0))), some (.inr (.inr (1, b, 0))), some (.inr (.inr (4, 0, 0))), some (.inl (nI m)), some (.inr (.inl (if ((((I 2 0 1 ((nI c).toNatClampNeg)) : Int32).toInt64) - (e m c)) < a then a else ((((I 2 0 1 ((nI c).toNatClampNeg)) : Int32).toInt64) - (e m c))))), none, some (.inl ((nI c) + 1)), some (.inr (.inl (e m c))), none], [], (I, J, R)) _ from ⟨vp_in_nI (by omega) (by omega), ?_⟩)
            rw [nI_1, nI_clamp (show c < 2 ^ 31 by omega), hT c (by omega)]
            exact ih (c + 1) (mx a ((T c).toInt64 - e m c)) _ (by omega) ((show blE e T m (n + 1) c a = blE e T m n (c + 1) (mx a ((T c).toInt64 - e m c)) from (if_neg (fun q => q.elim (fun q => c1 (by rw [q])) (fun q => c2 ((lg_cmp_eq _ _).mpr q)))).trans (if_neg (fun q => c3 (ite01.mpr q)))).symm.trans h)
        · show tkDn tm_57 (39, [some (.inr (.inr (2, 0, 0))), some (.inr (.inr (1, b, 0))), some (.inr (.inr (4, 0, 0))), some (.inl (nI m)), some (.inr (.inl a)), none, some (.inl (nI c)), some (.inr (.inl (e m c))), none], [], (I, J, R)) _
          refine dn_run 3 (show tkDn tm_57 (6, [some (.inr (.inr (2, 0, 0))), some (.inr (.inr (1, b, 0))), some (.inr (.inr (4, 0, 0))), some (.inl (nI m)), some (.inr (.inl a)), none, some (.inl ((nI c) + 1)), some (.inr (.inl (e m c))), none], [], (I, J, R)) _ from ?_)
          rw [nI_1]
          exact ih (c + 1) a _ (by omega) ((show blE e T m (n + 1) c a = blE e T m n (c + 1) a from if_pos (Or.inr ((lg_cmp_eq _ _).mp c2))).symm.trans h)
set_option maxRecDepth 8000 in
theorem sr_earliestByEdges {I : tkI} {J : tkJ} {R : Nat → Nat} {Q : tkQ} {T : Nat → Int32} (hT : ∀ j, j < 16 → I 2 0 1 j = T j) {b : Nat} {S : tkS} (hP : NetP (I 1 b) S) (w : WF S) {e v : tkD} (he : RowP 16 (J 4 0 1) e) (hv : WRow (J 4 0 4) v) {m : Nat} (hm : m < sM S) (hQ : Q (some (.inr (.inl ((blE e T m (sM S) 0 0).getD 4611686018427387904)))) (I, J, R)) : tkDn tm_57 (0, [some (.inr (.inr (2, 0, 0))), some (.inr (.inr (1, b, 0))), some (.inr (.inr (4, 0, 0))), some (.inl (nI m)), none, none, none, none, none], [], (I, J, R)) Q := by
  refine dn_run 4 (show tkDn tm_57 (6, [some (.inr (.inr (2, 0, 0))), some (.inr (.inr (1, b, 0))), some (.inr (.inr (4, 0, 0))), some (.inl (nI m)), some (.inr (.inl 0)), none, some (.inl 0), none, none], [], (I, J, R)) _ from ?_)
  exact sr_eE_loop hT hP w he hv hm hQ (sM S) 0 0 none (Nat.zero_add _) rfl
set_option maxRecDepth 8000 in
theorem sr_eW_loop {I : tkI} {J : tkJ} {R : Nat → Nat} {Q : tkQ} {T : Nat → Int32} (hT : ∀ j, j < 16 → I 2 0 1 j = T j) {b : Nat} {S : tkS} (hP : NetP (I 1 b) S) (w : WF S) {e v : tkD} (he : RowP 16 (J 4 0 1) e) (hv : WRow (J 4 0 4) v) {m : Nat} (hm : m < sM S) (hQ : Q (some (.inr (.inl ((blW S v T m (sG S) 0 0).getD 4611686018427387904)))) (I, J, R)) : ∀ n c (a : Int64) (o7 : Option tkV), c + n = sG S → blW S v T m n c a = blW S v T m (sG S) 0 0 → tkDn tm_58 (6, [some (.inr (.inr (2, 0, 0))), some (.inr (.inr (1, b, 0))), some (.inr (.inr (4, 0, 0))), some (.inl (nI m)), some (.inr (.inl a)), none, some (.inl (nI c)), o7, none], [], (I, J, R)) Q := by
  have hM16 := w.1
  have hL60 := w.2.1
  have hG6 := w.2.2.1
  intro n
  induction n with
  | zero =>
    intro c a o7 hc h
    show tkDn tm_58 (6, [some (.inr (.inr (2, 0, 0))), some (.inr (.inr (1, b, 0))), some (.inr (.inr (4, 0, 0))), some (.inl (nI m)), some (.inr (.inl a)), none, some (.inl (nI c)), o7, none], [], (I, J, R)) _
    refine dn_run 2 (show tkDn tm_58 (9, [some (.inr (.inr (2, 0, 0))), some (.inr (.inr (1, b, 0))), some (.inr (.inr (4, 0, 0))), some (.inl (nI m)), some (.inr (.inl a)), none, some (.inl (nI c)), o7, none], [.inr (.inr (1, b, 0)), .inl (nI c)], (I, J, R)) _ from ?_)
    refine dn_call rfl rfl rfl rfl rfl (sN_giftCount hP ?_)
    show tkDn tm_58 (12, [some (.inr (.inr (2, 0, 0))), some (.inr (.inr (1, b, 0))), some (.inr (.inr (4, 0, 0))), some (.inl (nI m)), some (.inr (.inl a)), none, some (.inl (nI c)), o7, none], [.inl (nI (sG S)), .inl (nI c)], (I, J, R)) _
    refine dn_if rfl rfl rfl (fun (c0 : (nI (sG S)) ≤ (nI c)) => ?_) (fun (c0 : ¬ (nI (sG S)) ≤ (nI c)) => ?_)
    · show tkDn tm_58 (92, [some (.inr (.inr (2, 0, 0))), some (.inr (.inr (1, b, 0))), some (.inr (.inr (4, 0, 0))), some (.inl (nI m)), some (.inr (.inl a)), none, some (.inl (nI c)), o7, none], [], (I, J, R)) _
      refine dn_run 1 (show tkDn tm_58 (94, [some (.inr (.inr (2, 0, 0))), some (.inr (.inr (1, b, 0))), some (.inr (.inr (4, 0, 0))), some (.inl (nI m)), some (.inr (.inl a)), none, some (.inl (nI c)), o7, none], [.inr (.inl a)], (I, J, R)) _ from ?_)
      refine dn_ret0 rfl rfl rfl rfl ?_
      rw [← (show blW S v T m 0 c a = some a from rfl).symm.trans h] at hQ
      exact hQ
    · exact absurd (nI_le (by omega) (by omega)) c0
  | succ n ih =>
    intro c a o7 hc h
    show tkDn tm_58 (6, [some (.inr (.inr (2, 0, 0))), some (.inr (.inr (1, b, 0))), some (.inr (.inr (4, 0, 0))), some (.inl (nI m)), some (.inr (.inl a)), none, some (.inl (nI c)), o7, none], [], (I, J, R)) _
    refine dn_run 2 (show tkDn tm_58 (9, [some (.inr (.inr (2, 0, 0))), some (.inr (.inr (1, b, 0))), some (.inr (.inr (4, 0, 0))), some (.inl (nI m)), some (.inr (.inl a)), none, some (.inl (nI c)), o7, none], [.inr (.inr (1, b, 0)), .inl (nI c)], (I, J, R)) _ from ?_)
    refine dn_call rfl rfl rfl rfl rfl (sN_giftCount hP ?_)
    show tkDn tm_58 (12, [some (.inr (.inr (2, 0, 0))), some (.inr (.inr (1, b, 0))), some (.inr (.inr (4, 0, 0))), some (.inl (nI m)), some (.inr (.inl a)), none, some (.inl (nI c)), o7, none], [.inl (nI (sG S)), .inl (nI c)], (I, J, R)) _
    refine dn_if rfl rfl rfl (fun (c0 : (nI (sG S)) ≤ (nI c)) => ?_) (fun (c0 : ¬ (nI (sG S)) ≤ (nI c)) => ?_)
    · exact absurd c0 (nI_ge (by omega) (by omega))
    · show tkDn tm_58 (15, [some (.inr (.inr (2, 0, 0))), some (.inr (.inr (1, b, 0))), some (.inr (.inr (4, 0, 0))), some (.inl (nI m)), some (.inr (.inl a)), none, some (.inl (nI c)), o7, none], [], (I, J, R)) _
      have hg : c < sG S := by omega
      have hf := w.fM (w.gl hg)
      have he_ := w.eM (w.gl hg)
      refine dn_run 3 (show tkDn tm_58 (19, [some (.inr (.inr (2, 0, 0))), some (.inr (.inr (1, b, 0))), some (.inr (.inr (4, 0, 0))), some (.inl (nI m)), some (.inr (.inl a)), none, some (.inl (nI c)), o7, none], [.inl (nI c), .inl (nI m), .inr (.inr (4, 0, 0))], (I, J, R)) _ from ?_)
      refine dn_call rfl rfl rfl rfl rfl (sw_waitOf hv (by omega) (by omega) ?_)
      show tkDn tm_58 (22, [some (.inr (.inr (2, 0, 0))), some (.inr (.inr (1, b, 0))), some (.inr (.inr (4, 0, 0))), some (.inl (nI m)), some (.inr (.inl a)), none, some (.inl (nI c)), o7, none], [.inr (.inl (v m c))], (I, J, R)) _
      refine dn_run 4 (show tkDn tm_58 (28, [some (.inr (.inr (2, 0, 0))), some (.inr (.inr (1, b, 0))), some (.inr (.inr (4, 0, 0))), some (.inl (nI m)), some (.inr (.inl a)), none, some (.inl (nI c)), some (.inr (.inl (v m c))), none], [.inl (lg_cmp (v m c) 0)], (I, J, R)) _ from ?_)
      refine dn_if rfl rfl rfl (fun (c1 : 0 ≤ (lg_cmp (v m c) 0)) => ?_) (fun (c1 : ¬ 0 ≤ (lg_cmp (v m c) 0)) => ?_)
      · show tkDn tm_58 (86, [some (.inr (.inr (2, 0, 0))), some (.inr (.inr (1, b, 0))), some (.inr (.inr (4, 0, 0))), some (.inl (nI m)), some (.inr (.inl a)), none, some (.inl (nI c)), some (.inr (.inl (v m c))), none], [], (I, J, R)) _
        refine dn_run 2 (show tkDn tm_58 (6, [some (.inr (.inr (2, 0, 0))), some (.inr (.inr (1, b, 0))), some (.inr (.inr (4, 0, 0))), some (.inl (nI m)), some (.inr (.inl a)), none, some (.inl ((nI c) + 1)), some (.inr (.inl (v m c))), none], [], (I, J, R)) _ from ?_)
        rw [nI_1]
        exact ih (c + 1) a _ (by omega) ((show blW S v T m (n + 1) c a = blW S v T m n (c + 1) a from if_pos (Or.inl ((lg_cmp_ge _ _).mp c1))).symm.trans h)
      · show tkDn tm_58 (31, [some (.inr (.inr (2, 0, 0))), some (.inr (.inr (1, b, 0))), some (.inr (.inr (4, 0, 0))), some (.inl (nI m)), some (.inr (.inl a)), none, some (.inl (nI c)), some (.inr (.inl (v m c))), none], [], (I, J, R)) _
        refine dn_run 3 (show tkDn tm_58 (35, [some (.inr (.inr (2, 0, 0))), some (.inr (.inr (1, b, 0))), some (.inr (.inr (4, 0, 0))), some (.inl (nI m)), some (.inr (.inl a)), none, some (.inl (nI c)), some (.inr (.inl (v m c))), none], [.inl (nI c), .inr (.inr (1, b, 0)), .inr (.inr (2, 0, 0))], (I, J, R)) _ from ?_)
        refine dn_call rfl rfl rfl rfl rfl (sN_giftTo hP w hg ?_)
        show tkDn tm_58 (38, [some (.inr (.inr (2, 0, 0))), some (.inr (.inr (1, b, 0))), some (.inr (.inr (4, 0, 0))), some (.inl (nI m)), some (.inr (.inl a)), none, some (.inl (nI c)), some (.inr (.inl (v m c))), none], [.inl (nI (se S (sgl S c))), .inr (.inr (2, 0, 0))], (I, J, R)) _
        refine dn_call rfl rfl rfl rfl rfl (sr_hasCome hT (by omega) ?_)
        show tkDn tm_58 (41, [some (.inr (.inr (2, 0, 0))), some (.inr (.inr (1, b, 0))), some (.inr (.inr (4, 0, 0))), some (.inl (nI m)), some (.inr (.inl a)), none, some (.inl (nI c)), some (.inr (.inl (v m c))), none], [.inl (if T (se S (sgl S c)) = -9 then 0 else 1)], (I, J, R)) _
        refine dn_if rfl rfl rfl (fun (c2 : (if T (se S (sgl S c)) = -9 then 0 else 1) = 0) => ?_) (fun (c2 : ¬ (if T (se S (sgl S c)) = -9 then 0 else 1) = 0) => ?_)
        · show tkDn tm_58 (47, [some (.inr (.inr (2, 0, 0))), some (.inr (.inr (1, b, 0))), some (.inr (.inr (4, 0, 0))), some (.inl (nI m)), some (.inr (.inl a)), none, some (.inl (nI c)), some (.inr (.inl (v m c))), none], [], (I, J, R)) _
          refine dn_run 3 (show tkDn tm_58 (51, [some (.inr (.inr (2, 0, 0))), some (.inr (.inr (1, b, 0))), some (.inr (.inr (4, 0, 0))), some (.inl (nI m)), some (.inr (.inl a)), none, some (.inl (nI c)), some (.inr (.inl (v m c))), none], [.inl (nI c), .inr (.inr (1, b, 0)), .inr (.inr (2, 0, 0))], (I, J, R)) _ from ?_)
          refine dn_call rfl rfl rfl rfl rfl (sN_giftFrom hP w hg ?_)
          show tkDn tm_58 (54, [some (.inr (.inr (2, 0, 0))), some (.inr (.inr (1, b, 0))), some (.inr (.inr (4, 0, 0))), some (.inl (nI m)), some (.inr (.inl a)), none, some (.inl (nI c)), some (.inr (.inl (v m c))), none], [.inl (nI (sf S (sgl S c))), .inr (.inr (2, 0, 0))], (I, J, R)) _
          refine dn_call rfl rfl rfl rfl rfl (sr_hasCome hT (by omega) ?_)
          show tkDn tm_58 (57, [some (.inr (.inr (2, 0, 0))), some (.inr (.inr (1, b, 0))), some (.inr (.inr (4, 0, 0))), some (.inl (nI m)), some (.inr (.inl a)), none, some (.inl (nI c)), some (.inr (.inl (v m c))), none], [.inl (if T (sf S (sgl S c)) = -9 then 0 else 1)], (I, J, R)) _
          refine dn_if rfl rfl rfl (fun (c3 : ¬ (if T (sf S (sgl S c)) = -9 then 0 else 1) = 0) => ?_) (fun (c3 : (if T (sf S (sgl S c)) = -9 then 0 else 1) = 0) => ?_)
          · show tkDn tm_58 (64, [some (.inr (.inr (2, 0, 0))), some (.inr (.inr (1, b, 0))), some (.inr (.inr (4, 0, 0))), some (.inl (nI m)), some (.inr (.inl a)), none, some (.inl (nI c)), some (.inr (.inl (v m c))), none], [], (I, J, R)) _
            refine dn_run 5 (show tkDn tm_58 (73, [some (.inr (.inr (2, 0, 0))), some (.inr (.inr (1, b, 0))), some (.inr (.inr (4, 0, 0))), some (.inl (nI m)), some (.inr (.inl a)), none, some (.inl (nI c)), some (.inr (.inl (v m c))), none], [.inl (nI c), .inr (.inr (1, b, 0)), .inr (.inr (2, 0, 1)), .inr (.inl a)], (I, J, R)) _ from ?_)
            refine dn_call rfl rfl rfl rfl rfl (sN_giftFrom hP w hg ?_)
            show tkDn tm_58 (76, [some (.inr (.inr (2, 0, 0))), some (.inr (.inr (1, b, 0))), some (.inr (.inr (4, 0, 0))), some (.inl (nI m)), some (.inr (.inl a)), none, some (.inl (nI c)), some (.inr (.inl (v m c))), none], [.inl (nI (sf S (sgl S c))), .inr (.inr (2, 0, 1)), .inr (.inl a)], (I, J, R)) _
            refine dn_run 8 (show (vp_in (nI (sf S (sgl S c))) 16) ∧ tkDn tm_58 (6, [some (.inr (.inr (2, 0, 0))), some (.inr (.inr (1, b, 0))), some (.inr (.inr (4, 0, 0))), some (.inl (nI m)), some (.inr (.inl (if ((((I 2 0 1 ((nI (sf S (sgl S c))).toNatClampNeg)) : Int32).toInt64) - (v m c)) < a then a else ((((I 2 0 1 ((nI (sf S (sgl S c))).toNatClampNeg)) : Int32).toInt64) - (v m c))))), none, some (.inl ((nI c) + 1)), some (.inr (.inl (v m c))), none], [], (I, J, R)) _ from ⟨vp_in_nI (by omega) (by omega), ?_⟩)
            rw [nI_1, nI_clamp (show sf S (sgl S c) < 2 ^ 31 by omega), hT (sf S (sgl S c)) (by omega)]
            exact ih (c + 1) (mx a ((T (sf S (sgl S c))).toInt64 - v m c)) _ (by omega) ((show blW S v T m (n + 1) c a = blW S v T m n (c + 1) (mx a ((T (sf S (sgl S c))).toInt64 - v m c)) from (if_neg (fun q => q.elim (fun q => c1 ((lg_cmp_ge _ _).mpr q)) (fun q => q (ite01.mp c2)))).trans (if_neg (fun q => c3 (ite01.mpr q)))).symm.trans h)
          · show tkDn tm_58 (60, [some (.inr (.inr (2, 0, 0))), some (.inr (.inr (1, b, 0))), some (.inr (.inr (4, 0, 0))), some (.inl (nI m)), some (.inr (.inl a)), none, some (.inl (nI c)), some (.inr (.inl (v m c))), none], [], (I, J, R)) _
            refine dn_run 1 (show tkDn tm_58 (63, [some (.inr (.inr (2, 0, 0))), some (.inr (.inr (1, b, 0))), some (.inr (.inr (4, 0, 0))), some (.inl (nI m)), some (.inr (.inl a)), none, some (.inl (nI c)), some (.inr (.inl (v m c))), none], [.inr (.inl 4611686018427387904)], (I, J, R)) _ from ?_)
            refine dn_ret0 rfl rfl rfl rfl ?_
            rw [← (show blW S v T m (n + 1) c a = none from (if_neg (fun q => q.elim (fun q => c1 ((lg_cmp_ge _ _).mpr q)) (fun q => q (ite01.mp c2)))).trans (if_pos (ite01.mp c3))).symm.trans h] at hQ
            exact hQ
        · show tkDn tm_58 (44, [some (.inr (.inr (2, 0, 0))), some (.inr (.inr (1, b, 0))), some (.inr (.inr (4, 0, 0))), some (.inl (nI m)), some (.inr (.inl a)), none, some (.inl (nI c)), some (.inr (.inl (v m c))), none], [], (I, J, R)) _
          refine dn_run 3 (show tkDn tm_58 (6, [some (.inr (.inr (2, 0, 0))), some (.inr (.inr (1, b, 0))), some (.inr (.inr (4, 0, 0))), some (.inl (nI m)), some (.inr (.inl a)), none, some (.inl ((nI c) + 1)), some (.inr (.inl (v m c))), none], [], (I, J, R)) _ from ?_)
          rw [nI_1]
          exact ih (c + 1) a _ (by omega) ((show blW S v T m (n + 1) c a = blW S v T m n (c + 1) a from if_pos (Or.inr (fun q => c2 (ite01.mpr q)))).symm.trans h)
set_option maxRecDepth 8000 in
theorem sr_earliestByWaits {I : tkI} {J : tkJ} {R : Nat → Nat} {Q : tkQ} {T : Nat → Int32} (hT : ∀ j, j < 16 → I 2 0 1 j = T j) {b : Nat} {S : tkS} (hP : NetP (I 1 b) S) (w : WF S) {e v : tkD} (he : RowP 16 (J 4 0 1) e) (hv : WRow (J 4 0 4) v) {m : Nat} (hm : m < sM S) (hQ : Q (some (.inr (.inl ((blW S v T m (sG S) 0 0).getD 4611686018427387904)))) (I, J, R)) : tkDn tm_58 (0, [some (.inr (.inr (2, 0, 0))), some (.inr (.inr (1, b, 0))), some (.inr (.inr (4, 0, 0))), some (.inl (nI m)), none, none, none, none, none], [], (I, J, R)) Q := by
  refine dn_run 4 (show tkDn tm_58 (6, [some (.inr (.inr (2, 0, 0))), some (.inr (.inr (1, b, 0))), some (.inr (.inr (4, 0, 0))), some (.inl (nI m)), some (.inr (.inl 0)), none, some (.inl 0), none, none], [], (I, J, R)) _ from ?_)
  exact sr_eW_loop hT hP w he hv hm hQ (sG S) 0 0 none (Nat.zero_add _) rfl
set_option maxRecDepth 8000 in
theorem sr_la_loop {I : tkI} {J : tkJ} {R : Nat → Nat} {Q : tkQ} {T : Nat → Int32} (hT : ∀ j, j < 16 → I 2 0 1 j = T j) {b : Nat} {S : tkS} (hP : NetP (I 1 b) S) (w : WF S) {e v : tkD} (he : RowP 16 (J 4 0 1) e) (hv : WRow (J 4 0 4) v) {m : Nat} (hm : m < sM S) (hQ : Q (some (.inr (.inl (laF e T m (sM S) 0 4611686018427387904)))) (I, J, R)) : ∀ n c (a : Int64) (o7 : Option tkV), c + n = sM S → laF e T m n c a = laF e T m (sM S) 0 4611686018427387904 → tkDn tm_59 (8, [some (.inr (.inr (2, 0, 0))), some (.inr (.inr (1, b, 0))), some (.inr (.inr (4, 0, 0))), some (.inl (nI m)), some (.inr (.inl a)), none, some (.inl (nI c)), o7, none], [], (I, J, R)) Q := by
  have hM16 := w.1
  have hL60 := w.2.1
  have hG6 := w.2.2.1
  intro n
  induction n with
  | zero =>
    intro c a o7 hc h
    show tkDn tm_59 (8, [some (.inr (.inr (2, 0, 0))), some (.inr (.inr (1, b, 0))), some (.inr (.inr (4, 0, 0))), some (.inl (nI m)), some (.inr (.inl a)), none, some (.inl (nI c)), o7, none], [], (I, J, R)) _
    refine dn_run 2 (show tkDn tm_59 (11, [some (.inr (.inr (2, 0, 0))), some (.inr (.inr (1, b, 0))), some (.inr (.inr (4, 0, 0))), some (.inl (nI m)), some (.inr (.inl a)), none, some (.inl (nI c)), o7, none], [.inr (.inr (1, b, 0)), .inl (nI c)], (I, J, R)) _ from ?_)
    refine dn_call rfl rfl rfl rfl rfl (sN_momentCount hP ?_)
    show tkDn tm_59 (14, [some (.inr (.inr (2, 0, 0))), some (.inr (.inr (1, b, 0))), some (.inr (.inr (4, 0, 0))), some (.inl (nI m)), some (.inr (.inl a)), none, some (.inl (nI c)), o7, none], [.inl (nI (sM S)), .inl (nI c)], (I, J, R)) _
    refine dn_if rfl rfl rfl (fun (c0 : (nI (sM S)) ≤ (nI c)) => ?_) (fun (c0 : ¬ (nI (sM S)) ≤ (nI c)) => ?_)
    · show tkDn tm_59 (74, [some (.inr (.inr (2, 0, 0))), some (.inr (.inr (1, b, 0))), some (.inr (.inr (4, 0, 0))), some (.inl (nI m)), some (.inr (.inl a)), none, some (.inl (nI c)), o7, none], [], (I, J, R)) _
      refine dn_run 1 (show tkDn tm_59 (76, [some (.inr (.inr (2, 0, 0))), some (.inr (.inr (1, b, 0))), some (.inr (.inr (4, 0, 0))), some (.inl (nI m)), some (.inr (.inl a)), none, some (.inl (nI c)), o7, none], [.inr (.inl a)], (I, J, R)) _ from ?_)
      refine dn_ret0 rfl rfl rfl rfl ?_
      rw [← (show laF e T m 0 c a = a from rfl).symm.trans h] at hQ
      exact hQ
    · exact absurd (nI_le (by omega) (by omega)) c0
  | succ n ih =>
    intro c a o7 hc h
    show tkDn tm_59 (8, [some (.inr (.inr (2, 0, 0))), some (.inr (.inr (1, b, 0))), some (.inr (.inr (4, 0, 0))), some (.inl (nI m)), some (.inr (.inl a)), none, some (.inl (nI c)), o7, none], [], (I, J, R)) _
    refine dn_run 2 (show tkDn tm_59 (11, [some (.inr (.inr (2, 0, 0))), some (.inr (.inr (1, b, 0))), some (.inr (.inr (4, 0, 0))), some (.inl (nI m)), some (.inr (.inl a)), none, some (.inl (nI c)), o7, none], [.inr (.inr (1, b, 0)), .inl (nI c)], (I, J, R)) _ from ?_)
    refine dn_call rfl rfl rfl rfl rfl (sN_momentCount hP ?_)
    show tkDn tm_59 (14, [some (.inr (.inr (2, 0, 0))), some (.inr (.inr (1, b, 0))), some (.inr (.inr (4, 0, 0))), some (.inl (nI m)), some (.inr (.inl a)), none, some (.inl (nI c)), o7, none], [.inl (nI (sM S)), .inl (nI c)], (I, J, R)) _
    refine dn_if rfl rfl rfl (fun (c0 : (nI (sM S)) ≤ (nI c)) => ?_) (fun (c0 : ¬ (nI (sM S)) ≤ (nI c)) => ?_)
    · exact absurd c0 (nI_ge (by omega) (by omega))
    · show tkDn tm_59 (17, [some (.inr (.inr (2, 0, 0))), some (.inr (.inr (1, b, 0))), some (.inr (.inr (4, 0, 0))), some (.inl (nI m)), some (.inr (.inl a)), none, some (.inl (nI c)), o7, none], [], (I, J, R)) _
      refine dn_run 3 (show tkDn tm_59 (21, [some (.inr (.inr (2, 0, 0))), some (.inr (.inr (1, b, 0))), some (.inr (.inr (4, 0, 0))), some (.inl (nI m)), some (.inr (.inl a)), none, some (.inl (nI c)), o7, none], [.inl (nI m), .inl (nI c), .inr (.inr (4, 0, 0))], (I, J, R)) _ from ?_)
      refine dn_call rfl rfl rfl rfl rfl (sw_edgeOf he (by omega) (by omega) ?_)
      show tkDn tm_59 (24, [some (.inr (.inr (2, 0, 0))), some (.inr (.inr (1, b, 0))), some (.inr (.inr (4, 0, 0))), some (.inl (nI m)), some (.inr (.inl a)), none, some (.inl (nI c)), o7, none], [.inr (.inl (e c m))], (I, J, R)) _
      refine dn_run 3 (show tkDn tm_59 (29, [some (.inr (.inr (2, 0, 0))), some (.inr (.inr (1, b, 0))), some (.inr (.inr (4, 0, 0))), some (.inl (nI m)), some (.inr (.inl a)), none, some (.inl (nI c)), some (.inr (.inl (e c m))), none], [.inl (nI m), .inl (nI c)], (I, J, R)) _ from ?_)
      refine dn_if rfl rfl rfl (fun (c1 : (nI c) = (nI m)) => ?_) (fun (c1 : ¬ (nI c) = (nI m)) => ?_)
      · show tkDn tm_59 (68, [some (.inr (.inr (2, 0, 0))), some (.inr (.inr (1, b, 0))), some (.inr (.inr (4, 0, 0))), some (.inl (nI m)), some (.inr (.inl a)), none, some (.inl (nI c)), some (.inr (.inl (e c m))), none], [], (I, J, R)) _
        refine dn_run 2 (show tkDn tm_59 (8, [some (.inr (.inr (2, 0, 0))), some (.inr (.inr (1, b, 0))), some (.inr (.inr (4, 0, 0))), some (.inl (nI m)), some (.inr (.inl a)), none, some (.inl ((nI c) + 1)), some (.inr (.inl (e c m))), none], [], (I, J, R)) _ from ?_)
        rw [nI_1]
        exact ih (c + 1) a _ (by omega) ((show laF e T m (n + 1) c a = laF e T m n (c + 1) a from if_pos (Or.inl ((nI_eq (by omega) (by omega)).mp c1))).symm.trans h)
      · show tkDn tm_59 (32, [some (.inr (.inr (2, 0, 0))), some (.inr (.inr (1, b, 0))), some (.inr (.inr (4, 0, 0))), some (.inl (nI m)), some (.inr (.inl a)), none, some (.inl (nI c)), some (.inr (.inl (e c m))), none], [], (I, J, R)) _
        refine dn_run 2 (show tkDn tm_59 (35, [some (.inr (.inr (2, 0, 0))), some (.inr (.inr (1, b, 0))), some (.inr (.inr (4, 0, 0))), some (.inl (nI m)), some (.inr (.inl a)), none, some (.inl (nI c)), some (.inr (.inl (e c m))), none], [.inl (nI c), .inr (.inr (2, 0, 0))], (I, J, R)) _ from ?_)
        refine dn_call rfl rfl rfl rfl rfl (sr_hasCome hT (by omega) ?_)
        show tkDn tm_59 (38, [some (.inr (.inr (2, 0, 0))), some (.inr (.inr (1, b, 0))), some (.inr (.inr (4, 0, 0))), some (.inl (nI m)), some (.inr (.inl a)), none, some (.inl (nI c)), some (.inr (.inl (e c m))), none], [.inl (if T c = -9 then 0 else 1)], (I, J, R)) _
        refine dn_if rfl rfl rfl (fun (c2 : (if T c = -9 then 0 else 1) = 0) => ?_) (fun (c2 : ¬ (if T c = -9 then 0 else 1) = 0) => ?_)
        · show tkDn tm_59 (68, [some (.inr (.inr (2, 0, 0))), some (.inr (.inr (1, b, 0))), some (.inr (.inr (4, 0, 0))), some (.inl (nI m)), some (.inr (.inl a)), none, some (.inl (nI c)), some (.inr (.inl (e c m))), none], [], (I, J, R)) _
          refine dn_run 2 (show tkDn tm_59 (8, [some (.inr (.inr (2, 0, 0))), some (.inr (.inr (1, b, 0))), some (.inr (.inr (4, 0, 0))), some (.inl (nI m)), some (.inr (.inl a)), none, some (.inl ((nI c) + 1)), some (.inr (.inl (e c m))), none], [], (I, J, R)) _ from ?_)
          rw [nI_1]
          exact ih (c + 1) a _ (by omega) ((show laF e T m (n + 1) c a = laF e T m n (c + 1) a from if_pos (Or.inr (Or.inl (ite01.mp c2)))).symm.trans h)
        · show tkDn tm_59 (41, [some (.inr (.inr (2, 0, 0))), some (.inr (.inr (1, b, 0))), some (.inr (.inr (4, 0, 0))), some (.inl (nI m)), some (.inr (.inl a)), none, some (.inl (nI c)), some (.inr (.inl (e c m))), none], [], (I, J, R)) _
          refine dn_run 3 (show tkDn tm_59 (47, [some (.inr (.inr (2, 0, 0))), some (.inr (.inr (1, b, 0))), some (.inr (.inr (4, 0, 0))), some (.inl (nI m)), some (.inr (.inl a)), none, some (.inl (nI c)), some (.inr (.inl (e c m))), none], [.inl (lg_cmp (e c m) 4611686018427387904)], (I, J, R)) _ from ?_)
          refine dn_if rfl rfl rfl (fun (c3 : (lg_cmp (e c m) 4611686018427387904) = 0) => ?_) (fun (c3 : ¬ (lg_cmp (e c m) 4611686018427387904) = 0) => ?_)
          · show tkDn tm_59 (68, [some (.inr (.inr (2, 0, 0))), some (.inr (.inr (1, b, 0))), some (.inr (.inr (4, 0, 0))), some (.inl (nI m)), some (.inr (.inl a)), none, some (.inl (nI c)), some (.inr (.inl (e c m))), none], [], (I, J, R)) _
            refine dn_run 2 (show tkDn tm_59 (8, [some (.inr (.inr (2, 0, 0))), some (.inr (.inr (1, b, 0))), some (.inr (.inr (4, 0, 0))), some (.inl (nI m)), some (.inr (.inl a)), none, some (.inl ((nI c) + 1)), some (.inr (.inl (e c m))), none], [], (I, J, R)) _ from ?_)
            rw [nI_1]
            exact ih (c + 1) a _ (by omega) ((show laF e T m (n + 1) c a = laF e T m n (c + 1) a from if_pos (Or.inr (Or.inr ((lg_cmp_eq _ _).mp c3)))).symm.trans h)
          · show tkDn tm_59 (50, [some (.inr (.inr (2, 0, 0))), some (.inr (.inr (1, b, 0))), some (.inr (.inr (4, 0, 0))), some (.inl (nI m)), some (.inr (.inl a)), none, some (.inl (nI c)), some (.inr (.inl (e c m))), none], [], (I, J, R)) _
            refine dn_run 12 (show (vp_in (nI c) 16) ∧ tkDn tm_59 (8, [some (.inr (.inr (2, 0, 0))), some (.inr (.inr (1, b, 0))), some (.inr (.inr (4, 0, 0))), some (.inl (nI m)), some (.inr (.inl (if ((((I 2 0 1 ((nI c).toNatClampNeg)) : Int32).toInt64) + (e c m)) < a then ((((I 2 0 1 ((nI c).toNatClampNeg)) : Int32).toInt64) + (e c m)) else a))), none, some (.inl ((nI c) + 1)), some (.inr (.inl (e c m))), none], [], (I, J, R)) _ from ⟨vp_in_nI (by omega) (by omega), ?_⟩)
            rw [nI_1, nI_clamp (show c < 2 ^ 31 by omega), hT c (by omega)]
            exact ih (c + 1) (mn a ((T c).toInt64 + e c m)) _ (by omega) ((show laF e T m (n + 1) c a = laF e T m n (c + 1) (mn a ((T c).toInt64 + e c m)) from if_neg (fun q => q.elim (fun q => c1 (by rw [q])) (fun q => q.elim (fun q => c2 (ite01.mpr q)) (fun q => c3 ((lg_cmp_eq _ _).mpr q))))).symm.trans h)
set_option maxRecDepth 8000 in
theorem sr_latest {I : tkI} {J : tkJ} {R : Nat → Nat} {Q : tkQ} {T : Nat → Int32} (hT : ∀ j, j < 16 → I 2 0 1 j = T j) {b : Nat} {S : tkS} (hP : NetP (I 1 b) S) (w : WF S) {e v : tkD} (he : RowP 16 (J 4 0 1) e) (hv : WRow (J 4 0 4) v) {m : Nat} (hm : m < sM S) (hQ : Q (some (.inr (.inl (laF e T m (sM S) 0 4611686018427387904)))) (I, J, R)) : tkDn tm_59 (0, [some (.inr (.inr (2, 0, 0))), some (.inr (.inr (1, b, 0))), some (.inr (.inr (4, 0, 0))), some (.inl (nI m)), none, none, none, none, none], [], (I, J, R)) Q := by
  refine dn_run 4 (show tkDn tm_59 (8, [some (.inr (.inr (2, 0, 0))), some (.inr (.inr (1, b, 0))), some (.inr (.inr (4, 0, 0))), some (.inl (nI m)), some (.inr (.inl 4611686018427387904)), none, some (.inl 0), none, none], [], (I, J, R)) _ from ?_)
  exact sr_la_loop hT hP w he hv hm hQ (sM S) 0 _ none (Nat.zero_add _) rfl
set_option maxRecDepth 8000 in
theorem sr_firstTick {I : tkI} {J : tkJ} {R : Nat → Nat} {Q : tkQ} {T : Nat → Int32} (hT : ∀ j, j < 16 → I 2 0 1 j = T j) {b : Nat} {S : tkS} (hP : NetP (I 1 b) S) (w : WF S) {e v : tkD} (he : RowP 16 (J 4 0 1) e) (hv : WRow (J 4 0 4) v) {t : Int32} (ht : I 2 0 0 2 = t) {m : Nat} (hm : m < sM S) (hQ : Q (some (.inr (.inl (ftF S e v T t m)))) (I, J, R)) : tkDn tm_56 (0, [some (.inr (.inr (2, 0, 0))), some (.inr (.inr (1, b, 0))), some (.inr (.inr (4, 0, 0))), some (.inl (nI m)), none, none, none, none, none, none], [], (I, J, R)) Q := by
  refine dn_run 4 (show tkDn tm_56 (4, [some (.inr (.inr (2, 0, 0))), some (.inr (.inr (1, b, 0))), some (.inr (.inr (4, 0, 0))), some (.inl (nI m)), none, none, none, none, none, none], [.inl (nI m), .inr (.inr (4, 0, 0)), .inr (.inr (1, b, 0)), .inr (.inr (2, 0, 0))], (I, J, R)) _ from ?_)
  refine dn_call rfl rfl rfl rfl rfl (sr_earliestByEdges hT hP w he hv hm ?_)
  show tkDn tm_56 (7, [some (.inr (.inr (2, 0, 0))), some (.inr (.inr (1, b, 0))), some (.inr (.inr (4, 0, 0))), some (.inl (nI m)), none, none, none, none, none, none], [.inr (.inl ((blE e T m (sM S) 0 0).getD 4611686018427387904))], (I, J, R)) _
  refine dn_run 5 (show tkDn tm_56 (13, [some (.inr (.inr (2, 0, 0))), some (.inr (.inr (1, b, 0))), some (.inr (.inr (4, 0, 0))), some (.inl (nI m)), some (.inr (.inl ((blE e T m (sM S) 0 0).getD 4611686018427387904))), none, none, none, none, none], [.inl (nI m), .inr (.inr (4, 0, 0)), .inr (.inr (1, b, 0)), .inr (.inr (2, 0, 0))], (I, J, R)) _ from ?_)
  refine dn_call rfl rfl rfl rfl rfl (sr_earliestByWaits hT hP w he hv hm ?_)
  show tkDn tm_56 (16, [some (.inr (.inr (2, 0, 0))), some (.inr (.inr (1, b, 0))), some (.inr (.inr (4, 0, 0))), some (.inl (nI m)), some (.inr (.inl ((blE e T m (sM S) 0 0).getD 4611686018427387904))), none, none, none, none, none], [.inr (.inl ((blW S v T m (sG S) 0 0).getD 4611686018427387904))], (I, J, R)) _
  refine dn_run 14 (show tkDn tm_56 (41, [some (.inr (.inr (2, 0, 0))), some (.inr (.inr (1, b, 0))), some (.inr (.inr (4, 0, 0))), some (.inl (nI m)), some (.inr (.inl ((blE e T m (sM S) 0 0).getD 4611686018427387904))), none, some (.inr (.inl ((blW S v T m (sG S) 0 0).getD 4611686018427387904))), none, some (.inr (.inl (if (if ((blW S v T m (sG S) 0 0).getD 4611686018427387904) < ((blE e T m (sM S) 0 0).getD 4611686018427387904) then ((blE e T m (sM S) 0 0).getD 4611686018427387904) else ((blW S v T m (sG S) 0 0).getD 4611686018427387904)) < (((I 2 0 0 2) : Int32).toInt64) then (((I 2 0 0 2) : Int32).toInt64) else (if ((blW S v T m (sG S) 0 0).getD 4611686018427387904) < ((blE e T m (sM S) 0 0).getD 4611686018427387904) then ((blE e T m (sM S) 0 0).getD 4611686018427387904) else ((blW S v T m (sG S) 0 0).getD 4611686018427387904))))), none], [.inl (nI m), .inr (.inr (4, 0, 0)), .inr (.inr (1, b, 0)), .inr (.inr (2, 0, 0)), .inr (.inl (if (if ((blW S v T m (sG S) 0 0).getD 4611686018427387904) < ((blE e T m (sM S) 0 0).getD 4611686018427387904) then ((blE e T m (sM S) 0 0).getD 4611686018427387904) else ((blW S v T m (sG S) 0 0).getD 4611686018427387904)) < (((I 2 0 0 2) : Int32).toInt64) then (((I 2 0 0 2) : Int32).toInt64) else (if ((blW S v T m (sG S) 0 0).getD 4611686018427387904) < ((blE e T m (sM S) 0 0).getD 4611686018427387904) then ((blE e T m (sM S) 0 0).getD 4611686018427387904) else ((blW S v T m (sG S) 0 0).getD 4611686018427387904))))], (I, J, R)) _ from ?_)
  rw [ht]
  show tkDn tm_56 (41, [some (.inr (.inr (2, 0, 0))), some (.inr (.inr (1, b, 0))), some (.inr (.inr (4, 0, 0))), some (.inl (nI m)), some (.inr (.inl ((blE e T m (sM S) 0 0).getD 4611686018427387904))), none, some (.inr (.inl ((blW S v T m (sG S) 0 0).getD 4611686018427387904))), none, some (.inr (.inl (ftE S e v T t m))), none], [.inl (nI m), .inr (.inr (4, 0, 0)), .inr (.inr (1, b, 0)), .inr (.inr (2, 0, 0)), .inr (.inl (ftE S e v T t m))], (I, J, R)) _
  refine dn_call rfl rfl rfl rfl rfl (sr_latest hT hP w he hv hm ?_)
  show tkDn tm_56 (44, [some (.inr (.inr (2, 0, 0))), some (.inr (.inr (1, b, 0))), some (.inr (.inr (4, 0, 0))), some (.inl (nI m)), some (.inr (.inl ((blE e T m (sM S) 0 0).getD 4611686018427387904))), none, some (.inr (.inl ((blW S v T m (sG S) 0 0).getD 4611686018427387904))), none, some (.inr (.inl (ftE S e v T t m))), none], [.inr (.inl (laF e T m (sM S) 0 4611686018427387904)), .inr (.inl (ftE S e v T t m))], (I, J, R)) _
  refine dn_run 1 (show tkDn tm_56 (45, [some (.inr (.inr (2, 0, 0))), some (.inr (.inr (1, b, 0))), some (.inr (.inr (4, 0, 0))), some (.inl (nI m)), some (.inr (.inl ((blE e T m (sM S) 0 0).getD 4611686018427387904))), none, some (.inr (.inl ((blW S v T m (sG S) 0 0).getD 4611686018427387904))), none, some (.inr (.inl (ftE S e v T t m))), none], [.inl (lg_cmp (ftE S e v T t m) (laF e T m (sM S) 0 4611686018427387904))], (I, J, R)) _ from ?_)
  refine dn_if rfl rfl rfl (fun (c : 0 < (lg_cmp (ftE S e v T t m) (laF e T m (sM S) 0 4611686018427387904))) => ?_) (fun (c : ¬ 0 < (lg_cmp (ftE S e v T t m) (laF e T m (sM S) 0 4611686018427387904))) => ?_)
  · show tkDn tm_56 (53, [some (.inr (.inr (2, 0, 0))), some (.inr (.inr (1, b, 0))), some (.inr (.inr (4, 0, 0))), some (.inl (nI m)), some (.inr (.inl ((blE e T m (sM S) 0 0).getD 4611686018427387904))), none, some (.inr (.inl ((blW S v T m (sG S) 0 0).getD 4611686018427387904))), none, some (.inr (.inl (ftE S e v T t m))), none], [], (I, J, R)) _
    refine dn_run 1 (show tkDn tm_56 (56, [some (.inr (.inr (2, 0, 0))), some (.inr (.inr (1, b, 0))), some (.inr (.inr (4, 0, 0))), some (.inl (nI m)), some (.inr (.inl ((blE e T m (sM S) 0 0).getD 4611686018427387904))), none, some (.inr (.inl ((blW S v T m (sG S) 0 0).getD 4611686018427387904))), none, some (.inr (.inl (ftE S e v T t m))), none], [.inr (.inl 4611686018427387904)], (I, J, R)) _ from ?_)
    refine dn_ret0 rfl rfl rfl rfl ?_
    rw [show ftF S e v T t m = 4611686018427387904 from if_neg (Int64.not_le.mpr ((lg_gt _ _).mp c))] at hQ
    exact hQ
  · show tkDn tm_56 (48, [some (.inr (.inr (2, 0, 0))), some (.inr (.inr (1, b, 0))), some (.inr (.inr (4, 0, 0))), some (.inl (nI m)), some (.inr (.inl ((blE e T m (sM S) 0 0).getD 4611686018427387904))), none, some (.inr (.inl ((blW S v T m (sG S) 0 0).getD 4611686018427387904))), none, some (.inr (.inl (ftE S e v T t m))), none], [], (I, J, R)) _
    refine dn_run 2 (show tkDn tm_56 (56, [some (.inr (.inr (2, 0, 0))), some (.inr (.inr (1, b, 0))), some (.inr (.inr (4, 0, 0))), some (.inl (nI m)), some (.inr (.inl ((blE e T m (sM S) 0 0).getD 4611686018427387904))), none, some (.inr (.inl ((blW S v T m (sG S) 0 0).getD 4611686018427387904))), none, some (.inr (.inl (ftE S e v T t m))), none], [.inr (.inl (ftE S e v T t m))], (I, J, R)) _ from ?_)
    refine dn_ret0 rfl rfl rfl rfl ?_
    rw [show ftF S e v T t m = ftE S e v T t m from if_pos (Int64.not_lt.mp (fun z => c ((lg_gt _ _).mpr z)))] at hQ
    exact hQ
set_option maxRecDepth 8000 in
theorem sr_canComeNow {I : tkI} {J : tkJ} {R : Nat → Nat} {Q : tkQ} {T : Nat → Int32} (hT : ∀ j, j < 16 → I 2 0 1 j = T j) {b : Nat} {S : tkS} (hP : NetP (I 1 b) S) (w : WF S) {e v : tkD} (he : RowP 16 (J 4 0 1) e) (hv : WRow (J 4 0 4) v) {t : Int32} (ht : I 2 0 0 2 = t) {m : Nat} (hm : m < sM S) (hQ : Q (some (.inl (if ftF S e v T t m = t.toInt64 then 1 else 0))) (I, J, R)) : tkDn tm_52 (0, [some (.inr (.inr (2, 0, 0))), some (.inr (.inr (1, b, 0))), some (.inr (.inr (4, 0, 0))), some (.inl (nI m))], [], (I, J, R)) Q := by
  refine dn_run 4 (show tkDn tm_52 (4, [some (.inr (.inr (2, 0, 0))), some (.inr (.inr (1, b, 0))), some (.inr (.inr (4, 0, 0))), some (.inl (nI m))], [.inl (nI m), .inr (.inr (4, 0, 0)), .inr (.inr (1, b, 0)), .inr (.inr (2, 0, 0))], (I, J, R)) _ from ?_)
  refine dn_call rfl rfl rfl rfl rfl (sr_firstTick hT hP w he hv ht hm ?_)
  show tkDn tm_52 (7, [some (.inr (.inr (2, 0, 0))), some (.inr (.inr (1, b, 0))), some (.inr (.inr (4, 0, 0))), some (.inl (nI m))], [.inr (.inl (ftF S e v T t m))], (I, J, R)) _
  refine dn_run 4 (show tkDn tm_52 (13, [some (.inr (.inr (2, 0, 0))), some (.inr (.inr (1, b, 0))), some (.inr (.inr (4, 0, 0))), some (.inl (nI m))], [.inl (lg_cmp (ftF S e v T t m) (((I 2 0 0 2) : Int32).toInt64))], (I, J, R)) _ from ?_)
  rw [ht]
  show tkDn tm_52 (13, [some (.inr (.inr (2, 0, 0))), some (.inr (.inr (1, b, 0))), some (.inr (.inr (4, 0, 0))), some (.inl (nI m))], [.inl (lg_cmp (ftF S e v T t m) t.toInt64)], (I, J, R)) _
  refine dn_if rfl rfl rfl (fun (c : ¬ (lg_cmp (ftF S e v T t m) t.toInt64) = 0) => ?_) (fun (c : (lg_cmp (ftF S e v T t m) t.toInt64) = 0) => ?_)
  · show tkDn tm_52 (20, [some (.inr (.inr (2, 0, 0))), some (.inr (.inr (1, b, 0))), some (.inr (.inr (4, 0, 0))), some (.inl (nI m))], [], (I, J, R)) _
    refine dn_run 1 (show tkDn tm_52 (21, [some (.inr (.inr (2, 0, 0))), some (.inr (.inr (1, b, 0))), some (.inr (.inr (4, 0, 0))), some (.inl (nI m))], [.inl 0], (I, J, R)) _ from ?_)
    refine dn_retb rfl rfl rfl rfl (by decide) ?_
    rw [if_neg (fun q => c ((lg_cmp_eq _ _).mpr q))] at hQ; exact hQ
  · show tkDn tm_52 (16, [some (.inr (.inr (2, 0, 0))), some (.inr (.inr (1, b, 0))), some (.inr (.inr (4, 0, 0))), some (.inl (nI m))], [], (I, J, R)) _
    refine dn_run 2 (show tkDn tm_52 (21, [some (.inr (.inr (2, 0, 0))), some (.inr (.inr (1, b, 0))), some (.inr (.inr (4, 0, 0))), some (.inl (nI m))], [.inl 1], (I, J, R)) _ from ?_)
    refine dn_retb rfl rfl rfl rfl (by decide) ?_
    rw [if_pos ((lg_cmp_eq _ _).mp c)] at hQ; exact hQ
