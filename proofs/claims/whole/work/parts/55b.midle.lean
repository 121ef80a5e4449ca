/-! the reference: idle once more, telling its refusals apart -/
set_option maxRecDepth 8000 in
theorem sm_idle2 {I : tkI} {J : tkJ} {R : Nat → Nat} {Q : tkQ} {T : Nat → Int32} (hT : ∀ j, j < 16 → I 6 0 33 j = T j) (hO : TOk T) {S : tkS} (hP : NetP (I 6 0) S) (w : WF S) {e v : tkD} {on : Int32} (he : on = 1 → RowP (sM S) (J 6 0 24) e) (hv : on = 1 → WRow (J 6 0 25) v) {t : Int32} (ht : I 6 0 0 31 = t) (ht0 : 0 ≤ t) (hon : I 6 0 0 10 = on) (hb : on = 0 ∨ on = 1) {n0 : Int32} (hQn : ¬ (0 ≤ n0 ∧ n0 ≤ 200000) → Q (some (.inl (-12))) (I, J, R)) (hQ0 : (0 ≤ n0 ∧ n0 ≤ 200000) → (¬ on = 1 ∨ ltF S T t (sG S) 0 = true) → Q (some (.inl (-13))) (I, J, R)) (hQ : (0 ≤ n0 ∧ n0 ≤ 200000) → on = 1 → ¬ ltF S T t (sG S) 0 = true → ∀ N, (∀ s, s ≠ 0 → N s = J 6 0 s) → Q (some (.inl (paF S e v T t n0 - t.toInt64).toInt32)) (tk_so I 6 0 (tk_u2 (I 6 0) 0 31 (paF S e v T t n0).toInt32), tk_so J 6 0 N, R)) : tkDn tm_185 (0, [some (.inr (.inr (6, 0, 0))), some (.inl n0), none, none, none, none, none], [], (I, J, R)) Q := by
  have hM16 := w.1
  have hL60 := w.2.1
  have hG6 := w.2.2.1
  have hM := hP.m
  have hG := hP.g
  have hL := hP.l
  refine dn_run 3 (show tkDn tm_185 (5, [some (.inr (.inr (6, 0, 0))), some (.inl n0), none, none, none, none, none], [.inl 200000, .inl 0, .inl n0], (I, J, R)) _ from ?_)
  refine dn_call rfl rfl rfl rfl rfl (sm_in ?_)
  show tkDn tm_185 (8, [some (.inr (.inr (6, 0, 0))), some (.inl n0), none, none, none, none, none], [.inl (if 0 ≤ n0 ∧ n0 ≤ 200000 then 1 else 0)], (I, J, R)) _
  refine dn_if rfl rfl rfl (fun (c0 : ¬ (if 0 ≤ n0 ∧ n0 ≤ 200000 then 1 else 0) = 0) => ?_) (fun (c0 : (if 0 ≤ n0 ∧ n0 ≤ 200000 then 1 else 0) = 0) => ?_)
  · show tkDn tm_185 (14, [some (.inr (.inr (6, 0, 0))), some (.inl n0), none, none, none, none, none], [], (I, J, R)) _
    have hn0 : 0 ≤ n0 ∧ n0 ≤ 200000 := Classical.byContradiction fun q => c0 (if_neg q)
    have hQ0 := hQ0 hn0
    refine dn_run 2 (show tkDn tm_185 (18, [some (.inr (.inr (6, 0, 0))), some (.inl n0), none, none, none, none, none], [.inl (I 6 0 0 10)], (I, J, R)) _ from ?_)
    rw [hon]
    show tkDn tm_185 (18, [some (.inr (.inr (6, 0, 0))), some (.inl n0), none, none, none, none, none], [.inl on], (I, J, R)) _
    refine dn_if rfl rfl rfl (fun (c1 : on = 0) => ?_) (fun (c1 : ¬ on = 0) => ?_)
    · show tkDn tm_185 (32, [some (.inr (.inr (6, 0, 0))), some (.inl n0), none, none, none, none, none], [], (I, J, R)) _
      refine dn_run 1 (show tkDn tm_185 (34, [some (.inr (.inr (6, 0, 0))), some (.inl n0), none, none, none, none, none], [.inl (-13)], (I, J, R)) _ from ?_)
      refine dn_ret0 rfl rfl rfl rfl ?_
      exact hQ0 (Or.inl (fun q => absurd (c1.symm.trans q) (by decide)))
    · show tkDn tm_185 (21, [some (.inr (.inr (6, 0, 0))), some (.inl n0), none, none, none, none, none], [], (I, J, R)) _
      have on1 : on = 1 := hb.resolve_left c1
      refine dn_run 3 (show tkDn tm_185 (26, [some (.inr (.inr (6, 0, 0))), some (.inl n0), none, none, none, none, none], [.inl (I 6 0 0 31), .inr (.inr (6, 0, 0))], (I, J, R)) _ from ?_)
      rw [ht]
      show tkDn tm_185 (26, [some (.inr (.inr (6, 0, 0))), some (.inl n0), none, none, none, none, none], [.inl t, .inr (.inr (6, 0, 0))], (I, J, R)) _
      refine dn_call rfl rfl rfl rfl rfl (sm_isLate hT hO hP w ?_)
      show tkDn tm_185 (29, [some (.inr (.inr (6, 0, 0))), some (.inl n0), none, none, none, none, none], [.inl (if ltF S T t (sG S) 0 = true then 1 else 0)], (I, J, R)) _
      refine dn_if rfl rfl rfl (fun (c2 : (if ltF S T t (sG S) 0 = true then 1 else 0) = 0) => ?_) (fun (c2 : ¬ (if ltF S T t (sG S) 0 = true then 1 else 0) = 0) => ?_)
      · show tkDn tm_185 (35, [some (.inr (.inr (6, 0, 0))), some (.inl n0), none, none, none, none, none], [], (I, J, R)) _
        have nl := ite10.mp c2
        refine dn_run 9 (show tkDn tm_185 (47, [some (.inr (.inr (6, 0, 0))), some (.inl n0), some (.inr (.inl ((((I 6 0 0 31) : Int32).toInt64) + ((n0 : Int32).toInt64)))), none, some (.inl 0), none, none], [], (I, J, R)) _ from ?_)
        rw [ht]
        have key := sm_id1 (J := J) (R := R) (Q := Q) (n0 := n0) hT hO hP w (N0 := J 6 0) (he on1) (hv on1) ht (fun N o5 hN => ?_) (sM S) 0 _ (J 6 0) none (Nat.zero_add _) (tn_far t n0) rfl (fun _ _ => rfl)
        · rw [tk_so_id] at key; exact key
        show tkDn tm_185 (122, [some (.inr (.inr (6, 0, 0))), some (.inl n0), some (.inr (.inl (paM S e v T t (sM S) 0 (t.toInt64 + n0.toInt64)))), none, some (.inl (nI (sM S))), o5, none], [], (I, tk_so J 6 0 N, R)) _
        refine dn_run 2 (show tkDn tm_185 (125, [some (.inr (.inr (6, 0, 0))), some (.inl n0), some (.inr (.inl (paM S e v T t (sM S) 0 (t.toInt64 + n0.toInt64)))), none, some (.inl 0), o5, none], [], (I, tk_so J 6 0 N, R)) _ from ?_)
        refine sm_id2 (e := e) (v := v) (t := t) (n0 := n0) hT hO hP w (fun o5 => ?_) (sG S) 0 _ _ (Nat.zero_add _) rfl
        show tkDn tm_185 (208, [some (.inr (.inr (6, 0, 0))), some (.inl n0), some (.inr (.inl (paF S e v T t n0))), none, some (.inl (nI (sG S))), o5, none], [], (I, tk_so J 6 0 N, R)) _
        refine dn_run 12 (show tkDn tm_185 (226, [some (.inr (.inr (6, 0, 0))), some (.inl n0), some (.inr (.inl (paF S e v T t n0))), none, some (.inl ((((paF S e v T t n0) - (((I 6 0 0 31) : Int32).toInt64)) : Int64).toInt32)), o5, none], [.inl ((((paF S e v T t n0) - (((I 6 0 0 31) : Int32).toInt64)) : Int64).toInt32)], (tk_so I 6 0 (tk_u2 (I 6 0) 0 31 (((paF S e v T t n0) : Int64).toInt32)), tk_so J 6 0 N, R)) _ from ?_)
        rw [ht]
        refine dn_ret0 rfl rfl rfl rfl ?_
        exact hQ hn0 on1 nl N hN
      · show tkDn tm_185 (32, [some (.inr (.inr (6, 0, 0))), some (.inl n0), none, none, none, none, none], [], (I, J, R)) _
        refine dn_run 1 (show tkDn tm_185 (34, [some (.inr (.inr (6, 0, 0))), some (.inl n0), none, none, none, none, none], [.inl (-13)], (I, J, R)) _ from ?_)
        refine dn_ret0 rfl rfl rfl rfl ?_
        exact hQ0 (Or.inr (Classical.byContradiction fun q => c2 (ite10.mpr q)))
  · show tkDn tm_185 (11, [some (.inr (.inr (6, 0, 0))), some (.inl n0), none, none, none, none, none], [], (I, J, R)) _
    refine dn_run 1 (show tkDn tm_185 (13, [some (.inr (.inr (6, 0, 0))), some (.inl n0), none, none, none, none, none], [.inl (-12)], (I, J, R)) _ from ?_)
    refine dn_ret0 rfl rfl rfl rfl ?_
    exact hQn (fun q => absurd (c0.symm.trans (if_pos q)) (by decide))
