/-! Net: the rest of it -/
theorem sN_giftFrom {I : tkI} {J : tkJ} {R : Nat → Nat} {b : Nat} {Q : tkQ} {S : tkS} (hP : NetP (I 1 b) S) (w : WF S) {g : Nat} (hg : g < sG S) (hQ : Q (some (.inl (nI (sf S (sgl S g))))) (I, J, R)) : tkDn tm_23 (0, [some (.inr (.inr (1, b, 0))), some (.inl (nI g))], [], (I, J, R)) Q := by
  have h1 := hP.gl w hg
  have hl := w.gl hg
  have h2 := hP.fr w hl
  have hG6 := w.2.2.1
  have hL60 := w.2.1
  exact sn_giftFrom (vp_in_nI (by omega) (by omega)) (by rw [h1]; exact vp_in_nI (by omega) (by omega)) (by rw [h1, h2]; exact hQ)
theorem sN_giftTo {I : tkI} {J : tkJ} {R : Nat → Nat} {b : Nat} {Q : tkQ} {S : tkS} (hP : NetP (I 1 b) S) (w : WF S) {g : Nat} (hg : g < sG S) (hQ : Q (some (.inl (nI (se S (sgl S g))))) (I, J, R)) : tkDn tm_24 (0, [some (.inr (.inr (1, b, 0))), some (.inl (nI g))], [], (I, J, R)) Q := by
  have h1 := hP.gl w hg
  have hl := w.gl hg
  have h2 := hP.en w hl
  have hG6 := w.2.2.1
  have hL60 := w.2.1
  exact sn_giftTo (vp_in_nI (by omega) (by omega)) (by rw [h1]; exact vp_in_nI (by omega) (by omega)) (by rw [h1, h2]; exact hQ)
theorem sN_giftLow {I : tkI} {J : tkJ} {R : Nat → Nat} {b : Nat} {Q : tkQ} {S : tkS} (hP : NetP (I 1 b) S) (w : WF S) {g : Nat} (hg : g < sG S) (hQ : Q (some (.inl (slo S (sgl S g)))) (I, J, R)) : tkDn tm_25 (0, [some (.inr (.inr (1, b, 0))), some (.inl (nI g))], [], (I, J, R)) Q := by
  have h1 := hP.gl w hg
  have hl := w.gl hg
  have h2 := hP.lo w hl
  have hG6 := w.2.2.1
  have hL60 := w.2.1
  exact sn_giftLow (vp_in_nI (by omega) (by omega)) (by rw [h1]; exact vp_in_nI (by omega) (by omega)) (by rw [h1, h2]; exact hQ)
theorem sN_giftHigh {I : tkI} {J : tkJ} {R : Nat → Nat} {b : Nat} {Q : tkQ} {S : tkS} (hP : NetP (I 1 b) S) (w : WF S) {g : Nat} (hg : g < sG S) (hQ : Q (some (.inl (shi S (sgl S g)))) (I, J, R)) : tkDn tm_26 (0, [some (.inr (.inr (1, b, 0))), some (.inl (nI g))], [], (I, J, R)) Q := by
  have h1 := hP.gl w hg
  have hl := w.gl hg
  have h2 := hP.hi w hl
  have hG6 := w.2.2.1
  have hL60 := w.2.1
  exact sn_giftHigh (vp_in_nI (by omega) (by omega)) (by rw [h1]; exact vp_in_nI (by omega) (by omega)) (by rw [h1, h2]; exact hQ)
theorem sN_linkFrom {I : tkI} {J : tkJ} {R : Nat → Nat} {b : Nat} {Q : tkQ} {S : tkS} (hP : NetP (I 1 b) S) (w : WF S) {j : Nat} (hj : j < sL S) (hQ : Q (some (.inl (nI (sf S j)))) (I, J, R)) : tkDn tm_19 (0, [some (.inr (.inr (1, b, 0))), some (.inl (nI j))], [], (I, J, R)) Q := by
  have h2 := hP.fr w hj
  have hL60 := w.2.1
  exact sn_linkFrom (vp_in_nI (by omega) (by omega)) (by rw [h2]; exact hQ)
theorem sN_linkTo {I : tkI} {J : tkJ} {R : Nat → Nat} {b : Nat} {Q : tkQ} {S : tkS} (hP : NetP (I 1 b) S) (w : WF S) {j : Nat} (hj : j < sL S) (hQ : Q (some (.inl (nI (se S j)))) (I, J, R)) : tkDn tm_20 (0, [some (.inr (.inr (1, b, 0))), some (.inl (nI j))], [], (I, J, R)) Q := by
  have h2 := hP.en w hj
  have hL60 := w.2.1
  exact sn_linkTo (vp_in_nI (by omega) (by omega)) (by rw [h2]; exact hQ)
theorem sN_linkLow {I : tkI} {J : tkJ} {R : Nat → Nat} {b : Nat} {Q : tkQ} {S : tkS} (hP : NetP (I 1 b) S) (w : WF S) {j : Nat} (hj : j < sL S) (hQ : Q (some (.inl (slo S j))) (I, J, R)) : tkDn tm_21 (0, [some (.inr (.inr (1, b, 0))), some (.inl (nI j))], [], (I, J, R)) Q := by
  have h2 := hP.lo w hj
  have hL60 := w.2.1
  exact sn_linkLow (vp_in_nI (by omega) (by omega)) (by rw [h2]; exact hQ)
theorem sN_linkHigh {I : tkI} {J : tkJ} {R : Nat → Nat} {b : Nat} {Q : tkQ} {S : tkS} (hP : NetP (I 1 b) S) (w : WF S) {j : Nat} (hj : j < sL S) (hQ : Q (some (.inl (shi S j))) (I, J, R)) : tkDn tm_22 (0, [some (.inr (.inr (1, b, 0))), some (.inl (nI j))], [], (I, J, R)) Q := by
  have h2 := hP.hi w hj
  have hL60 := w.2.1
  exact sn_linkHigh (vp_in_nI (by omega) (by omega)) (by rw [h2]; exact hQ)
theorem sN_momentCount {I : tkI} {J : tkJ} {R : Nat → Nat} {b : Nat} {Q : tkQ} {S : tkS} (hP : NetP (I 1 b) S) (hQ : Q (some (.inl (nI (sM S)))) (I, J, R)) : tkDn tm_12 (0, [some (.inr (.inr (1, b, 0)))], [], (I, J, R)) Q := sn_momentCount (by rw [hP.m]; exact hQ)
theorem sN_linkCount {I : tkI} {J : tkJ} {R : Nat → Nat} {b : Nat} {Q : tkQ} {S : tkS} (hP : NetP (I 1 b) S) (hQ : Q (some (.inl (nI (sL S)))) (I, J, R)) : tkDn tm_13 (0, [some (.inr (.inr (1, b, 0)))], [], (I, J, R)) Q := sn_linkCount (by rw [hP.l]; exact hQ)
theorem sN_giftCount {I : tkI} {J : tkJ} {R : Nat → Nat} {b : Nat} {Q : tkQ} {S : tkS} (hP : NetP (I 1 b) S) (hQ : Q (some (.inl (nI (sG S)))) (I, J, R)) : tkDn tm_14 (0, [some (.inr (.inr (1, b, 0)))], [], (I, J, R)) Q := sn_giftCount (by rw [hP.g]; exact hQ)
theorem sn_isGift {I : tkI} {J : tkJ} {R : Nat → Nat} {b : Nat} {Q : tkQ} {l : Int32} (hl : vp_in l 60) (hQ : Q (some (.inl (if I 1 b 8 l.toNatClampNeg = -9 then 0 else 1))) (I, J, R)) : tkDn tm_18 (0, [some (.inr (.inr (1, b, 0))), some (.inl l)], [], (I, J, R)) Q := by
  refine dn_run 5 (show (vp_in l 60) ∧ tkDn tm_18 (8, [some (.inr (.inr (1, b, 0))), some (.inl l)], [.inl (-9), .inl (I 1 b 8 l.toNatClampNeg)], (I, J, R)) _ from ⟨hl, ?_⟩)
  refine dn_if rfl rfl rfl (fun (c : (I 1 b 8 l.toNatClampNeg) = (-9)) => ?_) (fun (c : ¬ (I 1 b 8 l.toNatClampNeg) = (-9)) => ?_)
  · show tkDn tm_18 (15, [some (.inr (.inr (1, b, 0))), some (.inl l)], [], (I, J, R)) _
    refine dn_run 1 (show tkDn tm_18 (16, [some (.inr (.inr (1, b, 0))), some (.inl l)], [.inl 0], (I, J, R)) _ from ?_)
    refine dn_retb rfl rfl rfl rfl (by decide) ?_
    rw [if_pos c] at hQ
    exact hQ
  · show tkDn tm_18 (11, [some (.inr (.inr (1, b, 0))), some (.inl l)], [], (I, J, R)) _
    refine dn_run 2 (show tkDn tm_18 (16, [some (.inr (.inr (1, b, 0))), some (.inl l)], [.inl 1], (I, J, R)) _ from ?_)
    refine dn_retb rfl rfl rfl rfl (by decide) ?_
    rw [if_neg c] at hQ
    exact hQ
theorem sn_chosenLength {I : tkI} {J : tkJ} {R : Nat → Nat} {b : Nat} {Q : tkQ} {S : tkS} (hP : NetP (I 1 b) S) (w : WF S) {g : Nat} (hg : g < sG S) {k : Int32} (hQ : Q (some (.inl (if (k >>> (nI g &&& 31)) &&& 1 = 1 then shi S (sgl S g) else slo S (sgl S g)))) (I, J, R)) : tkDn tm_27 (0, [some (.inr (.inr (1, b, 0))), some (.inl (nI g)), some (.inl k)], [], (I, J, R)) Q := by
  have h1 := hP.gl w hg
  have hl := w.gl hg
  have h2 := hP.hi w hl
  have h3 := hP.lo w hl
  have hG6 := w.2.2.1
  have hL60 := w.2.1
  refine dn_run 6 (show tkDn tm_27 (6, [some (.inr (.inr (1, b, 0))), some (.inl (nI g)), some (.inl k)], [.inl 1, .inl ((k >>> ((nI g) &&& 31)) &&& 1)], (I, J, R)) _ from ?_)
  refine dn_if rfl rfl rfl (fun (c : ¬ ((k >>> ((nI g) &&& 31)) &&& 1) = 1) => ?_) (fun (c : ((k >>> ((nI g) &&& 31)) &&& 1) = 1) => ?_)
  · show tkDn tm_27 (17, [some (.inr (.inr (1, b, 0))), some (.inl (nI g)), some (.inl k)], [], (I, J, R)) _
    refine dn_run 2 (show tkDn tm_27 (19, [some (.inr (.inr (1, b, 0))), some (.inl (nI g)), some (.inl k)], [.inl (nI g), .inr (.inr (1, b, 0))], (I, J, R)) _ from ?_)
    refine dn_call rfl rfl rfl rfl rfl (sN_giftLow hP w hg ?_)
    show tkDn tm_27 (22, [some (.inr (.inr (1, b, 0))), some (.inl (nI g)), some (.inl k)], [.inl (slo S (sgl S g))], (I, J, R)) _
    refine dn_ret0 rfl rfl rfl rfl ?_
    rw [if_neg c] at hQ
    exact hQ
  · show tkDn tm_27 (9, [some (.inr (.inr (1, b, 0))), some (.inl (nI g)), some (.inl k)], [], (I, J, R)) _
    refine dn_run 2 (show tkDn tm_27 (11, [some (.inr (.inr (1, b, 0))), some (.inl (nI g)), some (.inl k)], [.inl (nI g), .inr (.inr (1, b, 0))], (I, J, R)) _ from ?_)
    refine dn_call rfl rfl rfl rfl rfl (sN_giftHigh hP w hg ?_)
    show tkDn tm_27 (14, [some (.inr (.inr (1, b, 0))), some (.inl (nI g)), some (.inl k)], [.inl (shi S (sgl S g))], (I, J, R)) _
    refine dn_run 1 (show tkDn tm_27 (22, [some (.inr (.inr (1, b, 0))), some (.inl (nI g)), some (.inl k)], [.inl (shi S (sgl S g))], (I, J, R)) _ from ?_)
    refine dn_ret0 rfl rfl rfl rfl ?_
    rw [if_pos c] at hQ
    exact hQ
theorem sn_comesFrom_loop {I : tkI} {J : tkJ} {R : Nat → Nat} {b : Nat} {Q : tkQ} {S : tkS} (hP : NetP (I 1 b) S) (w : WF S) {m k : Nat} (hk : k < 16) : ∀ n q t o, n + q = 7 → t < sM S → Q (some (.inl (if cfF S k n t = true then 1 else 0))) (I, J, R) → tkDn tm_39 (5, [some (.inr (.inr (1, b, 0))), some (.inl (nI m)), some (.inl (nI k)), some (.inl (nI t)), some (.inl (nI q)), o], [], (I, J, R)) Q := by
  have hM16 := w.1
  have hG6 := w.2.2.1
  have hL60 := w.2.1
  intro n
  induction n with
  | zero =>
    intro q t o hq ht hQ
    show tkDn tm_39 (5, [some (.inr (.inr (1, b, 0))), some (.inl (nI m)), some (.inl (nI k)), some (.inl (nI t)), some (.inl (nI q)), o], [], (I, J, R)) _
    refine dn_run 2 (show tkDn tm_39 (9, [some (.inr (.inr (1, b, 0))), some (.inl (nI m)), some (.inl (nI k)), some (.inl (nI t)), some (.inl (nI q)), o], [.inl 6, .inl (nI q)], (I, J, R)) _ from ?_)
    refine dn_if rfl rfl rfl (fun (c : 6 < (nI q)) => ?_) (fun (c : ¬ 6 < (nI q)) => ?_)
    · show tkDn tm_39 (48, [some (.inr (.inr (1, b, 0))), some (.inl (nI m)), some (.inl (nI k)), some (.inl (nI t)), some (.inl (nI q)), o], [], (I, J, R)) _
      refine dn_run 1 (show tkDn tm_39 (49, [some (.inr (.inr (1, b, 0))), some (.inl (nI m)), some (.inl (nI k)), some (.inl (nI t)), some (.inl (nI q)), o], [.inl 1], (I, J, R)) _ from ?_)
      refine dn_retb rfl rfl rfl rfl (by decide) ?_
      exact hQ
    · exact absurd (nI_lt (a := 6) (by omega) (by omega)) c
  | succ n ih =>
    intro q t o hq ht hQ
    show tkDn tm_39 (5, [some (.inr (.inr (1, b, 0))), some (.inl (nI m)), some (.inl (nI k)), some (.inl (nI t)), some (.inl (nI q)), o], [], (I, J, R)) _
    refine dn_run 2 (show tkDn tm_39 (9, [some (.inr (.inr (1, b, 0))), some (.inl (nI m)), some (.inl (nI k)), some (.inl (nI t)), some (.inl (nI q)), o], [.inl 6, .inl (nI q)], (I, J, R)) _ from ?_)
    refine dn_if rfl rfl rfl (fun (c : 6 < (nI q)) => ?_) (fun (c : ¬ 6 < (nI q)) => ?_)
    · exact absurd c (nI_nlt (a := 6) (by omega) (by omega))
    · show tkDn tm_39 (12, [some (.inr (.inr (1, b, 0))), some (.inl (nI m)), some (.inl (nI k)), some (.inl (nI t)), some (.inl (nI q)), o], [], (I, J, R)) _
      refine dn_run 2 (show tkDn tm_39 (14, [some (.inr (.inr (1, b, 0))), some (.inl (nI m)), some (.inl (nI k)), some (.inl (nI t)), some (.inl (nI q)), o], [.inl (nI k), .inl (nI t)], (I, J, R)) _ from ?_)
      refine dn_if rfl rfl rfl (fun (c2 : ¬ (nI t) = (nI k)) => ?_) (fun (c2 : (nI t) = (nI k)) => ?_)
      · show tkDn tm_39 (19, [some (.inr (.inr (1, b, 0))), some (.inl (nI m)), some (.inl (nI k)), some (.inl (nI t)), some (.inl (nI q)), o], [], (I, J, R)) _
        refine dn_run 2 (show tkDn tm_39 (21, [some (.inr (.inr (1, b, 0))), some (.inl (nI m)), some (.inl (nI k)), some (.inl (nI t)), some (.inl (nI q)), o], [.inl (nI t), .inr (.inr (1, b, 0))], (I, J, R)) _ from ?_)
        refine dn_call rfl rfl rfl rfl rfl (sn_giftInto hP w (by omega) ?_)
        show tkDn tm_39 (24, [some (.inr (.inr (1, b, 0))), some (.inl (nI m)), some (.inl (nI k)), some (.inl (nI t)), some (.inl (nI q)), o], [.inl (if gt S t < sG S then nI (gt S t) else -9)], (I, J, R)) _
        refine dn_run 3 (show tkDn tm_39 (30, [some (.inr (.inr (1, b, 0))), some (.inl (nI m)), some (.inl (nI k)), some (.inl (nI t)), some (.inl (nI q)), some (.inl (if gt S t < sG S then nI (gt S t) else -9))], [.inl (-9), .inl (if gt S t < sG S then nI (gt S t) else -9)], (I, J, R)) _ from ?_)
        refine dn_if rfl rfl rfl (fun (c3 : ¬ (if gt S t < sG S then nI (gt S t) else -9) = (-9)) => ?_) (fun (c3 : (if gt S t < sG S then nI (gt S t) else -9) = (-9)) => ?_)
        · show tkDn tm_39 (35, [some (.inr (.inr (1, b, 0))), some (.inl (nI m)), some (.inl (nI k)), some (.inl (nI t)), some (.inl (nI q)), some (.inl (if gt S t < sG S then nI (gt S t) else -9))], [], (I, J, R)) _
          have hg : gt S t < sG S := by by_cases z : gt S t < sG S; exact z; exact absurd (if_neg z) c3
          have h1 := hP.gl w hg
          have hl := w.gl hg
          have h2 := hP.fr w hl
          rw [if_pos hg]
          show tkDn tm_39 (35, [some (.inr (.inr (1, b, 0))), some (.inl (nI m)), some (.inl (nI k)), some (.inl (nI t)), some (.inl (nI q)), some (.inl (nI (gt S t)))], [], (I, J, R)) _
          refine dn_run 2 (show tkDn tm_39 (38, [some (.inr (.inr (1, b, 0))), some (.inl (nI m)), some (.inl (nI k)), some (.inl (nI t)), some (.inl (nI q)), some (.inl (nI (gt S t)))], [.inl (nI (gt S t)), .inr (.inr (1, b, 0))], (I, J, R)) _ from ?_)
          refine dn_call rfl rfl rfl rfl rfl (sN_giftFrom hP w hg ?_)
          show tkDn tm_39 (41, [some (.inr (.inr (1, b, 0))), some (.inl (nI m)), some (.inl (nI k)), some (.inl (nI t)), some (.inl (nI q)), some (.inl (nI (gt S t)))], [.inl (nI (sf S (sgl S (gt S t))))], (I, J, R)) _
          refine dn_run 3 (show tkDn tm_39 (5, [some (.inr (.inr (1, b, 0))), some (.inl (nI m)), some (.inl (nI k)), some (.inl (nI (sf S (sgl S (gt S t))))), some (.inl ((nI q) + 1)), some (.inl (nI (gt S t)))], [], (I, J, R)) _ from ?_)
          rw [nI_1]
          have c2 : ¬ t = k := fun z => c2 (by rw [z])
          rw [show cfF S k (n + 1) t = cfF S k n (sf S (sgl S (gt S t))) by show (if t = k then true else if gt S t < sG S then _ else _) = _; rw [if_neg c2, if_pos hg]] at hQ
          exact ih (q + 1) _ _ (by omega) (w.fM hl) hQ
        · show tkDn tm_39 (33, [some (.inr (.inr (1, b, 0))), some (.inl (nI m)), some (.inl (nI k)), some (.inl (nI t)), some (.inl (nI q)), some (.inl (if gt S t < sG S then nI (gt S t) else -9))], [], (I, J, R)) _
          refine dn_run 1 (show tkDn tm_39 (34, [some (.inr (.inr (1, b, 0))), some (.inl (nI m)), some (.inl (nI k)), some (.inl (nI t)), some (.inl (nI q)), some (.inl (if gt S t < sG S then nI (gt S t) else -9))], [.inl 0], (I, J, R)) _ from ?_)
          refine dn_retb rfl rfl rfl rfl (by decide) ?_
          have c2 : ¬ t = k := fun z => c2 (by rw [z])
          have hg : ¬ gt S t < sG S := fun z => by rw [if_pos z] at c3; exact nI_n9 (by omega) c3
          rw [show cfF S k (n + 1) t = false by show (if t = k then true else if gt S t < sG S then _ else _) = _; rw [if_neg c2, if_neg hg]] at hQ
          exact hQ
      · show tkDn tm_39 (17, [some (.inr (.inr (1, b, 0))), some (.inl (nI m)), some (.inl (nI k)), some (.inl (nI t)), some (.inl (nI q)), o], [], (I, J, R)) _
        refine dn_run 1 (show tkDn tm_39 (18, [some (.inr (.inr (1, b, 0))), some (.inl (nI m)), some (.inl (nI k)), some (.inl (nI t)), some (.inl (nI q)), o], [.inl 1], (I, J, R)) _ from ?_)
        refine dn_retb rfl rfl rfl rfl (by decide) ?_
        have c2 : t = k := (nI_eq (by omega) (by omega)).mp c2
        rw [show cfF S k (n + 1) t = true from if_pos c2] at hQ
        exact hQ
theorem sn_comesFrom {I : tkI} {J : tkJ} {R : Nat → Nat} {b : Nat} {Q : tkQ} {S : tkS} (hP : NetP (I 1 b) S) (w : WF S) {m k : Nat} (hm : m < sM S) (hk : k < 16) (hQ : Q (some (.inl (if cfF S k 7 m = true then 1 else 0))) (I, J, R)) : tkDn tm_39 (0, [some (.inr (.inr (1, b, 0))), some (.inl (nI m)), some (.inl (nI k)), none, none, none], [], (I, J, R)) Q := by
  refine dn_run 4 (show tkDn tm_39 (5, [some (.inr (.inr (1, b, 0))), some (.inl (nI m)), some (.inl (nI k)), some (.inl (nI m)), some (.inl 0), none], [], (I, J, R)) _ from ?_)
  exact sn_comesFrom_loop hP w hk 7 0 m none rfl hm hQ
theorem sn_addWish {I : tkI} {J : tkJ} {R : Nat → Nat} {b : Nat} {Q : tkQ} {S : tkS} (hP : NetP (I 1 b) S) (w : WF S) (hb : b < 2) {u v l h : Int32} (hQ : ∀ X, NetP X (opWish S u v l h).2 → Q (some (.inl (opWish S u v l h).1)) (tk_so I 1 b X, J, R)) : tkDn tm_31 (0, [some (.inr (.inr (1, b, 0))), some (.inl u), some (.inl v), some (.inl l), some (.inl h), none], [], (I, J, R)) Q := by
  have hM16 := w.1
  have hL60 := w.2.1
  have hL := hP.l
  refine dn_run 6 (show tkDn tm_31 (8, [some (.inr (.inr (1, b, 0))), some (.inl u), some (.inl v), some (.inl l), some (.inl h), none], [.inl (-100000), .inl h, .inl l, .inl v, .inl u, .inr (.inr (1, b, 0))], (I, J, R)) _ from ?_)
  refine dn_call rfl rfl rfl rfl rfl (sn_refuseLink hP ?_)
  show tkDn tm_31 (11, [some (.inr (.inr (1, b, 0))), some (.inl u), some (.inl v), some (.inl l), some (.inl h), none], [.inl (rfF S u v l h (-100000))], (I, J, R)) _
  refine dn_run 2 (show tkDn tm_31 (15, [some (.inr (.inr (1, b, 0))), some (.inl u), some (.inl v), some (.inl l), some (.inl h), some (.inl (rfF S u v l h (-100000)))], [.inl (rfF S u v l h (-100000))], (I, J, R)) _ from ?_)
  refine dn_if rfl rfl rfl (fun (c1 : (rfF S u v l h (-100000)) = 0) => ?_) (fun (c1 : ¬ (rfF S u v l h (-100000)) = 0) => ?_)
  · show tkDn tm_31 (21, [some (.inr (.inr (1, b, 0))), some (.inl u), some (.inl v), some (.inl l), some (.inl h), some (.inl (rfF S u v l h (-100000)))], [], (I, J, R)) _
    refine dn_run 3 (show tkDn tm_31 (27, [some (.inr (.inr (1, b, 0))), some (.inl u), some (.inl v), some (.inl l), some (.inl h), some (.inl (rfF S u v l h (-100000)))], [.inl 60, .inl (I 1 b 0 1)], (I, J, R)) _ from ?_)
    refine dn_if rfl rfl rfl (fun (c2 : (I 1 b 0 1) < 60) => ?_) (fun (c2 : ¬ (I 1 b 0 1) < 60) => ?_)
    · show tkDn tm_31 (33, [some (.inr (.inr (1, b, 0))), some (.inl u), some (.inl v), some (.inl l), some (.inl h), some (.inl (rfF S u v l h (-100000)))], [], (I, J, R)) _
      rw [hL] at c2
      have hlt : sL S < 60 := (nI_ltI (b := 60) (by omega) (by decide)).mp c2
      obtain ⟨h1, h2, h3, h4⟩ := rfF_0 c1
      rw [show opWish S u v l h = (nI (sL S), app S u.toNatClampNeg v.toNatClampNeg l h (-9)) by unfold opWish; rw [if_pos c1, if_neg (by omega)]] at hQ
      obtain ⟨u, hu, rfl, hu2⟩ := hasM_nat hM16 h1
      obtain ⟨v, hv, rfl, hv2⟩ := hasM_nat hM16 h2
      rw [hu2, hv2] at hQ
      show tkDn tm_31 (33, [some (.inr (.inr (1, b, 0))), some (.inl (nI u)), some (.inl (nI v)), some (.inl l), some (.inl h), some (.inl (rfF S (nI u) (nI v) l h (-100000)))], [], (I, J, R)) _
      refine dn_run 6 (show tkDn tm_31 (41, [some (.inr (.inr (1, b, 0))), some (.inl (nI u)), some (.inl (nI v)), some (.inl l), some (.inl h), some (.inl (rfF S (nI u) (nI v) l h (-100000)))], [.inl (-9), .inl h, .inl l, .inl (nI v), .inl (nI u), .inr (.inr (1, b, 0))], (I, J, R)) _ from ?_)
      refine dn_call rfl rfl rfl rfl rfl (sn_append hb hP hlt (fun X hX => ?_))
      show tkDn tm_31 (44, [some (.inr (.inr (1, b, 0))), some (.inl (nI u)), some (.inl (nI v)), some (.inl l), some (.inl h), some (.inl (rfF S (nI u) (nI v) l h (-100000)))], [.inl (nI (sL S))], (tk_so I 1 b X, J, R)) _
      refine dn_ret0 rfl rfl rfl rfl ?_
      exact hQ X hX
    · show tkDn tm_31 (30, [some (.inr (.inr (1, b, 0))), some (.inl u), some (.inl v), some (.inl l), some (.inl h), some (.inl (rfF S u v l h (-100000)))], [], (I, J, R)) _
      refine dn_run 1 (show tkDn tm_31 (32, [some (.inr (.inr (1, b, 0))), some (.inl u), some (.inl v), some (.inl l), some (.inl h), some (.inl (rfF S u v l h (-100000)))], [.inl (-14)], (I, J, R)) _ from ?_)
      refine dn_ret0 rfl rfl rfl rfl ?_
      rw [hL] at c2
      have hlt : 60 ≤ sL S := Nat.le_of_not_lt (fun z => c2 (nI_lt (b := 60) z (by decide)))
      rw [show opWish S u v l h = (-14, S) by unfold opWish; rw [if_pos c1, if_pos hlt]] at hQ
      have := hQ (I 1 b) hP
      rw [tk_so_id] at this
      exact this
  · show tkDn tm_31 (18, [some (.inr (.inr (1, b, 0))), some (.inl u), some (.inl v), some (.inl l), some (.inl h), some (.inl (rfF S u v l h (-100000)))], [], (I, J, R)) _
    refine dn_run 1 (show tkDn tm_31 (20, [some (.inr (.inr (1, b, 0))), some (.inl u), some (.inl v), some (.inl l), some (.inl h), some (.inl (rfF S u v l h (-100000)))], [.inl (rfF S u v l h (-100000))], (I, J, R)) _ from ?_)
    refine dn_ret0 rfl rfl rfl rfl ?_
    rw [show opWish S u v l h = (rfF S u v l h (-100000), S) by unfold opWish; rw [if_neg c1]] at hQ
    have := hQ (I 1 b) hP
    rw [tk_so_id] at this
    exact this
