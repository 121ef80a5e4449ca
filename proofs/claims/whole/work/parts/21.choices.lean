/-! Choices -/
theorem sc_hangsTogether {I : tkI} {J : tkJ} {R : Nat → Nat} {Q : tkQ} {b : Nat} {S : tkS} (hP : NetP (I 1 b) S) (w : WF S) (hQ : ∀ r, RowP 16 r (togF S).2 → Q (some (.inl (if (togF S).1 = true then 1 else 0))) (I, tk_so J 0 0 (tk_u1 (J 0 0) 1 r), R)) : tkDn tm_1 (0, [some (.inr (.inr (0, 0, 0))), some (.inr (.inr (1, b, 0)))], [], (I, J, R)) Q := by
  have hM16 := w.1
  have hL60 := w.2.1
  have hG6 := w.2.2.1
  refine dn_run 3 (show tkDn tm_1 (5, [some (.inr (.inr (0, 0, 0))), some (.inr (.inr (1, b, 0)))], [.inr (.inr (0, 0, 1)), .inr (.inr (1, b, 0))], (I, J, R)) _ from ?_)
  refine dn_call rfl rfl rfl rfl rfl (ss_ofAllLinks_0_1 hP w (fun r hr => ?_))
  show tkDn tm_1 (8, [some (.inr (.inr (0, 0, 0))), some (.inr (.inr (1, b, 0)))], [], (I, tk_so J 0 0 (tk_u1 (J 0 0) 1 r), R)) _
  refine dn_run 3 (show tkDn tm_1 (13, [some (.inr (.inr (0, 0, 0))), some (.inr (.inr (1, b, 0)))], [.inr (.inr (1, b, 0)), .inr (.inr (0, 0, 1))], (I, tk_so J 0 0 (tk_u1 (J 0 0) 1 r), R)) _ from ?_)
  refine dn_call rfl rfl rfl rfl rfl (sN_momentCount hP ?_)
  show tkDn tm_1 (16, [some (.inr (.inr (0, 0, 0))), some (.inr (.inr (1, b, 0)))], [.inl (nI (sM S)), .inr (.inr (0, 0, 1))], (I, tk_so J 0 0 (tk_u1 (J 0 0) 1 r), R)) _
  refine dn_call rfl rfl rfl rfl rfl (ss_close_0_1 (d := linkM S (sL S)) hM16 hr (fun r3 hr3 => ?_))
  rw [tk_so_so, tk_so_same, tk_u1_u1]
  show tkDn tm_1 (19, [some (.inr (.inr (0, 0, 0))), some (.inr (.inr (1, b, 0)))], [.inl (if (clF (linkM S (sL S)) (sM S)).1 = true then 1 else 0)], (I, tk_so J 0 0 (tk_u1 (J 0 0) 1 r3), R)) _
  refine dn_retb rfl rfl rfl rfl (by by_cases z : (clF (linkM S (sL S)) (sM S)).1 = true; exact Or.inr (if_pos z); exact Or.inl (if_neg z)) ?_
  exact hQ r3 hr3
theorem sc_leastSum {I : tkI} {J : tkJ} {R : Nat → Nat} {Q : tkQ} {d : tkD} {a c : Nat} (hr : RowP 16 (J 0 0 1) d) (ha : a < 16) (hc : c < 16) (hQ : Q (some (.inr (.inl (d a c)))) (I, J, R)) : tkDn tm_2 (0, [some (.inr (.inr (0, 0, 0))), some (.inl (nI a)), some (.inl (nI c))], [], (I, J, R)) Q := by
  refine dn_run 4 (show tkDn tm_2 (6, [some (.inr (.inr (0, 0, 0))), some (.inl (nI a)), some (.inl (nI c))], [.inl (nI c), .inl (nI a), .inr (.inr (0, 0, 1))], (I, J, R)) _ from ?_)
  refine dn_call rfl rfl rfl rfl rfl (ss_cell ?_)
  show tkDn tm_2 (9, [some (.inr (.inr (0, 0, 0))), some (.inl (nI a)), some (.inl (nI c))], [.inl (nI (16 * a + c)), .inr (.inr (0, 0, 1))], (I, J, R)) _
  refine dn_run 1 (show (vp_in (nI (16 * a + c)) 256) ∧ tkDn tm_2 (10, [some (.inr (.inr (0, 0, 0))), some (.inl (nI a)), some (.inl (nI c))], [.inr (.inl (J 0 0 1 ((nI (16 * a + c)).toNatClampNeg)))], (I, J, R)) _ from ⟨vp_in_nI (by omega) (by omega), ?_⟩)
  rw [hr.at (by omega) ha hc]
  refine dn_ret0 rfl rfl rfl rfl ?_
  exact hQ
theorem sc_rootOf_loop {I : tkI} {J : tkJ} {R : Nat → Nat} {Q : tkQ} {b : Nat} {S : tkS} (hP : NetP (I 1 b) S) (w : WF S) {m : Nat} : ∀ n t q o, q + n = 6 → t < sM S → Q (some (.inl (nI (rtF S n t)))) (I, J, R) → tkDn tm_5 (4, [some (.inr (.inr (1, b, 0))), some (.inl (nI m)), some (.inl (nI t)), some (.inl (nI q)), o], [], (I, J, R)) Q := by
  have hM16 := w.1
  have hL60 := w.2.1
  have hG6 := w.2.2.1
  intro n
  induction n with
  | zero =>
    intro t q o hq ht hQ
    show tkDn tm_5 (4, [some (.inr (.inr (1, b, 0))), some (.inl (nI m)), some (.inl (nI t)), some (.inl (nI q)), o], [], (I, J, R)) _
    refine dn_run 2 (show tkDn tm_5 (7, [some (.inr (.inr (1, b, 0))), some (.inl (nI m)), some (.inl (nI t)), some (.inl (nI q)), o], [.inl 6, .inl (nI q)], (I, J, R)) _ from ?_)
    refine dn_if rfl rfl rfl (fun (c : 6 ≤ (nI q)) => ?_) (fun (c : ¬ 6 ≤ (nI q)) => ?_)
    · show tkDn tm_5 (39, [some (.inr (.inr (1, b, 0))), some (.inl (nI m)), some (.inl (nI t)), some (.inl (nI q)), o], [], (I, J, R)) _
      refine dn_run 1 (show tkDn tm_5 (40, [some (.inr (.inr (1, b, 0))), some (.inl (nI m)), some (.inl (nI t)), some (.inl (nI q)), o], [.inl (nI t)], (I, J, R)) _ from ?_)
      refine dn_ret0 rfl rfl rfl rfl ?_
      exact hQ
    · exact absurd (nI_le (a := 6) (by omega) (by omega)) c
  | succ n ih =>
    intro t q o hq ht hQ
    show tkDn tm_5 (4, [some (.inr (.inr (1, b, 0))), some (.inl (nI m)), some (.inl (nI t)), some (.inl (nI q)), o], [], (I, J, R)) _
    refine dn_run 2 (show tkDn tm_5 (7, [some (.inr (.inr (1, b, 0))), some (.inl (nI m)), some (.inl (nI t)), some (.inl (nI q)), o], [.inl 6, .inl (nI q)], (I, J, R)) _ from ?_)
    refine dn_if rfl rfl rfl (fun (c : 6 ≤ (nI q)) => ?_) (fun (c : ¬ 6 ≤ (nI q)) => ?_)
    · exact absurd c (nI_ge (b := 6) (by omega) (by omega))
    · show tkDn tm_5 (10, [some (.inr (.inr (1, b, 0))), some (.inl (nI m)), some (.inl (nI t)), some (.inl (nI q)), o], [], (I, J, R)) _
      refine dn_run 2 (show tkDn tm_5 (12, [some (.inr (.inr (1, b, 0))), some (.inl (nI m)), some (.inl (nI t)), some (.inl (nI q)), o], [.inl (nI t), .inr (.inr (1, b, 0))], (I, J, R)) _ from ?_)
      refine dn_call rfl rfl rfl rfl rfl (sn_giftInto hP w (by omega) ?_)
      show tkDn tm_5 (15, [some (.inr (.inr (1, b, 0))), some (.inl (nI m)), some (.inl (nI t)), some (.inl (nI q)), o], [.inl (if gt S t < sG S then nI (gt S t) else -9)], (I, J, R)) _
      refine dn_run 3 (show tkDn tm_5 (21, [some (.inr (.inr (1, b, 0))), some (.inl (nI m)), some (.inl (nI t)), some (.inl (nI q)), some (.inl (if gt S t < sG S then nI (gt S t) else -9))], [.inl (-9), .inl (if gt S t < sG S then nI (gt S t) else -9)], (I, J, R)) _ from ?_)
      refine dn_if rfl rfl rfl (fun (c2 : ¬ (if gt S t < sG S then nI (gt S t) else -9) = (-9)) => ?_) (fun (c2 : (if gt S t < sG S then nI (gt S t) else -9) = (-9)) => ?_)
      · show tkDn tm_5 (26, [some (.inr (.inr (1, b, 0))), some (.inl (nI m)), some (.inl (nI t)), some (.inl (nI q)), some (.inl (if gt S t < sG S then nI (gt S t) else -9))], [], (I, J, R)) _
        have hg : gt S t < sG S := by by_cases z : gt S t < sG S; exact z; exact absurd (if_neg z) c2
        rw [if_pos hg]
        show tkDn tm_5 (26, [some (.inr (.inr (1, b, 0))), some (.inl (nI m)), some (.inl (nI t)), some (.inl (nI q)), some (.inl (nI (gt S t)))], [], (I, J, R)) _
        refine dn_run 2 (show tkDn tm_5 (29, [some (.inr (.inr (1, b, 0))), some (.inl (nI m)), some (.inl (nI t)), some (.inl (nI q)), some (.inl (nI (gt S t)))], [.inl (nI (gt S t)), .inr (.inr (1, b, 0))], (I, J, R)) _ from ?_)
        refine dn_call rfl rfl rfl rfl rfl (sN_giftFrom hP w hg ?_)
        show tkDn tm_5 (32, [some (.inr (.inr (1, b, 0))), some (.inl (nI m)), some (.inl (nI t)), some (.inl (nI q)), some (.inl (nI (gt S t)))], [.inl (nI (sf S (sgl S (gt S t))))], (I, J, R)) _
        refine dn_run 3 (show tkDn tm_5 (4, [some (.inr (.inr (1, b, 0))), some (.inl (nI m)), some (.inl (nI (sf S (sgl S (gt S t))))), some (.inl ((nI q) + 1)), some (.inl (nI (gt S t)))], [], (I, J, R)) _ from ?_)
        rw [nI_1]
        rw [show rtF S (n + 1) t = rtF S n (sf S (sgl S (gt S t))) from if_pos hg] at hQ
        exact ih _ (q + 1) _ (by omega) (w.fM (w.gl hg)) hQ
      · show tkDn tm_5 (24, [some (.inr (.inr (1, b, 0))), some (.inl (nI m)), some (.inl (nI t)), some (.inl (nI q)), some (.inl (if gt S t < sG S then nI (gt S t) else -9))], [], (I, J, R)) _
        refine dn_run 1 (show tkDn tm_5 (25, [some (.inr (.inr (1, b, 0))), some (.inl (nI m)), some (.inl (nI t)), some (.inl (nI q)), some (.inl (if gt S t < sG S then nI (gt S t) else -9))], [.inl (nI t)], (I, J, R)) _ from ?_)
        refine dn_ret0 rfl rfl rfl rfl ?_
        have hg : ¬ gt S t < sG S := fun z => by rw [if_pos z] at c2; exact nI_n9 (by omega) c2
        rw [show rtF S (n + 1) t = t from if_neg hg] at hQ
        exact hQ
theorem sc_rootOf {I : tkI} {J : tkJ} {R : Nat → Nat} {Q : tkQ} {b : Nat} {S : tkS} (hP : NetP (I 1 b) S) (w : WF S) {m : Nat} (hm : m < sM S) (hQ : Q (some (.inl (nI (rtF S 6 m)))) (I, J, R)) : tkDn tm_5 (0, [some (.inr (.inr (1, b, 0))), some (.inl (nI m)), none, none, none], [], (I, J, R)) Q := by
  refine dn_run 4 (show tkDn tm_5 (4, [some (.inr (.inr (1, b, 0))), some (.inl (nI m)), some (.inl (nI m)), some (.inl 0), none], [], (I, J, R)) _ from ?_)
  exact sc_rootOf_loop hP w 6 m 0 none rfl hm hQ
theorem sc_giftsBehind_loop {I : tkI} {J : tkJ} {R : Nat → Nat} {Q : tkQ} {b : Nat} {S : tkS} (hP : NetP (I 1 b) S) (w : WF S) {m : Nat} : ∀ n t acc q o, q + n = 6 → t < sM S → Q (some (.inl (gbF S n t acc))) (I, J, R) → tkDn tm_6 (7, [some (.inr (.inr (1, b, 0))), some (.inl (nI m)), some (.inl (nI t)), some (.inl acc), some (.inl (nI q)), o], [], (I, J, R)) Q := by
  have hM16 := w.1
  have hL60 := w.2.1
  have hG6 := w.2.2.1
  intro n
  induction n with
  | zero =>
    intro t acc q o hq ht hQ
    show tkDn tm_6 (7, [some (.inr (.inr (1, b, 0))), some (.inl (nI m)), some (.inl (nI t)), some (.inl acc), some (.inl (nI q)), o], [], (I, J, R)) _
    refine dn_run 2 (show tkDn tm_6 (11, [some (.inr (.inr (1, b, 0))), some (.inl (nI m)), some (.inl (nI t)), some (.inl acc), some (.inl (nI q)), o], [.inl 6, .inl (nI q)], (I, J, R)) _ from ?_)
    refine dn_if rfl rfl rfl (fun (c : 6 ≤ (nI q)) => ?_) (fun (c : ¬ 6 ≤ (nI q)) => ?_)
    · show tkDn tm_6 (50, [some (.inr (.inr (1, b, 0))), some (.inl (nI m)), some (.inl (nI t)), some (.inl acc), some (.inl (nI q)), o], [], (I, J, R)) _
      refine dn_run 1 (show tkDn tm_6 (51, [some (.inr (.inr (1, b, 0))), some (.inl (nI m)), some (.inl (nI t)), some (.inl acc), some (.inl (nI q)), o], [.inl acc], (I, J, R)) _ from ?_)
      refine dn_ret0 rfl rfl rfl rfl ?_
      exact hQ
    · exact absurd (nI_le (a := 6) (by omega) (by omega)) c
  | succ n ih =>
    intro t acc q o hq ht hQ
    show tkDn tm_6 (7, [some (.inr (.inr (1, b, 0))), some (.inl (nI m)), some (.inl (nI t)), some (.inl acc), some (.inl (nI q)), o], [], (I, J, R)) _
    refine dn_run 2 (show tkDn tm_6 (11, [some (.inr (.inr (1, b, 0))), some (.inl (nI m)), some (.inl (nI t)), some (.inl acc), some (.inl (nI q)), o], [.inl 6, .inl (nI q)], (I, J, R)) _ from ?_)
    refine dn_if rfl rfl rfl (fun (c : 6 ≤ (nI q)) => ?_) (fun (c : ¬ 6 ≤ (nI q)) => ?_)
    · exact absurd c (nI_ge (b := 6) (by omega) (by omega))
    · show tkDn tm_6 (14, [some (.inr (.inr (1, b, 0))), some (.inl (nI m)), some (.inl (nI t)), some (.inl acc), some (.inl (nI q)), o], [], (I, J, R)) _
      refine dn_run 2 (show tkDn tm_6 (16, [some (.inr (.inr (1, b, 0))), some (.inl (nI m)), some (.inl (nI t)), some (.inl acc), some (.inl (nI q)), o], [.inl (nI t), .inr (.inr (1, b, 0))], (I, J, R)) _ from ?_)
      refine dn_call rfl rfl rfl rfl rfl (sn_giftInto hP w (by omega) ?_)
      show tkDn tm_6 (19, [some (.inr (.inr (1, b, 0))), some (.inl (nI m)), some (.inl (nI t)), some (.inl acc), some (.inl (nI q)), o], [.inl (if gt S t < sG S then nI (gt S t) else -9)], (I, J, R)) _
      refine dn_run 3 (show tkDn tm_6 (25, [some (.inr (.inr (1, b, 0))), some (.inl (nI m)), some (.inl (nI t)), some (.inl acc), some (.inl (nI q)), some (.inl (if gt S t < sG S then nI (gt S t) else -9))], [.inl (-9), .inl (if gt S t < sG S then nI (gt S t) else -9)], (I, J, R)) _ from ?_)
      refine dn_if rfl rfl rfl (fun (c2 : ¬ (if gt S t < sG S then nI (gt S t) else -9) = (-9)) => ?_) (fun (c2 : (if gt S t < sG S then nI (gt S t) else -9) = (-9)) => ?_)
      · show tkDn tm_6 (30, [some (.inr (.inr (1, b, 0))), some (.inl (nI m)), some (.inl (nI t)), some (.inl acc), some (.inl (nI q)), some (.inl (if gt S t < sG S then nI (gt S t) else -9))], [], (I, J, R)) _
        have hg : gt S t < sG S := by by_cases z : gt S t < sG S; exact z; exact absurd (if_neg z) c2
        rw [if_pos hg]
        show tkDn tm_6 (30, [some (.inr (.inr (1, b, 0))), some (.inl (nI m)), some (.inl (nI t)), some (.inl acc), some (.inl (nI q)), some (.inl (nI (gt S t)))], [], (I, J, R)) _
        refine dn_run 8 (show tkDn tm_6 (40, [some (.inr (.inr (1, b, 0))), some (.inl (nI m)), some (.inl (nI t)), some (.inl (acc ||| (1 <<< ((nI (gt S t)) &&& 31)))), some (.inl (nI q)), some (.inl (nI (gt S t)))], [.inl (nI (gt S t)), .inr (.inr (1, b, 0))], (I, J, R)) _ from ?_)
        refine dn_call rfl rfl rfl rfl rfl (sN_giftFrom hP w hg ?_)
        show tkDn tm_6 (43, [some (.inr (.inr (1, b, 0))), some (.inl (nI m)), some (.inl (nI t)), some (.inl (acc ||| (1 <<< ((nI (gt S t)) &&& 31)))), some (.inl (nI q)), some (.inl (nI (gt S t)))], [.inl (nI (sf S (sgl S (gt S t))))], (I, J, R)) _
        refine dn_run 3 (show tkDn tm_6 (7, [some (.inr (.inr (1, b, 0))), some (.inl (nI m)), some (.inl (nI (sf S (sgl S (gt S t))))), some (.inl (acc ||| (1 <<< ((nI (gt S t)) &&& 31)))), some (.inl ((nI q) + 1)), some (.inl (nI (gt S t)))], [], (I, J, R)) _ from ?_)
        rw [nI_1]
        rw [show gbF S (n + 1) t acc = gbF S n (sf S (sgl S (gt S t))) (acc ||| (1 <<< (nI (gt S t) &&& 31))) from if_pos hg] at hQ
        exact ih _ _ (q + 1) _ (by omega) (w.fM (w.gl hg)) hQ
      · show tkDn tm_6 (28, [some (.inr (.inr (1, b, 0))), some (.inl (nI m)), some (.inl (nI t)), some (.inl acc), some (.inl (nI q)), some (.inl (if gt S t < sG S then nI (gt S t) else -9))], [], (I, J, R)) _
        refine dn_run 1 (show tkDn tm_6 (29, [some (.inr (.inr (1, b, 0))), some (.inl (nI m)), some (.inl (nI t)), some (.inl acc), some (.inl (nI q)), some (.inl (if gt S t < sG S then nI (gt S t) else -9))], [.inl acc], (I, J, R)) _ from ?_)
        refine dn_ret0 rfl rfl rfl rfl ?_
        have hg : ¬ gt S t < sG S := fun z => by rw [if_pos z] at c2; exact nI_n9 (by omega) c2
        rw [show gbF S (n + 1) t acc = acc from if_neg hg] at hQ
        exact hQ
theorem sc_giftsBehind {I : tkI} {J : tkJ} {R : Nat → Nat} {Q : tkQ} {b : Nat} {S : tkS} (hP : NetP (I 1 b) S) (w : WF S) {m : Nat} (hm : m < sM S) (hQ : Q (some (.inl (gbF S 6 m 0))) (I, J, R)) : tkDn tm_6 (0, [some (.inr (.inr (1, b, 0))), some (.inl (nI m)), none, none, none, none], [], (I, J, R)) Q := by
  refine dn_run 6 (show tkDn tm_6 (7, [some (.inr (.inr (1, b, 0))), some (.inl (nI m)), some (.inl (nI m)), some (.inl 0), some (.inl 0), none], [], (I, J, R)) _ from ?_)
  exact sc_giftsBehind_loop hP w 6 m 0 0 none rfl hm hQ
theorem sc_sumOfLengths_loop {I : tkI} {J : tkJ} {R : Nat → Nat} {Q : tkQ} {b : Nat} {S : tkS} (hP : NetP (I 1 b) S) (w : WF S) {mask k : Int32} (hQ : Q (some (.inr (.inl (slS S mask k (sG S))))) (I, J, R)) : ∀ n g, g + n = sG S → tkDn tm_7 (5, [some (.inr (.inr (1, b, 0))), some (.inl mask), some (.inl k), some (.inr (.inl (slS S mask k g))), none, some (.inl (nI g))], [], (I, J, R)) Q := by
  have hM16 := w.1
  have hL60 := w.2.1
  have hG6 := w.2.2.1
  intro n
  induction n with
  | zero =>
    intro g hg
    show tkDn tm_7 (5, [some (.inr (.inr (1, b, 0))), some (.inl mask), some (.inl k), some (.inr (.inl (slS S mask k g))), none, some (.inl (nI g))], [], (I, J, R)) _
    refine dn_run 2 (show tkDn tm_7 (8, [some (.inr (.inr (1, b, 0))), some (.inl mask), some (.inl k), some (.inr (.inl (slS S mask k g))), none, some (.inl (nI g))], [.inr (.inr (1, b, 0)), .inl (nI g)], (I, J, R)) _ from ?_)
    refine dn_call rfl rfl rfl rfl rfl (sN_giftCount hP ?_)
    show tkDn tm_7 (11, [some (.inr (.inr (1, b, 0))), some (.inl mask), some (.inl k), some (.inr (.inl (slS S mask k g))), none, some (.inl (nI g))], [.inl (nI (sG S)), .inl (nI g)], (I, J, R)) _
    refine dn_if rfl rfl rfl (fun (c : (nI (sG S)) ≤ (nI g)) => ?_) (fun (c : ¬ (nI (sG S)) ≤ (nI g)) => ?_)
    · show tkDn tm_7 (41, [some (.inr (.inr (1, b, 0))), some (.inl mask), some (.inl k), some (.inr (.inl (slS S mask k g))), none, some (.inl (nI g))], [], (I, J, R)) _
      refine dn_run 1 (show tkDn tm_7 (42, [some (.inr (.inr (1, b, 0))), some (.inl mask), some (.inl k), some (.inr (.inl (slS S mask k g))), none, some (.inl (nI g))], [.inr (.inl (slS S mask k g))], (I, J, R)) _ from ?_)
      refine dn_ret0 rfl rfl rfl rfl ?_
      rw [show g = sG S by omega]
      exact hQ
    · exact absurd (nI_le (by omega) (by omega)) c
  | succ n ih =>
    intro g hg
    show tkDn tm_7 (5, [some (.inr (.inr (1, b, 0))), some (.inl mask), some (.inl k), some (.inr (.inl (slS S mask k g))), none, some (.inl (nI g))], [], (I, J, R)) _
    refine dn_run 2 (show tkDn tm_7 (8, [some (.inr (.inr (1, b, 0))), some (.inl mask), some (.inl k), some (.inr (.inl (slS S mask k g))), none, some (.inl (nI g))], [.inr (.inr (1, b, 0)), .inl (nI g)], (I, J, R)) _ from ?_)
    refine dn_call rfl rfl rfl rfl rfl (sN_giftCount hP ?_)
    show tkDn tm_7 (11, [some (.inr (.inr (1, b, 0))), some (.inl mask), some (.inl k), some (.inr (.inl (slS S mask k g))), none, some (.inl (nI g))], [.inl (nI (sG S)), .inl (nI g)], (I, J, R)) _
    refine dn_if rfl rfl rfl (fun (c : (nI (sG S)) ≤ (nI g)) => ?_) (fun (c : ¬ (nI (sG S)) ≤ (nI g)) => ?_)
    · exact absurd c (nI_ge (by omega) (by omega))
    · show tkDn tm_7 (14, [some (.inr (.inr (1, b, 0))), some (.inl mask), some (.inl k), some (.inr (.inl (slS S mask k g))), none, some (.inl (nI g))], [], (I, J, R)) _
      refine dn_run 6 (show tkDn tm_7 (21, [some (.inr (.inr (1, b, 0))), some (.inl mask), some (.inl k), some (.inr (.inl (slS S mask k g))), none, some (.inl (nI g))], [.inl 1, .inl ((mask >>> ((nI g) &&& 31)) &&& 1)], (I, J, R)) _ from ?_)
      refine dn_if rfl rfl rfl (fun (c2 : ¬ ((mask >>> ((nI g) &&& 31)) &&& 1) = 1) => ?_) (fun (c2 : ((mask >>> ((nI g) &&& 31)) &&& 1) = 1) => ?_)
      · show tkDn tm_7 (35, [some (.inr (.inr (1, b, 0))), some (.inl mask), some (.inl k), some (.inr (.inl (slS S mask k g))), none, some (.inl (nI g))], [], (I, J, R)) _
        refine dn_run 2 (show tkDn tm_7 (5, [some (.inr (.inr (1, b, 0))), some (.inl mask), some (.inl k), some (.inr (.inl (slS S mask k g))), none, some (.inl ((nI g) + 1))], [], (I, J, R)) _ from ?_)
        rw [nI_1]
        rw [show slS S mask k g = slS S mask k (g + 1) from (if_neg c2).symm]
        exact ih (g + 1) (by omega)
      · show tkDn tm_7 (24, [some (.inr (.inr (1, b, 0))), some (.inl mask), some (.inl k), some (.inr (.inl (slS S mask k g))), none, some (.inl (nI g))], [], (I, J, R)) _
        refine dn_run 4 (show tkDn tm_7 (29, [some (.inr (.inr (1, b, 0))), some (.inl mask), some (.inl k), some (.inr (.inl (slS S mask k g))), none, some (.inl (nI g))], [.inl k, .inl (nI g), .inr (.inr (1, b, 0)), .inr (.inl (slS S mask k g))], (I, J, R)) _ from ?_)
        refine dn_call rfl rfl rfl rfl rfl (sn_chosenLength hP w (g := g) (by omega) ?_)
        show tkDn tm_7 (32, [some (.inr (.inr (1, b, 0))), some (.inl mask), some (.inl k), some (.inr (.inl (slS S mask k g))), none, some (.inl (nI g))], [.inl (chL S k g), .inr (.inl (slS S mask k g))], (I, J, R)) _
        refine dn_run 5 (show tkDn tm_7 (5, [some (.inr (.inr (1, b, 0))), some (.inl mask), some (.inl k), some (.inr (.inl ((slS S mask k g) + (((chL S k g) : Int32).toInt64)))), none, some (.inl ((nI g) + 1))], [], (I, J, R)) _ from ?_)
        rw [nI_1]
        rw [show slS S mask k g + (chL S k g).toInt64 = slS S mask k (g + 1) from (if_pos c2).symm]
        exact ih (g + 1) (by omega)
theorem sc_sumOfLengths {I : tkI} {J : tkJ} {R : Nat → Nat} {Q : tkQ} {b : Nat} {S : tkS} (hP : NetP (I 1 b) S) (w : WF S) {mask k : Int32} (hQ : Q (some (.inr (.inl (slS S mask k (sG S))))) (I, J, R)) : tkDn tm_7 (0, [some (.inr (.inr (1, b, 0))), some (.inl mask), some (.inl k), none, none, none], [], (I, J, R)) Q := by
  refine dn_run 4 (show tkDn tm_7 (5, [some (.inr (.inr (1, b, 0))), some (.inl mask), some (.inl k), some (.inr (.inl 0)), none, some (.inl 0)], [], (I, J, R)) _ from ?_)
  exact sc_sumOfLengths_loop hP w hQ (sG S) 0 (Nat.zero_add _)
theorem sc_putWorstWish {I : tkI} {J : tkJ} {R : Nat → Nat} {Q : tkQ} {b : Nat} {S : tkS} (hP : NetP (I 1 b) S) (w : WF S) {d : tkD} {l : Nat} (hl : l < sL S) (hr : RowP 16 (J 0 0 1) d) (hQ : ∀ r, RowP 16 r (wwM S d l) → Q none (I, tk_so J 0 0 (tk_u1 (J 0 0) 1 r), R)) : tkDn tm_4 (0, [some (.inr (.inr (0, 0, 0))), some (.inr (.inr (1, b, 0))), some (.inl (nI l)), none, none, none, none, none, none, none, none, none, none], [], (I, J, R)) Q := by
  have hM16 := w.1
  have hL60 := w.2.1
  have hG6 := w.2.2.1
  have hf := w.fM hl
  have he := w.eM hl
  have hra := rtF_lt w 6 _ hf
  have hrb := rtF_lt w 6 _ he
  refine dn_run 2 (show tkDn tm_4 (2, [some (.inr (.inr (0, 0, 0))), some (.inr (.inr (1, b, 0))), some (.inl (nI l)), none, none, none, none, none, none, none, none, none, none], [.inl (nI l), .inr (.inr (1, b, 0))], (I, J, R)) _ from ?_)
  refine dn_call rfl rfl rfl rfl rfl (sN_linkFrom hP w hl ?_)
  show tkDn tm_4 (5, [some (.inr (.inr (0, 0, 0))), some (.inr (.inr (1, b, 0))), some (.inl (nI l)), none, none, none, none, none, none, none, none, none, none], [.inl (nI (sf S l))], (I, J, R)) _
  refine dn_run 3 (show tkDn tm_4 (8, [some (.inr (.inr (0, 0, 0))), some (.inr (.inr (1, b, 0))), some (.inl (nI l)), some (.inl (nI (sf S l))), none, none, none, none, none, none, none, none, none], [.inl (nI l), .inr (.inr (1, b, 0))], (I, J, R)) _ from ?_)
  refine dn_call rfl rfl rfl rfl rfl (sN_linkTo hP w hl ?_)
  show tkDn tm_4 (11, [some (.inr (.inr (0, 0, 0))), some (.inr (.inr (1, b, 0))), some (.inl (nI l)), some (.inl (nI (sf S l))), none, none, none, none, none, none, none, none, none], [.inl (nI (se S l))], (I, J, R)) _
  refine dn_run 3 (show tkDn tm_4 (15, [some (.inr (.inr (0, 0, 0))), some (.inr (.inr (1, b, 0))), some (.inl (nI l)), some (.inl (nI (sf S l))), some (.inl (nI (se S l))), none, none, none, none, none, none, none, none], [.inl (nI (sf S l)), .inr (.inr (1, b, 0))], (I, J, R)) _ from ?_)
  refine dn_call rfl rfl rfl rfl rfl (sc_giftsBehind hP w hf ?_)
  show tkDn tm_4 (18, [some (.inr (.inr (0, 0, 0))), some (.inr (.inr (1, b, 0))), some (.inl (nI l)), some (.inl (nI (sf S l))), some (.inl (nI (se S l))), none, none, none, none, none, none, none, none], [.inl (gbF S 6 (sf S l) 0)], (I, J, R)) _
  refine dn_run 3 (show tkDn tm_4 (23, [some (.inr (.inr (0, 0, 0))), some (.inr (.inr (1, b, 0))), some (.inl (nI l)), some (.inl (nI (sf S l))), some (.inl (nI (se S l))), some (.inl (gbF S 6 (sf S l) 0)), none, none, none, none, none, none, none], [.inl (nI (se S l)), .inr (.inr (1, b, 0))], (I, J, R)) _ from ?_)
  refine dn_call rfl rfl rfl rfl rfl (sc_giftsBehind hP w he ?_)
  show tkDn tm_4 (26, [some (.inr (.inr (0, 0, 0))), some (.inr (.inr (1, b, 0))), some (.inl (nI l)), some (.inl (nI (sf S l))), some (.inl (nI (se S l))), some (.inl (gbF S 6 (sf S l) 0)), none, none, none, none, none, none, none], [.inl (gbF S 6 (se S l) 0)], (I, J, R)) _
  refine dn_run 16 (show tkDn tm_4 (51, [some (.inr (.inr (0, 0, 0))), some (.inr (.inr (1, b, 0))), some (.inl (nI l)), some (.inl (nI (sf S l))), some (.inl (nI (se S l))), some (.inl (gbF S 6 (sf S l) 0)), some (.inl (gbF S 6 (se S l) 0)), some (.inl ((gbF S 6 (sf S l) 0) &&& ((gbF S 6 (se S l) 0) ^^^ (-1)))), some (.inl ((gbF S 6 (se S l) 0) &&& ((gbF S 6 (sf S l) 0) ^^^ (-1)))), none, none, none, none], [.inl 63, .inl ((gbF S 6 (se S l) 0) &&& ((gbF S 6 (sf S l) 0) ^^^ (-1))), .inr (.inr (1, b, 0))], (I, J, R)) _ from ?_)
  refine dn_call rfl rfl rfl rfl rfl (sc_sumOfLengths hP w ?_)
  show tkDn tm_4 (54, [some (.inr (.inr (0, 0, 0))), some (.inr (.inr (1, b, 0))), some (.inl (nI l)), some (.inl (nI (sf S l))), some (.inl (nI (se S l))), some (.inl (gbF S 6 (sf S l) 0)), some (.inl (gbF S 6 (se S l) 0)), some (.inl ((gbF S 6 (sf S l) 0) &&& ((gbF S 6 (se S l) 0) ^^^ (-1)))), some (.inl ((gbF S 6 (se S l) 0) &&& ((gbF S 6 (sf S l) 0) ^^^ (-1)))), none, none, none, none], [.inr (.inl (slS S (gbF S 6 (se S l) 0 &&& (gbF S 6 (sf S l) 0 ^^^ -1)) 63 (sG S)))], (I, J, R)) _
  refine dn_run 3 (show tkDn tm_4 (58, [some (.inr (.inr (0, 0, 0))), some (.inr (.inr (1, b, 0))), some (.inl (nI l)), some (.inl (nI (sf S l))), some (.inl (nI (se S l))), some (.inl (gbF S 6 (sf S l) 0)), some (.inl (gbF S 6 (se S l) 0)), some (.inl ((gbF S 6 (sf S l) 0) &&& ((gbF S 6 (se S l) 0) ^^^ (-1)))), some (.inl ((gbF S 6 (se S l) 0) &&& ((gbF S 6 (sf S l) 0) ^^^ (-1)))), none, none, none, none], [.inl 0, .inl ((gbF S 6 (sf S l) 0) &&& ((gbF S 6 (se S l) 0) ^^^ (-1))), .inr (.inr (1, b, 0)), .inr (.inl (slS S (gbF S 6 (se S l) 0 &&& (gbF S 6 (sf S l) 0 ^^^ -1)) 63 (sG S)))], (I, J, R)) _ from ?_)
  refine dn_call rfl rfl rfl rfl rfl (sc_sumOfLengths hP w ?_)
  show tkDn tm_4 (61, [some (.inr (.inr (0, 0, 0))), some (.inr (.inr (1, b, 0))), some (.inl (nI l)), some (.inl (nI (sf S l))), some (.inl (nI (se S l))), some (.inl (gbF S 6 (sf S l) 0)), some (.inl (gbF S 6 (se S l) 0)), some (.inl ((gbF S 6 (sf S l) 0) &&& ((gbF S 6 (se S l) 0) ^^^ (-1)))), some (.inl ((gbF S 6 (se S l) 0) &&& ((gbF S 6 (sf S l) 0) ^^^ (-1)))), none, none, none, none], [.inr (.inl (slS S (gbF S 6 (sf S l) 0 &&& (gbF S 6 (se S l) 0 ^^^ -1)) 0 (sG S))), .inr (.inl (slS S (gbF S 6 (se S l) 0 &&& (gbF S 6 (sf S l) 0 ^^^ -1)) 63 (sG S)))], (I, J, R)) _
  refine dn_run 5 (show tkDn tm_4 (68, [some (.inr (.inr (0, 0, 0))), some (.inr (.inr (1, b, 0))), some (.inl (nI l)), some (.inl (nI (sf S l))), some (.inl (nI (se S l))), some (.inl (gbF S 6 (sf S l) 0)), some (.inl (gbF S 6 (se S l) 0)), some (.inl ((gbF S 6 (sf S l) 0) &&& ((gbF S 6 (se S l) 0) ^^^ (-1)))), some (.inl ((gbF S 6 (se S l) 0) &&& ((gbF S 6 (sf S l) 0) ^^^ (-1)))), some (.inr (.inl ((slS S (gbF S 6 (se S l) 0 &&& (gbF S 6 (sf S l) 0 ^^^ -1)) 63 (sG S)) - (slS S (gbF S 6 (sf S l) 0 &&& (gbF S 6 (se S l) 0 ^^^ -1)) 0 (sG S))))), none, none, none], [.inl 0, .inl ((gbF S 6 (se S l) 0) &&& ((gbF S 6 (sf S l) 0) ^^^ (-1))), .inr (.inr (1, b, 0))], (I, J, R)) _ from ?_)
  refine dn_call rfl rfl rfl rfl rfl (sc_sumOfLengths hP w ?_)
  show tkDn tm_4 (71, [some (.inr (.inr (0, 0, 0))), some (.inr (.inr (1, b, 0))), some (.inl (nI l)), some (.inl (nI (sf S l))), some (.inl (nI (se S l))), some (.inl (gbF S 6 (sf S l) 0)), some (.inl (gbF S 6 (se S l) 0)), some (.inl ((gbF S 6 (sf S l) 0) &&& ((gbF S 6 (se S l) 0) ^^^ (-1)))), some (.inl ((gbF S 6 (se S l) 0) &&& ((gbF S 6 (sf S l) 0) ^^^ (-1)))), some (.inr (.inl ((slS S (gbF S 6 (se S l) 0 &&& (gbF S 6 (sf S l) 0 ^^^ -1)) 63 (sG S)) - (slS S (gbF S 6 (sf S l) 0 &&& (gbF S 6 (se S l) 0 ^^^ -1)) 0 (sG S))))), none, none, none], [.inr (.inl (slS S (gbF S 6 (se S l) 0 &&& (gbF S 6 (sf S l) 0 ^^^ -1)) 0 (sG S)))], (I, J, R)) _
  refine dn_run 3 (show tkDn tm_4 (76, [some (.inr (.inr (0, 0, 0))), some (.inr (.inr (1, b, 0))), some (.inl (nI l)), some (.inl (nI (sf S l))), some (.inl (nI (se S l))), some (.inl (gbF S 6 (sf S l) 0)), some (.inl (gbF S 6 (se S l) 0)), some (.inl ((gbF S 6 (sf S l) 0) &&& ((gbF S 6 (se S l) 0) ^^^ (-1)))), some (.inl ((gbF S 6 (se S l) 0) &&& ((gbF S 6 (sf S l) 0) ^^^ (-1)))), some (.inr (.inl ((slS S (gbF S 6 (se S l) 0 &&& (gbF S 6 (sf S l) 0 ^^^ -1)) 63 (sG S)) - (slS S (gbF S 6 (sf S l) 0 &&& (gbF S 6 (se S l) 0 ^^^ -1)) 0 (sG S))))), none, none, none], [.inl 63, .inl ((gbF S 6 (sf S l) 0) &&& ((gbF S 6 (se S l) 0) ^^^ (-1))), .inr (.inr (1, b, 0)), .inr (.inl (slS S (gbF S 6 (se S l) 0 &&& (gbF S 6 (sf S l) 0 ^^^ -1)) 0 (sG S)))], (I, J, R)) _ from ?_)
  refine dn_call rfl rfl rfl rfl rfl (sc_sumOfLengths hP w ?_)
  show tkDn tm_4 (79, [some (.inr (.inr (0, 0, 0))), some (.inr (.inr (1, b, 0))), some (.inl (nI l)), some (.inl (nI (sf S l))), some (.inl (nI (se S l))), some (.inl (gbF S 6 (sf S l) 0)), some (.inl (gbF S 6 (se S l) 0)), some (.inl ((gbF S 6 (sf S l) 0) &&& ((gbF S 6 (se S l) 0) ^^^ (-1)))), some (.inl ((gbF S 6 (se S l) 0) &&& ((gbF S 6 (sf S l) 0) ^^^ (-1)))), some (.inr (.inl ((slS S (gbF S 6 (se S l) 0 &&& (gbF S 6 (sf S l) 0 ^^^ -1)) 63 (sG S)) - (slS S (gbF S 6 (sf S l) 0 &&& (gbF S 6 (se S l) 0 ^^^ -1)) 0 (sG S))))), none, none, none], [.inr (.inl (slS S (gbF S 6 (sf S l) 0 &&& (gbF S 6 (se S l) 0 ^^^ -1)) 63 (sG S))), .inr (.inl (slS S (gbF S 6 (se S l) 0 &&& (gbF S 6 (sf S l) 0 ^^^ -1)) 0 (sG S)))], (I, J, R)) _
  refine dn_run 6 (show tkDn tm_4 (88, [some (.inr (.inr (0, 0, 0))), some (.inr (.inr (1, b, 0))), some (.inl (nI l)), some (.inl (nI (sf S l))), some (.inl (nI (se S l))), some (.inl (gbF S 6 (sf S l) 0)), some (.inl (gbF S 6 (se S l) 0)), some (.inl ((gbF S 6 (sf S l) 0) &&& ((gbF S 6 (se S l) 0) ^^^ (-1)))), some (.inl ((gbF S 6 (se S l) 0) &&& ((gbF S 6 (sf S l) 0) ^^^ (-1)))), some (.inr (.inl ((slS S (gbF S 6 (se S l) 0 &&& (gbF S 6 (sf S l) 0 ^^^ -1)) 63 (sG S)) - (slS S (gbF S 6 (sf S l) 0 &&& (gbF S 6 (se S l) 0 ^^^ -1)) 0 (sG S))))), none, some (.inr (.inl ((slS S (gbF S 6 (se S l) 0 &&& (gbF S 6 (sf S l) 0 ^^^ -1)) 0 (sG S)) - (slS S (gbF S 6 (sf S l) 0 &&& (gbF S 6 (se S l) 0 ^^^ -1)) 63 (sG S))))), none], [.inl (nI (sf S l)), .inr (.inr (1, b, 0)), .inr (.inr (0, 0, 1))], (I, J, R)) _ from ?_)
  refine dn_call rfl rfl rfl rfl rfl (sc_rootOf hP w hf ?_)
  show tkDn tm_4 (91, [some (.inr (.inr (0, 0, 0))), some (.inr (.inr (1, b, 0))), some (.inl (nI l)), some (.inl (nI (sf S l))), some (.inl (nI (se S l))), some (.inl (gbF S 6 (sf S l) 0)), some (.inl (gbF S 6 (se S l) 0)), some (.inl ((gbF S 6 (sf S l) 0) &&& ((gbF S 6 (se S l) 0) ^^^ (-1)))), some (.inl ((gbF S 6 (se S l) 0) &&& ((gbF S 6 (sf S l) 0) ^^^ (-1)))), some (.inr (.inl ((slS S (gbF S 6 (se S l) 0 &&& (gbF S 6 (sf S l) 0 ^^^ -1)) 63 (sG S)) - (slS S (gbF S 6 (sf S l) 0 &&& (gbF S 6 (se S l) 0 ^^^ -1)) 0 (sG S))))), none, some (.inr (.inl ((slS S (gbF S 6 (se S l) 0 &&& (gbF S 6 (sf S l) 0 ^^^ -1)) 0 (sG S)) - (slS S (gbF S 6 (sf S l) 0 &&& (gbF S 6 (se S l) 0 ^^^ -1)) 63 (sG S))))), none], [.inl (nI (rtF S 6 (sf S l))), .inr (.inr (0, 0, 1))], (I, J, R)) _
  refine dn_run 2 (show tkDn tm_4 (94, [some (.inr (.inr (0, 0, 0))), some (.inr (.inr (1, b, 0))), some (.inl (nI l)), some (.inl (nI (sf S l))), some (.inl (nI (se S l))), some (.inl (gbF S 6 (sf S l) 0)), some (.inl (gbF S 6 (se S l) 0)), some (.inl ((gbF S 6 (sf S l) 0) &&& ((gbF S 6 (se S l) 0) ^^^ (-1)))), some (.inl ((gbF S 6 (se S l) 0) &&& ((gbF S 6 (sf S l) 0) ^^^ (-1)))), some (.inr (.inl ((slS S (gbF S 6 (se S l) 0 &&& (gbF S 6 (sf S l) 0 ^^^ -1)) 63 (sG S)) - (slS S (gbF S 6 (sf S l) 0 &&& (gbF S 6 (se S l) 0 ^^^ -1)) 0 (sG S))))), none, some (.inr (.inl ((slS S (gbF S 6 (se S l) 0 &&& (gbF S 6 (sf S l) 0 ^^^ -1)) 0 (sG S)) - (slS S (gbF S 6 (sf S l) 0 &&& (gbF S 6 (se S l) 0 ^^^ -1)) 63 (sG S))))), none], [.inl (nI (se S l)), .inr (.inr (1, b, 0)), .inl (nI (rtF S 6 (sf S l))), .inr (.inr (0, 0, 1))], (I, J, R)) _ from ?_)
  refine dn_call rfl rfl rfl rfl rfl (sc_rootOf hP w he ?_)
  show tkDn tm_4 (97, [some (.inr (.inr (0, 0, 0))), some (.inr (.inr (1, b, 0))), some (.inl (nI l)), some (.inl (nI (sf S l))), some (.inl (nI (se S l))), some (.inl (gbF S 6 (sf S l) 0)), some (.inl (gbF S 6 (se S l) 0)), some (.inl ((gbF S 6 (sf S l) 0) &&& ((gbF S 6 (se S l) 0) ^^^ (-1)))), some (.inl ((gbF S 6 (se S l) 0) &&& ((gbF S 6 (sf S l) 0) ^^^ (-1)))), some (.inr (.inl ((slS S (gbF S 6 (se S l) 0 &&& (gbF S 6 (sf S l) 0 ^^^ -1)) 63 (sG S)) - (slS S (gbF S 6 (sf S l) 0 &&& (gbF S 6 (se S l) 0 ^^^ -1)) 0 (sG S))))), none, some (.inr (.inl ((slS S (gbF S 6 (se S l) 0 &&& (gbF S 6 (sf S l) 0 ^^^ -1)) 0 (sG S)) - (slS S (gbF S 6 (sf S l) 0 &&& (gbF S 6 (se S l) 0 ^^^ -1)) 63 (sG S))))), none], [.inl (nI (rtF S 6 (se S l))), .inl (nI (rtF S 6 (sf S l))), .inr (.inr (0, 0, 1))], (I, J, R)) _
  refine dn_run 2 (show tkDn tm_4 (99, [some (.inr (.inr (0, 0, 0))), some (.inr (.inr (1, b, 0))), some (.inl (nI l)), some (.inl (nI (sf S l))), some (.inl (nI (se S l))), some (.inl (gbF S 6 (sf S l) 0)), some (.inl (gbF S 6 (se S l) 0)), some (.inl ((gbF S 6 (sf S l) 0) &&& ((gbF S 6 (se S l) 0) ^^^ (-1)))), some (.inl ((gbF S 6 (se S l) 0) &&& ((gbF S 6 (sf S l) 0) ^^^ (-1)))), some (.inr (.inl ((slS S (gbF S 6 (se S l) 0 &&& (gbF S 6 (sf S l) 0 ^^^ -1)) 63 (sG S)) - (slS S (gbF S 6 (sf S l) 0 &&& (gbF S 6 (se S l) 0 ^^^ -1)) 0 (sG S))))), none, some (.inr (.inl ((slS S (gbF S 6 (se S l) 0 &&& (gbF S 6 (sf S l) 0 ^^^ -1)) 0 (sG S)) - (slS S (gbF S 6 (sf S l) 0 &&& (gbF S 6 (se S l) 0 ^^^ -1)) 63 (sG S))))), none], [.inl (nI l), .inr (.inr (1, b, 0)), .inl (nI (rtF S 6 (se S l))), .inl (nI (rtF S 6 (sf S l))), .inr (.inr (0, 0, 1))], (I, J, R)) _ from ?_)
  refine dn_call rfl rfl rfl rfl rfl (sN_linkLow hP w hl ?_)
  show tkDn tm_4 (102, [some (.inr (.inr (0, 0, 0))), some (.inr (.inr (1, b, 0))), some (.inl (nI l)), some (.inl (nI (sf S l))), some (.inl (nI (se S l))), some (.inl (gbF S 6 (sf S l) 0)), some (.inl (gbF S 6 (se S l) 0)), some (.inl ((gbF S 6 (sf S l) 0) &&& ((gbF S 6 (se S l) 0) ^^^ (-1)))), some (.inl ((gbF S 6 (se S l) 0) &&& ((gbF S 6 (sf S l) 0) ^^^ (-1)))), some (.inr (.inl ((slS S (gbF S 6 (se S l) 0 &&& (gbF S 6 (sf S l) 0 ^^^ -1)) 63 (sG S)) - (slS S (gbF S 6 (sf S l) 0 &&& (gbF S 6 (se S l) 0 ^^^ -1)) 0 (sG S))))), none, some (.inr (.inl ((slS S (gbF S 6 (se S l) 0 &&& (gbF S 6 (sf S l) 0 ^^^ -1)) 0 (sG S)) - (slS S (gbF S 6 (sf S l) 0 &&& (gbF S 6 (se S l) 0 ^^^ -1)) 63 (sG S))))), none], [.inl (slo S l), .inl (nI (rtF S 6 (se S l))), .inl (nI (rtF S 6 (sf S l))), .inr (.inr (0, 0, 1))], (I, J, R)) _
  refine dn_run 5 (show tkDn tm_4 (108, [some (.inr (.inr (0, 0, 0))), some (.inr (.inr (1, b, 0))), some (.inl (nI l)), some (.inl (nI (sf S l))), some (.inl (nI (se S l))), some (.inl (gbF S 6 (sf S l) 0)), some (.inl (gbF S 6 (se S l) 0)), some (.inl ((gbF S 6 (sf S l) 0) &&& ((gbF S 6 (se S l) 0) ^^^ (-1)))), some (.inl ((gbF S 6 (se S l) 0) &&& ((gbF S 6 (sf S l) 0) ^^^ (-1)))), some (.inr (.inl ((slS S (gbF S 6 (se S l) 0 &&& (gbF S 6 (sf S l) 0 ^^^ -1)) 63 (sG S)) - (slS S (gbF S 6 (sf S l) 0 &&& (gbF S 6 (se S l) 0 ^^^ -1)) 0 (sG S))))), none, some (.inr (.inl ((slS S (gbF S 6 (se S l) 0 &&& (gbF S 6 (sf S l) 0 ^^^ -1)) 0 (sG S)) - (slS S (gbF S 6 (sf S l) 0 &&& (gbF S 6 (se S l) 0 ^^^ -1)) 63 (sG S))))), none], [.inl (nI l), .inr (.inr (1, b, 0)), .inr (.inl ((((slo S l) : Int32).toInt64) - ((slS S (gbF S 6 (se S l) 0 &&& (gbF S 6 (sf S l) 0 ^^^ -1)) 0 (sG S)) - (slS S (gbF S 6 (sf S l) 0 &&& (gbF S 6 (se S l) 0 ^^^ -1)) 63 (sG S))))), .inl (nI (rtF S 6 (se S l))), .inl (nI (rtF S 6 (sf S l))), .inr (.inr (0, 0, 1))], (I, J, R)) _ from ?_)
  refine dn_call rfl rfl rfl rfl rfl (sN_linkHigh hP w hl ?_)
  show tkDn tm_4 (111, [some (.inr (.inr (0, 0, 0))), some (.inr (.inr (1, b, 0))), some (.inl (nI l)), some (.inl (nI (sf S l))), some (.inl (nI (se S l))), some (.inl (gbF S 6 (sf S l) 0)), some (.inl (gbF S 6 (se S l) 0)), some (.inl ((gbF S 6 (sf S l) 0) &&& ((gbF S 6 (se S l) 0) ^^^ (-1)))), some (.inl ((gbF S 6 (se S l) 0) &&& ((gbF S 6 (sf S l) 0) ^^^ (-1)))), some (.inr (.inl ((slS S (gbF S 6 (se S l) 0 &&& (gbF S 6 (sf S l) 0 ^^^ -1)) 63 (sG S)) - (slS S (gbF S 6 (sf S l) 0 &&& (gbF S 6 (se S l) 0 ^^^ -1)) 0 (sG S))))), none, some (.inr (.inl ((slS S (gbF S 6 (se S l) 0 &&& (gbF S 6 (sf S l) 0 ^^^ -1)) 0 (sG S)) - (slS S (gbF S 6 (sf S l) 0 &&& (gbF S 6 (se S l) 0 ^^^ -1)) 63 (sG S))))), none], [.inl (shi S l), .inr (.inl ((((slo S l) : Int32).toInt64) - ((slS S (gbF S 6 (se S l) 0 &&& (gbF S 6 (sf S l) 0 ^^^ -1)) 0 (sG S)) - (slS S (gbF S 6 (sf S l) 0 &&& (gbF S 6 (se S l) 0 ^^^ -1)) 63 (sG S))))), .inl (nI (rtF S 6 (se S l))), .inl (nI (rtF S 6 (sf S l))), .inr (.inr (0, 0, 1))], (I, J, R)) _
  refine dn_run 3 (show tkDn tm_4 (115, [some (.inr (.inr (0, 0, 0))), some (.inr (.inr (1, b, 0))), some (.inl (nI l)), some (.inl (nI (sf S l))), some (.inl (nI (se S l))), some (.inl (gbF S 6 (sf S l) 0)), some (.inl (gbF S 6 (se S l) 0)), some (.inl ((gbF S 6 (sf S l) 0) &&& ((gbF S 6 (se S l) 0) ^^^ (-1)))), some (.inl ((gbF S 6 (se S l) 0) &&& ((gbF S 6 (sf S l) 0) ^^^ (-1)))), some (.inr (.inl ((slS S (gbF S 6 (se S l) 0 &&& (gbF S 6 (sf S l) 0 ^^^ -1)) 63 (sG S)) - (slS S (gbF S 6 (sf S l) 0 &&& (gbF S 6 (se S l) 0 ^^^ -1)) 0 (sG S))))), none, some (.inr (.inl ((slS S (gbF S 6 (se S l) 0 &&& (gbF S 6 (sf S l) 0 ^^^ -1)) 0 (sG S)) - (slS S (gbF S 6 (sf S l) 0 &&& (gbF S 6 (se S l) 0 ^^^ -1)) 63 (sG S))))), none], [.inr (.inl ((((shi S l) : Int32).toInt64) - ((slS S (gbF S 6 (se S l) 0 &&& (gbF S 6 (sf S l) 0 ^^^ -1)) 63 (sG S)) - (slS S (gbF S 6 (sf S l) 0 &&& (gbF S 6 (se S l) 0 ^^^ -1)) 0 (sG S))))), .inr (.inl ((((slo S l) : Int32).toInt64) - ((slS S (gbF S 6 (se S l) 0 &&& (gbF S 6 (sf S l) 0 ^^^ -1)) 0 (sG S)) - (slS S (gbF S 6 (sf S l) 0 &&& (gbF S 6 (se S l) 0 ^^^ -1)) 63 (sG S))))), .inl (nI (rtF S 6 (se S l))), .inl (nI (rtF S 6 (sf S l))), .inr (.inr (0, 0, 1))], (I, J, R)) _ from ?_)
  refine dn_call rfl rfl rfl rfl rfl (ss_lowerBothWays_0_1 (by omega) (by omega) ?_)
  refine dn_ret0 rfl rfl rfl rfl ?_
  exact hQ _ ((hr.low (by omega) (by omega) (by omega)).low (by omega) (by omega) (by omega))
theorem sc_isStrong_loop {I : tkI} {J : tkJ} {R : Nat → Nat} {Q : tkQ} {b : Nat} {S : tkS} (hP : NetP (I 1 b) S) (w : WF S) (hQ : ∀ r, RowP 16 r (strF S).2 → Q (some (.inl (if (strF S).1 = true then 1 else 0))) (I, tk_so J 0 0 (tk_u1 (J 0 0) 1 r), R)) : ∀ n l r, l + n = sL S → RowP 16 r (stM S l) → tkDn tm_3 (9, [some (.inr (.inr (0, 0, 0))), some (.inr (.inr (1, b, 0))), some (.inl (nI l))], [], (I, tk_so J 0 0 (tk_u1 (J 0 0) 1 r), R)) Q := by
  have hM16 := w.1
  have hL60 := w.2.1
  have hG6 := w.2.2.1
  intro n
  induction n with
  | zero =>
    intro l r hl hr
    have hl : l = sL S := by omega
    rw [hl] at hr
    show tkDn tm_3 (9, [some (.inr (.inr (0, 0, 0))), some (.inr (.inr (1, b, 0))), some (.inl (nI l))], [], (I, tk_so J 0 0 (tk_u1 (J 0 0) 1 r), R)) _
    refine dn_run 2 (show tkDn tm_3 (11, [some (.inr (.inr (0, 0, 0))), some (.inr (.inr (1, b, 0))), some (.inl (nI l))], [.inr (.inr (1, b, 0)), .inl (nI l)], (I, tk_so J 0 0 (tk_u1 (J 0 0) 1 r), R)) _ from ?_)
    refine dn_call rfl rfl rfl rfl rfl (sN_linkCount hP ?_)
    show tkDn tm_3 (14, [some (.inr (.inr (0, 0, 0))), some (.inr (.inr (1, b, 0))), some (.inl (nI l))], [.inl (nI (sL S)), .inl (nI l)], (I, tk_so J 0 0 (tk_u1 (J 0 0) 1 r), R)) _
    refine dn_if rfl rfl rfl (fun (c : (nI (sL S)) ≤ (nI l)) => ?_) (fun (c : ¬ (nI (sL S)) ≤ (nI l)) => ?_)
    · show tkDn tm_3 (37, [some (.inr (.inr (0, 0, 0))), some (.inr (.inr (1, b, 0))), some (.inl (nI l))], [], (I, tk_so J 0 0 (tk_u1 (J 0 0) 1 r), R)) _
      refine dn_run 3 (show tkDn tm_3 (42, [some (.inr (.inr (0, 0, 0))), some (.inr (.inr (1, b, 0))), some (.inl (nI l))], [.inr (.inr (1, b, 0)), .inr (.inr (0, 0, 1))], (I, tk_so J 0 0 (tk_u1 (J 0 0) 1 r), R)) _ from ?_)
      refine dn_call rfl rfl rfl rfl rfl (sN_momentCount hP ?_)
      show tkDn tm_3 (45, [some (.inr (.inr (0, 0, 0))), some (.inr (.inr (1, b, 0))), some (.inl (nI l))], [.inl (nI (sM S)), .inr (.inr (0, 0, 1))], (I, tk_so J 0 0 (tk_u1 (J 0 0) 1 r), R)) _
      refine dn_call rfl rfl rfl rfl rfl (ss_close_0_1 (d := stM S (sL S)) hM16 hr (fun r3 hr3 => ?_))
      rw [tk_so_so, tk_so_same, tk_u1_u1]
      show tkDn tm_3 (48, [some (.inr (.inr (0, 0, 0))), some (.inr (.inr (1, b, 0))), some (.inl (nI l))], [.inl (if (clF (stM S (sL S)) (sM S)).1 = true then 1 else 0)], (I, tk_so J 0 0 (tk_u1 (J 0 0) 1 r3), R)) _
      refine dn_retb rfl rfl rfl rfl (by by_cases z : (clF (stM S (sL S)) (sM S)).1 = true; exact Or.inr (if_pos z); exact Or.inl (if_neg z)) ?_
      exact hQ r3 hr3
    · exact absurd (nI_le (by omega) (by omega)) c
  | succ n ih =>
    intro l r hl hr
    have e8 := hP.gn w (j := l) (by omega)
    show tkDn tm_3 (9, [some (.inr (.inr (0, 0, 0))), some (.inr (.inr (1, b, 0))), some (.inl (nI l))], [], (I, tk_so J 0 0 (tk_u1 (J 0 0) 1 r), R)) _
    refine dn_run 2 (show tkDn tm_3 (11, [some (.inr (.inr (0, 0, 0))), some (.inr (.inr (1, b, 0))), some (.inl (nI l))], [.inr (.inr (1, b, 0)), .inl (nI l)], (I, tk_so J 0 0 (tk_u1 (J 0 0) 1 r), R)) _ from ?_)
    refine dn_call rfl rfl rfl rfl rfl (sN_linkCount hP ?_)
    show tkDn tm_3 (14, [some (.inr (.inr (0, 0, 0))), some (.inr (.inr (1, b, 0))), some (.inl (nI l))], [.inl (nI (sL S)), .inl (nI l)], (I, tk_so J 0 0 (tk_u1 (J 0 0) 1 r), R)) _
    refine dn_if rfl rfl rfl (fun (c : (nI (sL S)) ≤ (nI l)) => ?_) (fun (c : ¬ (nI (sL S)) ≤ (nI l)) => ?_)
    · exact absurd c (nI_ge (by omega) (by omega))
    · show tkDn tm_3 (17, [some (.inr (.inr (0, 0, 0))), some (.inr (.inr (1, b, 0))), some (.inl (nI l))], [], (I, tk_so J 0 0 (tk_u1 (J 0 0) 1 r), R)) _
      refine dn_run 2 (show tkDn tm_3 (19, [some (.inr (.inr (0, 0, 0))), some (.inr (.inr (1, b, 0))), some (.inl (nI l))], [.inl (nI l), .inr (.inr (1, b, 0))], (I, tk_so J 0 0 (tk_u1 (J 0 0) 1 r), R)) _ from ?_)
      refine dn_call rfl rfl rfl rfl rfl (sn_isGift (vp_in_nI (by omega) (by omega)) ?_)
      show tkDn tm_3 (22, [some (.inr (.inr (0, 0, 0))), some (.inr (.inr (1, b, 0))), some (.inl (nI l))], [.inl (if I 1 b 8 (nI l).toNatClampNeg = -9 then 0 else 1)], (I, tk_so J 0 0 (tk_u1 (J 0 0) 1 r), R)) _
      rw [e8]
      refine dn_if rfl rfl rfl (fun (c2 : ¬ (if sgn S l = -9 then 0 else 1) = 0) => ?_) (fun (c2 : (if sgn S l = -9 then 0 else 1) = 0) => ?_)
      · show tkDn tm_3 (31, [some (.inr (.inr (0, 0, 0))), some (.inr (.inr (1, b, 0))), some (.inl (nI l))], [], (I, tk_so J 0 0 (tk_u1 (J 0 0) 1 r), R)) _
        have hs : ¬ sgn S l = -9 := fun q => by rw [if_pos q] at c2; exact c2 rfl
        refine dn_run 2 (show tkDn tm_3 (9, [some (.inr (.inr (0, 0, 0))), some (.inr (.inr (1, b, 0))), some (.inl ((nI l) + 1))], [], (I, tk_so J 0 0 (tk_u1 (J 0 0) 1 r), R)) _ from ?_)
        rw [nI_1]
        exact ih (l + 1) r (by omega) (by rw [show stM S (l + 1) = stM S l from if_neg hs]; exact hr)
      · show tkDn tm_3 (25, [some (.inr (.inr (0, 0, 0))), some (.inr (.inr (1, b, 0))), some (.inl (nI l))], [], (I, tk_so J 0 0 (tk_u1 (J 0 0) 1 r), R)) _
        have hs : sgn S l = -9 := by by_cases q : sgn S l = -9; exact q; rw [if_neg q] at c2; exact absurd c2 (by decide)
        refine dn_run 3 (show tkDn tm_3 (28, [some (.inr (.inr (0, 0, 0))), some (.inr (.inr (1, b, 0))), some (.inl (nI l))], [.inl (nI l), .inr (.inr (1, b, 0)), .inr (.inr (0, 0, 0))], (I, tk_so J 0 0 (tk_u1 (J 0 0) 1 r), R)) _ from ?_)
        refine dn_call rfl rfl rfl rfl rfl (sc_putWorstWish hP w (d := stM S l) (by omega) hr (fun r3 hr3 => ?_))
        rw [tk_so_so, tk_so_same, tk_u1_u1]
        show tkDn tm_3 (31, [some (.inr (.inr (0, 0, 0))), some (.inr (.inr (1, b, 0))), some (.inl (nI l))], [], (I, tk_so J 0 0 (tk_u1 (J 0 0) 1 r3), R)) _
        refine dn_run 2 (show tkDn tm_3 (9, [some (.inr (.inr (0, 0, 0))), some (.inr (.inr (1, b, 0))), some (.inl ((nI l) + 1))], [], (I, tk_so J 0 0 (tk_u1 (J 0 0) 1 r3), R)) _ from ?_)
        rw [nI_1]
        exact ih (l + 1) r3 (by omega) (by rw [show stM S (l + 1) = wwM S (stM S l) l from if_pos hs]; exact hr3)
theorem sc_isStrong {I : tkI} {J : tkJ} {R : Nat → Nat} {Q : tkQ} {b : Nat} {S : tkS} (hP : NetP (I 1 b) S) (w : WF S) (hQ : ∀ r, RowP 16 r (strF S).2 → Q (some (.inl (if (strF S).1 = true then 1 else 0))) (I, tk_so J 0 0 (tk_u1 (J 0 0) 1 r), R)) : tkDn tm_3 (0, [some (.inr (.inr (0, 0, 0))), some (.inr (.inr (1, b, 0))), none], [], (I, J, R)) Q := by
  refine dn_run 2 (show tkDn tm_3 (4, [some (.inr (.inr (0, 0, 0))), some (.inr (.inr (1, b, 0))), none], [.inr (.inr (0, 0, 1))], (I, J, R)) _ from ?_)
  refine dn_call rfl rfl rfl rfl rfl (ss_clear_0_1 (fun r hr => ?_))
  show tkDn tm_3 (7, [some (.inr (.inr (0, 0, 0))), some (.inr (.inr (1, b, 0))), none], [], (I, tk_so J 0 0 (tk_u1 (J 0 0) 1 r), R)) _
  refine dn_run 2 (show tkDn tm_3 (9, [some (.inr (.inr (0, 0, 0))), some (.inr (.inr (1, b, 0))), some (.inl 0)], [], (I, tk_so J 0 0 (tk_u1 (J 0 0) 1 r), R)) _ from ?_)
  exact sc_isStrong_loop hP w hQ (sL S) 0 r (Nat.zero_add _) hr
theorem sc_canBeMet_loop {I : tkI} {J : tkJ} {R : Nat → Nat} {Q : tkQ} {b : Nat} {S : tkS} (hP : NetP (I 1 b) S) (w : WF S) {k : Int32} (hQ : ∀ r, RowP 16 r (metF S k).2 → Q (some (.inl (if (metF S k).1 = true then 1 else 0))) (I, tk_so J 0 0 (tk_u1 (J 0 0) 1 r), R)) : ∀ n g r o, g + n = sG S → RowP 16 r (cbM S k g) → tkDn tm_10 (10, [some (.inr (.inr (0, 0, 0))), some (.inr (.inr (1, b, 0))), some (.inl k), some (.inl (nI g)), o, none], [], (I, tk_so J 0 0 (tk_u1 (J 0 0) 1 r), R)) Q := by
  have hM16 := w.1
  have hL60 := w.2.1
  have hG6 := w.2.2.1
  intro n
  induction n with
  | zero =>
    intro g r o hg hr
    have hg : g = sG S := by omega
    rw [hg] at hr
    show tkDn tm_10 (10, [some (.inr (.inr (0, 0, 0))), some (.inr (.inr (1, b, 0))), some (.inl k), some (.inl (nI g)), o, none], [], (I, tk_so J 0 0 (tk_u1 (J 0 0) 1 r), R)) _
    refine dn_run 2 (show tkDn tm_10 (12, [some (.inr (.inr (0, 0, 0))), some (.inr (.inr (1, b, 0))), some (.inl k), some (.inl (nI g)), o, none], [.inr (.inr (1, b, 0)), .inl (nI g)], (I, tk_so J 0 0 (tk_u1 (J 0 0) 1 r), R)) _ from ?_)
    refine dn_call rfl rfl rfl rfl rfl (sN_giftCount hP ?_)
    show tkDn tm_10 (15, [some (.inr (.inr (0, 0, 0))), some (.inr (.inr (1, b, 0))), some (.inl k), some (.inl (nI g)), o, none], [.inl (nI (sG S)), .inl (nI g)], (I, tk_so J 0 0 (tk_u1 (J 0 0) 1 r), R)) _
    refine dn_if rfl rfl rfl (fun (c : (nI (sG S)) ≤ (nI g)) => ?_) (fun (c : ¬ (nI (sG S)) ≤ (nI g)) => ?_)
    · show tkDn tm_10 (54, [some (.inr (.inr (0, 0, 0))), some (.inr (.inr (1, b, 0))), some (.inl k), some (.inl (nI g)), o, none], [], (I, tk_so J 0 0 (tk_u1 (J 0 0) 1 r), R)) _
      refine dn_run 3 (show tkDn tm_10 (59, [some (.inr (.inr (0, 0, 0))), some (.inr (.inr (1, b, 0))), some (.inl k), some (.inl (nI g)), o, none], [.inr (.inr (1, b, 0)), .inr (.inr (0, 0, 1))], (I, tk_so J 0 0 (tk_u1 (J 0 0) 1 r), R)) _ from ?_)
      refine dn_call rfl rfl rfl rfl rfl (sN_momentCount hP ?_)
      show tkDn tm_10 (62, [some (.inr (.inr (0, 0, 0))), some (.inr (.inr (1, b, 0))), some (.inl k), some (.inl (nI g)), o, none], [.inl (nI (sM S)), .inr (.inr (0, 0, 1))], (I, tk_so J 0 0 (tk_u1 (J 0 0) 1 r), R)) _
      refine dn_call rfl rfl rfl rfl rfl (ss_close_0_1 (d := cbM S k (sG S)) hM16 hr (fun r3 hr3 => ?_))
      rw [tk_so_so, tk_so_same, tk_u1_u1]
      show tkDn tm_10 (65, [some (.inr (.inr (0, 0, 0))), some (.inr (.inr (1, b, 0))), some (.inl k), some (.inl (nI g)), o, none], [.inl (if (clF (cbM S k (sG S)) (sM S)).1 = true then 1 else 0)], (I, tk_so J 0 0 (tk_u1 (J 0 0) 1 r3), R)) _
      refine dn_retb rfl rfl rfl rfl (by by_cases z : (clF (cbM S k (sG S)) (sM S)).1 = true; exact Or.inr (if_pos z); exact Or.inl (if_neg z)) ?_
      exact hQ r3 hr3
    · exact absurd (nI_le (by omega) (by omega)) c
  | succ n ih =>
    intro g r o hg hr
    have hgl := w.gl (g := g) (by omega)
    have hf := w.fM hgl
    have he := w.eM hgl
    show tkDn tm_10 (10, [some (.inr (.inr (0, 0, 0))), some (.inr (.inr (1, b, 0))), some (.inl k), some (.inl (nI g)), o, none], [], (I, tk_so J 0 0 (tk_u1 (J 0 0) 1 r), R)) _
    refine dn_run 2 (show tkDn tm_10 (12, [some (.inr (.inr (0, 0, 0))), some (.inr (.inr (1, b, 0))), some (.inl k), some (.inl (nI g)), o, none], [.inr (.inr (1, b, 0)), .inl (nI g)], (I, tk_so J 0 0 (tk_u1 (J 0 0) 1 r), R)) _ from ?_)
    refine dn_call rfl rfl rfl rfl rfl (sN_giftCount hP ?_)
    show tkDn tm_10 (15, [some (.inr (.inr (0, 0, 0))), some (.inr (.inr (1, b, 0))), some (.inl k), some (.inl (nI g)), o, none], [.inl (nI (sG S)), .inl (nI g)], (I, tk_so J 0 0 (tk_u1 (J 0 0) 1 r), R)) _
    refine dn_if rfl rfl rfl (fun (c : (nI (sG S)) ≤ (nI g)) => ?_) (fun (c : ¬ (nI (sG S)) ≤ (nI g)) => ?_)
    · exact absurd c (nI_ge (by omega) (by omega))
    · show tkDn tm_10 (18, [some (.inr (.inr (0, 0, 0))), some (.inr (.inr (1, b, 0))), some (.inl k), some (.inl (nI g)), o, none], [], (I, tk_so J 0 0 (tk_u1 (J 0 0) 1 r), R)) _
      refine dn_run 3 (show tkDn tm_10 (21, [some (.inr (.inr (0, 0, 0))), some (.inr (.inr (1, b, 0))), some (.inl k), some (.inl (nI g)), o, none], [.inl k, .inl (nI g), .inr (.inr (1, b, 0))], (I, tk_so J 0 0 (tk_u1 (J 0 0) 1 r), R)) _ from ?_)
      refine dn_call rfl rfl rfl rfl rfl (sn_chosenLength hP w (g := g) (by omega) ?_)
      show tkDn tm_10 (24, [some (.inr (.inr (0, 0, 0))), some (.inr (.inr (1, b, 0))), some (.inl k), some (.inl (nI g)), o, none], [.inl (chL S k g)], (I, tk_so J 0 0 (tk_u1 (J 0 0) 1 r), R)) _
      refine dn_run 6 (show tkDn tm_10 (33, [some (.inr (.inr (0, 0, 0))), some (.inr (.inr (1, b, 0))), some (.inl k), some (.inl (nI g)), some (.inr (.inl (((chL S k g) : Int32).toInt64))), none], [.inl (nI g), .inr (.inr (1, b, 0)), .inr (.inr (0, 0, 1))], (I, tk_so J 0 0 (tk_u1 (J 0 0) 1 r), R)) _ from ?_)
      refine dn_call rfl rfl rfl rfl rfl (sN_giftFrom hP w (g := g) (by omega) ?_)
      show tkDn tm_10 (36, [some (.inr (.inr (0, 0, 0))), some (.inr (.inr (1, b, 0))), some (.inl k), some (.inl (nI g)), some (.inr (.inl (((chL S k g) : Int32).toInt64))), none], [.inl (nI (sf S (sgl S g))), .inr (.inr (0, 0, 1))], (I, tk_so J 0 0 (tk_u1 (J 0 0) 1 r), R)) _
      refine dn_run 2 (show tkDn tm_10 (38, [some (.inr (.inr (0, 0, 0))), some (.inr (.inr (1, b, 0))), some (.inl k), some (.inl (nI g)), some (.inr (.inl (((chL S k g) : Int32).toInt64))), none], [.inl (nI g), .inr (.inr (1, b, 0)), .inl (nI (sf S (sgl S g))), .inr (.inr (0, 0, 1))], (I, tk_so J 0 0 (tk_u1 (J 0 0) 1 r), R)) _ from ?_)
      refine dn_call rfl rfl rfl rfl rfl (sN_giftTo hP w (g := g) (by omega) ?_)
      show tkDn tm_10 (41, [some (.inr (.inr (0, 0, 0))), some (.inr (.inr (1, b, 0))), some (.inl k), some (.inl (nI g)), some (.inr (.inl (((chL S k g) : Int32).toInt64))), none], [.inl (nI (se S (sgl S g))), .inl (nI (sf S (sgl S g))), .inr (.inr (0, 0, 1))], (I, tk_so J 0 0 (tk_u1 (J 0 0) 1 r), R)) _
      refine dn_run 2 (show tkDn tm_10 (45, [some (.inr (.inr (0, 0, 0))), some (.inr (.inr (1, b, 0))), some (.inl k), some (.inl (nI g)), some (.inr (.inl (((chL S k g) : Int32).toInt64))), none], [.inr (.inl (((chL S k g) : Int32).toInt64)), .inr (.inl (((chL S k g) : Int32).toInt64)), .inl (nI (se S (sgl S g))), .inl (nI (sf S (sgl S g))), .inr (.inr (0, 0, 1))], (I, tk_so J 0 0 (tk_u1 (J 0 0) 1 r), R)) _ from ?_)
      refine dn_call rfl rfl rfl rfl rfl (ss_lowerBothWays_0_1 (by omega) (by omega) ?_)
      rw [tk_so_so, tk_so_same, tk_u1_u1, tk_u1_same]
      show tkDn tm_10 (48, [some (.inr (.inr (0, 0, 0))), some (.inr (.inr (1, b, 0))), some (.inl k), some (.inl (nI g)), some (.inr (.inl (((chL S k g) : Int32).toInt64))), none], [], (I, tk_so J 0 0 (tk_u1 (J 0 0) 1 (low1 (low1 r (16 * sf S (sgl S g) + se S (sgl S g)) (chL S k g).toInt64) (16 * se S (sgl S g) + sf S (sgl S g)) (-(chL S k g).toInt64))), R)) _
      refine dn_run 2 (show tkDn tm_10 (10, [some (.inr (.inr (0, 0, 0))), some (.inr (.inr (1, b, 0))), some (.inl k), some (.inl ((nI g) + 1)), some (.inr (.inl (((chL S k g) : Int32).toInt64))), none], [], (I, tk_so J 0 0 (tk_u1 (J 0 0) 1 (low1 (low1 r (16 * sf S (sgl S g) + se S (sgl S g)) (chL S k g).toInt64) (16 * se S (sgl S g) + sf S (sgl S g)) (-(chL S k g).toInt64))), R)) _ from ?_)
      rw [nI_1]
      exact ih (g + 1) _ _ (by omega) ((hr.low (by omega) (by omega) (by omega)).low (by omega) (by omega) (by omega))
theorem sc_canBeMet {I : tkI} {J : tkJ} {R : Nat → Nat} {Q : tkQ} {b : Nat} {S : tkS} (hP : NetP (I 1 b) S) (w : WF S) {k : Int32} (hQ : ∀ r, RowP 16 r (metF S k).2 → Q (some (.inl (if (metF S k).1 = true then 1 else 0))) (I, tk_so J 0 0 (tk_u1 (J 0 0) 1 r), R)) : tkDn tm_10 (0, [some (.inr (.inr (0, 0, 0))), some (.inr (.inr (1, b, 0))), some (.inl k), none, none, none], [], (I, J, R)) Q := by
  refine dn_run 3 (show tkDn tm_10 (5, [some (.inr (.inr (0, 0, 0))), some (.inr (.inr (1, b, 0))), some (.inl k), none, none, none], [.inr (.inr (0, 0, 1)), .inr (.inr (1, b, 0))], (I, J, R)) _ from ?_)
  refine dn_call rfl rfl rfl rfl rfl (ss_ofAllLinks_0_1 hP w (fun r hr => ?_))
  show tkDn tm_10 (8, [some (.inr (.inr (0, 0, 0))), some (.inr (.inr (1, b, 0))), some (.inl k), none, none, none], [], (I, tk_so J 0 0 (tk_u1 (J 0 0) 1 r), R)) _
  refine dn_run 2 (show tkDn tm_10 (10, [some (.inr (.inr (0, 0, 0))), some (.inr (.inr (1, b, 0))), some (.inl k), some (.inl 0), none, none], [], (I, tk_so J 0 0 (tk_u1 (J 0 0) 1 r), R)) _ from ?_)
  exact sc_canBeMet_loop hP w hQ (sG S) 0 r none (Nat.zero_add _) hr
theorem sc_seekSpoiled_loop {I : tkI} {J : tkJ} {R : Nat → Nat} {Q : tkQ} {b : Nat} {S : tkS} (hP : NetP (I 1 b) S) (w : WF S) : ∀ n k r, k + n = 2 ^ sG S → (∀ r, Q (some (.inl (skF S n k))) (I, tk_so J 0 0 (tk_u1 (J 0 0) 1 r), R)) → tkDn tm_9 (2, [some (.inr (.inr (0, 0, 0))), some (.inr (.inr (1, b, 0))), some (.inl (nI k))], [], (I, tk_so J 0 0 (tk_u1 (J 0 0) 1 r), R)) Q := by
  have hM16 := w.1
  have hL60 := w.2.1
  have hG6 := w.2.2.1
  have h64 := pw2 (sG S) (by omega)
  intro n
  induction n with
  | zero =>
    intro k r hk hQ
    show tkDn tm_9 (2, [some (.inr (.inr (0, 0, 0))), some (.inr (.inr (1, b, 0))), some (.inl (nI k))], [], (I, tk_so J 0 0 (tk_u1 (J 0 0) 1 r), R)) _
    refine dn_run 3 (show tkDn tm_9 (5, [some (.inr (.inr (0, 0, 0))), some (.inr (.inr (1, b, 0))), some (.inl (nI k))], [.inr (.inr (1, b, 0)), .inl 1, .inl (nI k)], (I, tk_so J 0 0 (tk_u1 (J 0 0) 1 r), R)) _ from ?_)
    refine dn_call rfl rfl rfl rfl rfl (sN_giftCount hP ?_)
    show tkDn tm_9 (8, [some (.inr (.inr (0, 0, 0))), some (.inr (.inr (1, b, 0))), some (.inl (nI k))], [.inl (nI (sG S)), .inl 1, .inl (nI k)], (I, tk_so J 0 0 (tk_u1 (J 0 0) 1 r), R)) _
    refine dn_run 1 (show tkDn tm_9 (9, [some (.inr (.inr (0, 0, 0))), some (.inr (.inr (1, b, 0))), some (.inl (nI k))], [.inl (1 <<< ((nI (sG S)) &&& 31)), .inl (nI k)], (I, tk_so J 0 0 (tk_u1 (J 0 0) 1 r), R)) _ from ?_)
    rw [shl1 (sG S) (by omega)]
    refine dn_if rfl rfl rfl (fun (c : (nI (2 ^ sG S)) ≤ (nI k)) => ?_) (fun (c : ¬ (nI (2 ^ sG S)) ≤ (nI k)) => ?_)
    · show tkDn tm_9 (29, [some (.inr (.inr (0, 0, 0))), some (.inr (.inr (1, b, 0))), some (.inl (nI k))], [], (I, tk_so J 0 0 (tk_u1 (J 0 0) 1 r), R)) _
      refine dn_run 1 (show tkDn tm_9 (31, [some (.inr (.inr (0, 0, 0))), some (.inr (.inr (1, b, 0))), some (.inl (nI k))], [.inl (-9)], (I, tk_so J 0 0 (tk_u1 (J 0 0) 1 r), R)) _ from ?_)
      refine dn_ret0 rfl rfl rfl rfl ?_
      exact hQ r
    · exact absurd (nI_le (by omega) (by omega)) c
  | succ n ih =>
    intro k r hk hQ
    show tkDn tm_9 (2, [some (.inr (.inr (0, 0, 0))), some (.inr (.inr (1, b, 0))), some (.inl (nI k))], [], (I, tk_so J 0 0 (tk_u1 (J 0 0) 1 r), R)) _
    refine dn_run 3 (show tkDn tm_9 (5, [some (.inr (.inr (0, 0, 0))), some (.inr (.inr (1, b, 0))), some (.inl (nI k))], [.inr (.inr (1, b, 0)), .inl 1, .inl (nI k)], (I, tk_so J 0 0 (tk_u1 (J 0 0) 1 r), R)) _ from ?_)
    refine dn_call rfl rfl rfl rfl rfl (sN_giftCount hP ?_)
    show tkDn tm_9 (8, [some (.inr (.inr (0, 0, 0))), some (.inr (.inr (1, b, 0))), some (.inl (nI k))], [.inl (nI (sG S)), .inl 1, .inl (nI k)], (I, tk_so J 0 0 (tk_u1 (J 0 0) 1 r), R)) _
    refine dn_run 1 (show tkDn tm_9 (9, [some (.inr (.inr (0, 0, 0))), some (.inr (.inr (1, b, 0))), some (.inl (nI k))], [.inl (1 <<< ((nI (sG S)) &&& 31)), .inl (nI k)], (I, tk_so J 0 0 (tk_u1 (J 0 0) 1 r), R)) _ from ?_)
    rw [shl1 (sG S) (by omega)]
    refine dn_if rfl rfl rfl (fun (c : (nI (2 ^ sG S)) ≤ (nI k)) => ?_) (fun (c : ¬ (nI (2 ^ sG S)) ≤ (nI k)) => ?_)
    · exact absurd c (nI_ge (by omega) (by omega))
    · show tkDn tm_9 (12, [some (.inr (.inr (0, 0, 0))), some (.inr (.inr (1, b, 0))), some (.inl (nI k))], [], (I, tk_so J 0 0 (tk_u1 (J 0 0) 1 r), R)) _
      refine dn_run 3 (show tkDn tm_9 (15, [some (.inr (.inr (0, 0, 0))), some (.inr (.inr (1, b, 0))), some (.inl (nI k))], [.inl (nI k), .inr (.inr (1, b, 0)), .inr (.inr (0, 0, 0))], (I, tk_so J 0 0 (tk_u1 (J 0 0) 1 r), R)) _ from ?_)
      refine dn_call rfl rfl rfl rfl rfl (sc_canBeMet hP w (fun r3 hr3 => ?_))
      rw [tk_so_so, tk_so_same, tk_u1_u1]
      show tkDn tm_9 (18, [some (.inr (.inr (0, 0, 0))), some (.inr (.inr (1, b, 0))), some (.inl (nI k))], [.inl (if (metF S (nI k)).1 = true then 1 else 0)], (I, tk_so J 0 0 (tk_u1 (J 0 0) 1 r3), R)) _
      refine dn_if rfl rfl rfl (fun (c2 : ¬ (if (metF S (nI k)).1 = true then 1 else 0) = 0) => ?_) (fun (c2 : (if (metF S (nI k)).1 = true then 1 else 0) = 0) => ?_)
      · show tkDn tm_9 (23, [some (.inr (.inr (0, 0, 0))), some (.inr (.inr (1, b, 0))), some (.inl (nI k))], [], (I, tk_so J 0 0 (tk_u1 (J 0 0) 1 r3), R)) _
        have hm : (metF S (nI k)).1 = true := by by_cases z : (metF S (nI k)).1 = true; exact z; exact absurd (if_neg z) c2
        refine dn_run 2 (show tkDn tm_9 (2, [some (.inr (.inr (0, 0, 0))), some (.inr (.inr (1, b, 0))), some (.inl ((nI k) + 1))], [], (I, tk_so J 0 0 (tk_u1 (J 0 0) 1 r3), R)) _ from ?_)
        rw [nI_1]
        rw [show skF S (n + 1) k = skF S n (k + 1) from if_pos hm] at hQ
        exact ih (k + 1) r3 (by omega) hQ
      · show tkDn tm_9 (21, [some (.inr (.inr (0, 0, 0))), some (.inr (.inr (1, b, 0))), some (.inl (nI k))], [], (I, tk_so J 0 0 (tk_u1 (J 0 0) 1 r3), R)) _
        refine dn_run 1 (show tkDn tm_9 (22, [some (.inr (.inr (0, 0, 0))), some (.inr (.inr (1, b, 0))), some (.inl (nI k))], [.inl (nI k)], (I, tk_so J 0 0 (tk_u1 (J 0 0) 1 r3), R)) _ from ?_)
        refine dn_ret0 rfl rfl rfl rfl ?_
        have hm : ¬ (metF S (nI k)).1 = true := fun z => by rw [if_pos z] at c2; exact absurd c2 (by decide)
        rw [show skF S (n + 1) k = nI k from if_neg hm] at hQ
        exact hQ r3
theorem sc_seekSpoiled {I : tkI} {J : tkJ} {R : Nat → Nat} {Q : tkQ} {b : Nat} {S : tkS} (hP : NetP (I 1 b) S) (w : WF S) (hQ : ∀ r, Q (some (.inl (spo S))) (I, tk_so J 0 0 (tk_u1 (J 0 0) 1 r), R)) : tkDn tm_9 (0, [some (.inr (.inr (0, 0, 0))), some (.inr (.inr (1, b, 0))), none], [], (I, J, R)) Q := by
  refine dn_run 2 (show tkDn tm_9 (2, [some (.inr (.inr (0, 0, 0))), some (.inr (.inr (1, b, 0))), some (.inl 0)], [], (I, J, R)) _ from ?_)
  have := sc_seekSpoiled_loop (J := J) hP w (2 ^ sG S) 0 (J 0 0 1) (Nat.zero_add _) hQ
  rw [jr_id] at this
  exact this
theorem sc_firstSpoiled {I : tkI} {J : tkJ} {R : Nat → Nat} {Q : tkQ} {b : Nat} {S : tkS} (hP : NetP (I 1 b) S) (w : WF S) (hk : ¬ I 0 0 0 1 = 0 → I 0 0 0 2 = spo S) (hQ : ∀ X r, (¬ X 0 1 = 0 ∧ X 0 2 = spo S) → Q (some (.inl (spo S))) (tk_so I 0 0 X, tk_so J 0 0 (tk_u1 (J 0 0) 1 r), R)) : tkDn tm_8 (0, [some (.inr (.inr (0, 0, 0))), some (.inr (.inr (1, b, 0)))], [], (I, J, R)) Q := by
  refine dn_run 2 (show tkDn tm_8 (4, [some (.inr (.inr (0, 0, 0))), some (.inr (.inr (1, b, 0)))], [.inl (I 0 0 0 1)], (I, J, R)) _ from ?_)
  refine dn_if rfl rfl rfl (fun (c : ¬ (I 0 0 0 1) = 0) => ?_) (fun (c : (I 0 0 0 1) = 0) => ?_)
  · show tkDn tm_8 (21, [some (.inr (.inr (0, 0, 0))), some (.inr (.inr (1, b, 0)))], [], (I, J, R)) _
    refine dn_run 2 (show tkDn tm_8 (25, [some (.inr (.inr (0, 0, 0))), some (.inr (.inr (1, b, 0)))], [.inl (I 0 0 0 2)], (I, J, R)) _ from ?_)
    rw [hk c]
    refine dn_ret0 rfl rfl rfl rfl ?_
    have := hQ (I 0 0) (J 0 0 1) ⟨c, hk c⟩
    rw [tk_so_id, jr_id] at this
    exact this
  · show tkDn tm_8 (7, [some (.inr (.inr (0, 0, 0))), some (.inr (.inr (1, b, 0)))], [], (I, J, R)) _
    refine dn_run 3 (show tkDn tm_8 (10, [some (.inr (.inr (0, 0, 0))), some (.inr (.inr (1, b, 0)))], [.inr (.inr (1, b, 0)), .inr (.inr (0, 0, 0)), .inr (.inr (0, 0, 0))], (I, J, R)) _ from ?_)
    refine dn_call rfl rfl rfl rfl rfl (sc_seekSpoiled hP w (fun r => ?_))
    show tkDn tm_8 (13, [some (.inr (.inr (0, 0, 0))), some (.inr (.inr (1, b, 0)))], [.inl (spo S), .inr (.inr (0, 0, 0))], (I, tk_so J 0 0 (tk_u1 (J 0 0) 1 r), R)) _
    refine dn_run 6 (show (1 = 0 ∨ 1 = 1) ∧ tkDn tm_8 (25, [some (.inr (.inr (0, 0, 0))), some (.inr (.inr (1, b, 0)))], [.inl (spo S)], (tk_so (tk_so I 0 0 (tk_u2 (I 0 0) 0 2 (spo S))) 0 0 (tk_u2 (tk_u2 (I 0 0) 0 2 (spo S)) 0 1 1), tk_so J 0 0 (tk_u1 (J 0 0) 1 r), R)) _ from ⟨Or.inr rfl, ?_⟩)
    rw [tk_so_so]
    refine dn_ret0 rfl rfl rfl rfl ?_
    exact hQ _ r ⟨by rw [tk_u2_1]; decide, by rw [tk_u2_0 (by decide), tk_u2_1]⟩
