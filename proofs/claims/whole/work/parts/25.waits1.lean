/-! Waits: its small methods -/
set_option maxRecDepth 8000 in
theorem sw_cell {I : tkI} {J : tkJ} {R : Nat → Nat} {Q : tkQ} {a g : Nat} (hQ : Q (some (.inl (nI (6 * a + g)))) (I, J, R)) : tkDn tm_85 (0, [some (.inl (nI a)), some (.inl (nI g))], [], (I, J, R)) Q := by
  refine dn_run 5 (show tkDn tm_85 (6, [some (.inl (nI a)), some (.inl (nI g))], [.inl (((nI a) * 6) + (nI g))], (I, J, R)) _ from ?_)
  rw [ix6]
  refine dn_ret0 rfl rfl rfl rfl ?_
  exact hQ
set_option maxRecDepth 8000 in
theorem sw_edgeOf {I : tkI} {J : tkJ} {R : Nat → Nat} {Q : tkQ} {d : tkD} {a c : Nat} (hr : RowP 16 (J 4 0 1) d) (ha : a < 16) (hc : c < 16) (hQ : Q (some (.inr (.inl (d a c)))) (I, J, R)) : tkDn tm_83 (0, [some (.inr (.inr (4, 0, 0))), some (.inl (nI a)), some (.inl (nI c))], [], (I, J, R)) Q := by
  refine dn_run 4 (show tkDn tm_83 (6, [some (.inr (.inr (4, 0, 0))), some (.inl (nI a)), some (.inl (nI c))], [.inl (nI c), .inl (nI a), .inr (.inr (4, 0, 1))], (I, J, R)) _ from ?_)
  refine dn_call rfl rfl rfl rfl rfl (ss_cell ?_)
  show tkDn tm_83 (9, [some (.inr (.inr (4, 0, 0))), some (.inl (nI a)), some (.inl (nI c))], [.inl (nI (16 * a + c)), .inr (.inr (4, 0, 1))], (I, J, R)) _
  refine dn_run 1 (show (vp_in (nI (16 * a + c)) 256) ∧ tkDn tm_83 (10, [some (.inr (.inr (4, 0, 0))), some (.inl (nI a)), some (.inl (nI c))], [.inr (.inl (J 4 0 1 ((nI (16 * a + c)).toNatClampNeg)))], (I, J, R)) _ from ⟨vp_in_nI (by omega) (by omega), ?_⟩)
  rw [hr.at (by omega) ha hc]
  refine dn_ret0 rfl rfl rfl rfl ?_
  exact hQ
set_option maxRecDepth 8000 in
theorem sw_waitOf {I : tkI} {J : tkJ} {R : Nat → Nat} {Q : tkQ} {v : tkD} {a g : Nat} (hr : WRow (J 4 0 4) v) (ha : a < 16) (hg : g < 6) (hQ : Q (some (.inr (.inl (v a g)))) (I, J, R)) : tkDn tm_84 (0, [some (.inr (.inr (4, 0, 0))), some (.inl (nI a)), some (.inl (nI g))], [], (I, J, R)) Q := by
  refine dn_run 4 (show tkDn tm_84 (6, [some (.inr (.inr (4, 0, 0))), some (.inl (nI a)), some (.inl (nI g))], [.inl (nI g), .inl (nI a), .inr (.inr (4, 0, 4))], (I, J, R)) _ from ?_)
  refine dn_call rfl rfl rfl rfl rfl (sw_cell ?_)
  show tkDn tm_84 (9, [some (.inr (.inr (4, 0, 0))), some (.inl (nI a)), some (.inl (nI g))], [.inl (nI (6 * a + g)), .inr (.inr (4, 0, 4))], (I, J, R)) _
  refine dn_run 1 (show (vp_in (nI (6 * a + g)) 96) ∧ tkDn tm_84 (10, [some (.inr (.inr (4, 0, 0))), some (.inl (nI a)), some (.inl (nI g))], [.inr (.inl (J 4 0 4 ((nI (6 * a + g)).toNatClampNeg)))], (I, J, R)) _ from ⟨vp_in_nI (by omega) (by omega), ?_⟩)
  rw [hr.at ha hg]
  refine dn_ret0 rfl rfl rfl rfl ?_
  exact hQ
set_option maxRecDepth 8000 in
theorem sw_copy_1_2 {I : tkI} {J : tkJ} {R : Nat → Nat} {Q : tkQ} (hQ : ∀ r, (∀ j, j < 256 → r j = J 4 0 1 j) → Q none (I, tk_so J 4 0 (tk_u1 (J 4 0) 2 r), R)) : tkDn tm_97 (0, [some (.inr (.inr (4, 0, 1))), some (.inr (.inr (4, 0, 2)))], [], (I, J, R)) Q := by
  refine dn_run 8 (show tkDn tm_97 (8, [some (.inr (.inr (4, 0, 1))), some (.inr (.inr (4, 0, 2)))], [.inl 256, .inl 256, .inl 0, .inr (.inr (4, 0, 2)), .inl 0, .inr (.inr (4, 0, 1))], (I, J, R)) _ from ?_)
  refine dn_run 1 (show tkDn tm_97 (11, [some (.inr (.inr (4, 0, 1))), some (.inr (.inr (4, 0, 2)))], [.inl (if (256 : Int32) < 256 then (256 : Int32) else 256), .inl 0, .inr (.inr (4, 0, 2)), .inl 0, .inr (.inr (4, 0, 1))], (I, J, R)) _ from ?_)
  rw [show (if (256 : Int32) < 256 then (256 : Int32) else 256) = 256 by decide]
  refine dn_run 1 (show (¬ (0 : Int32) < 0 ∧ ¬ (0 : Int32) < 0 ∧ ¬ (256 : Int32) < 0 ∧ (0 : Int32).toNatClampNeg + (256 : Int32).toNatClampNeg ≤ 256 ∧ (0 : Int32).toNatClampNeg + (256 : Int32).toNatClampNeg ≤ 256) ∧ tkDn tm_97 (14, [some (.inr (.inr (4, 0, 1))), some (.inr (.inr (4, 0, 2)))], [], (I, tk_so J 4 0 (tk_u1 (J 4 0) 2 (va_cpy (J 4 0 1) (J 4 0 2) (0 : Int32).toNatClampNeg (0 : Int32).toNatClampNeg (256 : Int32).toNatClampNeg)), R)) _ from ⟨by decide, ?_⟩)
  refine dn_ret0 rfl rfl rfl rfl ?_
  refine hQ _ (fun j hj => ?_)
  rw [show (0 : Int32).toNatClampNeg = 0 by decide, show (256 : Int32).toNatClampNeg = 256 by decide, pk_cpy_in (Nat.zero_le _) (by omega)]
  rw [Nat.zero_add, Nat.sub_zero]
set_option maxRecDepth 8000 in
theorem sw_copy_1_3 {I : tkI} {J : tkJ} {R : Nat → Nat} {Q : tkQ} (hQ : ∀ r, (∀ j, j < 256 → r j = J 4 0 1 j) → Q none (I, tk_so J 4 0 (tk_u1 (J 4 0) 3 r), R)) : tkDn tm_97 (0, [some (.inr (.inr (4, 0, 1))), some (.inr (.inr (4, 0, 3)))], [], (I, J, R)) Q := by
  refine dn_run 8 (show tkDn tm_97 (8, [some (.inr (.inr (4, 0, 1))), some (.inr (.inr (4, 0, 3)))], [.inl 256, .inl 256, .inl 0, .inr (.inr (4, 0, 3)), .inl 0, .inr (.inr (4, 0, 1))], (I, J, R)) _ from ?_)
  refine dn_run 1 (show tkDn tm_97 (11, [some (.inr (.inr (4, 0, 1))), some (.inr (.inr (4, 0, 3)))], [.inl (if (256 : Int32) < 256 then (256 : Int32) else 256), .inl 0, .inr (.inr (4, 0, 3)), .inl 0, .inr (.inr (4, 0, 1))], (I, J, R)) _ from ?_)
  rw [show (if (256 : Int32) < 256 then (256 : Int32) else 256) = 256 by decide]
  refine dn_run 1 (show (¬ (0 : Int32) < 0 ∧ ¬ (0 : Int32) < 0 ∧ ¬ (256 : Int32) < 0 ∧ (0 : Int32).toNatClampNeg + (256 : Int32).toNatClampNeg ≤ 256 ∧ (0 : Int32).toNatClampNeg + (256 : Int32).toNatClampNeg ≤ 256) ∧ tkDn tm_97 (14, [some (.inr (.inr (4, 0, 1))), some (.inr (.inr (4, 0, 3)))], [], (I, tk_so J 4 0 (tk_u1 (J 4 0) 3 (va_cpy (J 4 0 1) (J 4 0 3) (0 : Int32).toNatClampNeg (0 : Int32).toNatClampNeg (256 : Int32).toNatClampNeg)), R)) _ from ⟨by decide, ?_⟩)
  refine dn_ret0 rfl rfl rfl rfl ?_
  refine hQ _ (fun j hj => ?_)
  rw [show (0 : Int32).toNatClampNeg = 0 by decide, show (256 : Int32).toNatClampNeg = 256 by decide, pk_cpy_in (Nat.zero_le _) (by omega)]
  rw [Nat.zero_add, Nat.sub_zero]
set_option maxRecDepth 8000 in
theorem sw_copy_4_5 {I : tkI} {J : tkJ} {R : Nat → Nat} {Q : tkQ} (hQ : ∀ r, (∀ j, j < 96 → r j = J 4 0 4 j) → Q none (I, tk_so J 4 0 (tk_u1 (J 4 0) 5 r), R)) : tkDn tm_97 (0, [some (.inr (.inr (4, 0, 4))), some (.inr (.inr (4, 0, 5)))], [], (I, J, R)) Q := by
  refine dn_run 8 (show tkDn tm_97 (8, [some (.inr (.inr (4, 0, 4))), some (.inr (.inr (4, 0, 5)))], [.inl 96, .inl 96, .inl 0, .inr (.inr (4, 0, 5)), .inl 0, .inr (.inr (4, 0, 4))], (I, J, R)) _ from ?_)
  refine dn_run 1 (show tkDn tm_97 (11, [some (.inr (.inr (4, 0, 4))), some (.inr (.inr (4, 0, 5)))], [.inl (if (96 : Int32) < 96 then (96 : Int32) else 96), .inl 0, .inr (.inr (4, 0, 5)), .inl 0, .inr (.inr (4, 0, 4))], (I, J, R)) _ from ?_)
  rw [show (if (96 : Int32) < 96 then (96 : Int32) else 96) = 96 by decide]
  refine dn_run 1 (show (¬ (0 : Int32) < 0 ∧ ¬ (0 : Int32) < 0 ∧ ¬ (96 : Int32) < 0 ∧ (0 : Int32).toNatClampNeg + (96 : Int32).toNatClampNeg ≤ 96 ∧ (0 : Int32).toNatClampNeg + (96 : Int32).toNatClampNeg ≤ 96) ∧ tkDn tm_97 (14, [some (.inr (.inr (4, 0, 4))), some (.inr (.inr (4, 0, 5)))], [], (I, tk_so J 4 0 (tk_u1 (J 4 0) 5 (va_cpy (J 4 0 4) (J 4 0 5) (0 : Int32).toNatClampNeg (0 : Int32).toNatClampNeg (96 : Int32).toNatClampNeg)), R)) _ from ⟨by decide, ?_⟩)
  refine dn_ret0 rfl rfl rfl rfl ?_
  refine hQ _ (fun j hj => ?_)
  rw [show (0 : Int32).toNatClampNeg = 0 by decide, show (96 : Int32).toNatClampNeg = 96 by decide, pk_cpy_in (Nat.zero_le _) (by omega)]
  rw [Nat.zero_add, Nat.sub_zero]
set_option maxRecDepth 8000 in
theorem sw_copy_4_6 {I : tkI} {J : tkJ} {R : Nat → Nat} {Q : tkQ} (hQ : ∀ r, (∀ j, j < 96 → r j = J 4 0 4 j) → Q none (I, tk_so J 4 0 (tk_u1 (J 4 0) 6 r), R)) : tkDn tm_97 (0, [some (.inr (.inr (4, 0, 4))), some (.inr (.inr (4, 0, 6)))], [], (I, J, R)) Q := by
  refine dn_run 8 (show tkDn tm_97 (8, [some (.inr (.inr (4, 0, 4))), some (.inr (.inr (4, 0, 6)))], [.inl 96, .inl 96, .inl 0, .inr (.inr (4, 0, 6)), .inl 0, .inr (.inr (4, 0, 4))], (I, J, R)) _ from ?_)
  refine dn_run 1 (show tkDn tm_97 (11, [some (.inr (.inr (4, 0, 4))), some (.inr (.inr (4, 0, 6)))], [.inl (if (96 : Int32) < 96 then (96 : Int32) else 96), .inl 0, .inr (.inr (4, 0, 6)), .inl 0, .inr (.inr (4, 0, 4))], (I, J, R)) _ from ?_)
  rw [show (if (96 : Int32) < 96 then (96 : Int32) else 96) = 96 by decide]
  refine dn_run 1 (show (¬ (0 : Int32) < 0 ∧ ¬ (0 : Int32) < 0 ∧ ¬ (96 : Int32) < 0 ∧ (0 : Int32).toNatClampNeg + (96 : Int32).toNatClampNeg ≤ 96 ∧ (0 : Int32).toNatClampNeg + (96 : Int32).toNatClampNeg ≤ 96) ∧ tkDn tm_97 (14, [some (.inr (.inr (4, 0, 4))), some (.inr (.inr (4, 0, 6)))], [], (I, tk_so J 4 0 (tk_u1 (J 4 0) 6 (va_cpy (J 4 0 4) (J 4 0 6) (0 : Int32).toNatClampNeg (0 : Int32).toNatClampNeg (96 : Int32).toNatClampNeg)), R)) _ from ⟨by decide, ?_⟩)
  refine dn_ret0 rfl rfl rfl rfl ?_
  refine hQ _ (fun j hj => ?_)
  rw [show (0 : Int32).toNatClampNeg = 0 by decide, show (96 : Int32).toNatClampNeg = 96 by decide, pk_cpy_in (Nat.zero_le _) (by omega)]
  rw [Nat.zero_add, Nat.sub_zero]
set_option maxRecDepth 8000 in
theorem sw_deep_1_loop {I : tkI} {J : tkJ} {R : Nat → Nat} {Q : tkQ} : ∀ n j, j + n = 256 → Q (some (.inl (if dpF (J 4 0 1) n j = true then 1 else 0))) (I, J, R) → tkDn tm_95 (2, [some (.inr (.inr (4, 0, 1))), some (.inl (nI j))], [], (I, J, R)) Q := by
  intro n
  induction n with
  | zero =>
    intro j hj hQ
    show tkDn tm_95 (2, [some (.inr (.inr (4, 0, 1))), some (.inl (nI j))], [], (I, J, R)) _
    refine dn_run 3 (show tkDn tm_95 (5, [some (.inr (.inr (4, 0, 1))), some (.inl (nI j))], [.inl 256, .inl (nI j)], (I, J, R)) _ from ?_)
    refine dn_if rfl rfl rfl (fun (c : 256 ≤ (nI j)) => ?_) (fun (c : ¬ 256 ≤ (nI j)) => ?_)
    · show tkDn tm_95 (26, [some (.inr (.inr (4, 0, 1))), some (.inl (nI j))], [], (I, J, R)) _
      refine dn_run 1 (show tkDn tm_95 (27, [some (.inr (.inr (4, 0, 1))), some (.inl (nI j))], [.inl 0], (I, J, R)) _ from ?_)
      refine dn_retb rfl rfl rfl rfl (by decide) ?_
      exact hQ
    · exact absurd (nI_le (a := 256) (by omega) (by omega)) c
  | succ n ih =>
    intro j hj hQ
    show tkDn tm_95 (2, [some (.inr (.inr (4, 0, 1))), some (.inl (nI j))], [], (I, J, R)) _
    refine dn_run 3 (show tkDn tm_95 (5, [some (.inr (.inr (4, 0, 1))), some (.inl (nI j))], [.inl 256, .inl (nI j)], (I, J, R)) _ from ?_)
    refine dn_if rfl rfl rfl (fun (c : 256 ≤ (nI j)) => ?_) (fun (c : ¬ 256 ≤ (nI j)) => ?_)
    · exact absurd c (nI_ge (b := 256) (by omega) (by omega))
    · show tkDn tm_95 (8, [some (.inr (.inr (4, 0, 1))), some (.inl (nI j))], [], (I, J, R)) _
      refine dn_run 5 (show (vp_in (nI j) 256) ∧ tkDn tm_95 (15, [some (.inr (.inr (4, 0, 1))), some (.inl (nI j))], [.inl (lg_cmp (J 4 0 1 ((nI j).toNatClampNeg)) (-1000000000000))], (I, J, R)) _ from ⟨vp_in_nI (by omega) (by omega), ?_⟩)
      rw [nI_clamp (show j < 2 ^ 31 by omega)]
      refine dn_if rfl rfl rfl (fun (c2 : 0 ≤ (lg_cmp (J 4 0 1 j) (-1000000000000))) => ?_) (fun (c2 : ¬ 0 ≤ (lg_cmp (J 4 0 1 j) (-1000000000000))) => ?_)
      · show tkDn tm_95 (20, [some (.inr (.inr (4, 0, 1))), some (.inl (nI j))], [], (I, J, R)) _
        refine dn_run 2 (show tkDn tm_95 (2, [some (.inr (.inr (4, 0, 1))), some (.inl ((nI j) + 1))], [], (I, J, R)) _ from ?_)
        rw [nI_1]
        rw [show dpF (J 4 0 1) (n + 1) j = dpF (J 4 0 1) n (j + 1) from if_neg (Int64.not_lt.mpr ((lg_cmp_ge _ _).mp c2))] at hQ
        exact ih (j + 1) (by omega) hQ
      · show tkDn tm_95 (18, [some (.inr (.inr (4, 0, 1))), some (.inl (nI j))], [], (I, J, R)) _
        refine dn_run 1 (show tkDn tm_95 (19, [some (.inr (.inr (4, 0, 1))), some (.inl (nI j))], [.inl 1], (I, J, R)) _ from ?_)
        refine dn_retb rfl rfl rfl rfl (by decide) ?_
        rw [show dpF (J 4 0 1) (n + 1) j = true from if_pos (Int64.not_le.mp (fun t => c2 ((lg_cmp_ge _ _).mpr t)))] at hQ
        exact hQ
set_option maxRecDepth 8000 in
theorem sw_deep_1 {I : tkI} {J : tkJ} {R : Nat → Nat} {Q : tkQ} (hQ : Q (some (.inl (if dpF (J 4 0 1) 256 0 = true then 1 else 0))) (I, J, R)) : tkDn tm_95 (0, [some (.inr (.inr (4, 0, 1))), none], [], (I, J, R)) Q := by
  refine dn_run 2 (show tkDn tm_95 (2, [some (.inr (.inr (4, 0, 1))), some (.inl 0)], [], (I, J, R)) _ from ?_)
  exact sw_deep_1_loop 256 0 rfl hQ
set_option maxRecDepth 8000 in
theorem sw_deep_4_loop {I : tkI} {J : tkJ} {R : Nat → Nat} {Q : tkQ} : ∀ n j, j + n = 96 → Q (some (.inl (if dpF (J 4 0 4) n j = true then 1 else 0))) (I, J, R) → tkDn tm_95 (2, [some (.inr (.inr (4, 0, 4))), some (.inl (nI j))], [], (I, J, R)) Q := by
  intro n
  induction n with
  | zero =>
    intro j hj hQ
    show tkDn tm_95 (2, [some (.inr (.inr (4, 0, 4))), some (.inl (nI j))], [], (I, J, R)) _
    refine dn_run 3 (show tkDn tm_95 (5, [some (.inr (.inr (4, 0, 4))), some (.inl (nI j))], [.inl 96, .inl (nI j)], (I, J, R)) _ from ?_)
    refine dn_if rfl rfl rfl (fun (c : 96 ≤ (nI j)) => ?_) (fun (c : ¬ 96 ≤ (nI j)) => ?_)
    · show tkDn tm_95 (26, [some (.inr (.inr (4, 0, 4))), some (.inl (nI j))], [], (I, J, R)) _
      refine dn_run 1 (show tkDn tm_95 (27, [some (.inr (.inr (4, 0, 4))), some (.inl (nI j))], [.inl 0], (I, J, R)) _ from ?_)
      refine dn_retb rfl rfl rfl rfl (by decide) ?_
      exact hQ
    · exact absurd (nI_le (a := 96) (by omega) (by omega)) c
  | succ n ih =>
    intro j hj hQ
    show tkDn tm_95 (2, [some (.inr (.inr (4, 0, 4))), some (.inl (nI j))], [], (I, J, R)) _
    refine dn_run 3 (show tkDn tm_95 (5, [some (.inr (.inr (4, 0, 4))), some (.inl (nI j))], [.inl 96, .inl (nI j)], (I, J, R)) _ from ?_)
    refine dn_if rfl rfl rfl (fun (c : 96 ≤ (nI j)) => ?_) (fun (c : ¬ 96 ≤ (nI j)) => ?_)
    · exact absurd c (nI_ge (b := 96) (by omega) (by omega))
    · show tkDn tm_95 (8, [some (.inr (.inr (4, 0, 4))), some (.inl (nI j))], [], (I, J, R)) _
      refine dn_run 5 (show (vp_in (nI j) 96) ∧ tkDn tm_95 (15, [some (.inr (.inr (4, 0, 4))), some (.inl (nI j))], [.inl (lg_cmp (J 4 0 4 ((nI j).toNatClampNeg)) (-1000000000000))], (I, J, R)) _ from ⟨vp_in_nI (by omega) (by omega), ?_⟩)
      rw [nI_clamp (show j < 2 ^ 31 by omega)]
      refine dn_if rfl rfl rfl (fun (c2 : 0 ≤ (lg_cmp (J 4 0 4 j) (-1000000000000))) => ?_) (fun (c2 : ¬ 0 ≤ (lg_cmp (J 4 0 4 j) (-1000000000000))) => ?_)
      · show tkDn tm_95 (20, [some (.inr (.inr (4, 0, 4))), some (.inl (nI j))], [], (I, J, R)) _
        refine dn_run 2 (show tkDn tm_95 (2, [some (.inr (.inr (4, 0, 4))), some (.inl ((nI j) + 1))], [], (I, J, R)) _ from ?_)
        rw [nI_1]
        rw [show dpF (J 4 0 4) (n + 1) j = dpF (J 4 0 4) n (j + 1) from if_neg (Int64.not_lt.mpr ((lg_cmp_ge _ _).mp c2))] at hQ
        exact ih (j + 1) (by omega) hQ
      · show tkDn tm_95 (18, [some (.inr (.inr (4, 0, 4))), some (.inl (nI j))], [], (I, J, R)) _
        refine dn_run 1 (show tkDn tm_95 (19, [some (.inr (.inr (4, 0, 4))), some (.inl (nI j))], [.inl 1], (I, J, R)) _ from ?_)
        refine dn_retb rfl rfl rfl rfl (by decide) ?_
        rw [show dpF (J 4 0 4) (n + 1) j = true from if_pos (Int64.not_le.mp (fun t => c2 ((lg_cmp_ge _ _).mpr t)))] at hQ
        exact hQ
set_option maxRecDepth 8000 in
theorem sw_deep_4 {I : tkI} {J : tkJ} {R : Nat → Nat} {Q : tkQ} (hQ : Q (some (.inl (if dpF (J 4 0 4) 96 0 = true then 1 else 0))) (I, J, R)) : tkDn tm_95 (0, [some (.inr (.inr (4, 0, 4))), none], [], (I, J, R)) Q := by
  refine dn_run 2 (show tkDn tm_95 (2, [some (.inr (.inr (4, 0, 4))), some (.inl 0)], [], (I, J, R)) _ from ?_)
  exact sw_deep_4_loop 96 0 rfl hQ
set_option maxRecDepth 8000 in
theorem sw_same_1_loop {I : tkI} {J : tkJ} {R : Nat → Nat} {Q : tkQ} : ∀ n j, j + n = 256 → Q (some (.inl (if smF (J 4 0 1) (J 4 0 2) n j = true then 1 else 0))) (I, J, R) → tkDn tm_96 (2, [some (.inr (.inr (4, 0, 1))), some (.inr (.inr (4, 0, 2))), some (.inl (nI j))], [], (I, J, R)) Q := by
  intro n
  induction n with
  | zero =>
    intro j hj hQ
    show tkDn tm_96 (2, [some (.inr (.inr (4, 0, 1))), some (.inr (.inr (4, 0, 2))), some (.inl (nI j))], [], (I, J, R)) _
    refine dn_run 3 (show tkDn tm_96 (5, [some (.inr (.inr (4, 0, 1))), some (.inr (.inr (4, 0, 2))), some (.inl (nI j))], [.inl 256, .inl (nI j)], (I, J, R)) _ from ?_)
    refine dn_if rfl rfl rfl (fun (c : 256 ≤ (nI j)) => ?_) (fun (c : ¬ 256 ≤ (nI j)) => ?_)
    · show tkDn tm_96 (32, [some (.inr (.inr (4, 0, 1))), some (.inr (.inr (4, 0, 2))), some (.inl (nI j))], [], (I, J, R)) _
      refine dn_run 1 (show tkDn tm_96 (33, [some (.inr (.inr (4, 0, 1))), some (.inr (.inr (4, 0, 2))), some (.inl (nI j))], [.inl 1], (I, J, R)) _ from ?_)
      refine dn_retb rfl rfl rfl rfl (by decide) ?_
      exact hQ
    · exact absurd (nI_le (a := 256) (by omega) (by omega)) c
  | succ n ih =>
    intro j hj hQ
    show tkDn tm_96 (2, [some (.inr (.inr (4, 0, 1))), some (.inr (.inr (4, 0, 2))), some (.inl (nI j))], [], (I, J, R)) _
    refine dn_run 3 (show tkDn tm_96 (5, [some (.inr (.inr (4, 0, 1))), some (.inr (.inr (4, 0, 2))), some (.inl (nI j))], [.inl 256, .inl (nI j)], (I, J, R)) _ from ?_)
    refine dn_if rfl rfl rfl (fun (c : 256 ≤ (nI j)) => ?_) (fun (c : ¬ 256 ≤ (nI j)) => ?_)
    · exact absurd c (nI_ge (b := 256) (by omega) (by omega))
    · show tkDn tm_96 (8, [some (.inr (.inr (4, 0, 1))), some (.inr (.inr (4, 0, 2))), some (.inl (nI j))], [], (I, J, R)) _
      refine dn_run 3 (show tkDn tm_96 (11, [some (.inr (.inr (4, 0, 1))), some (.inr (.inr (4, 0, 2))), some (.inl (nI j))], [.inl 256, .inl (nI j)], (I, J, R)) _ from ?_)
      refine dn_if rfl rfl rfl (fun (c3 : 256 ≤ (nI j)) => ?_) (fun (c3 : ¬ 256 ≤ (nI j)) => ?_)
      · exact absurd c3 (nI_ge (b := 256) (by omega) (by omega))
      · show tkDn tm_96 (14, [some (.inr (.inr (4, 0, 1))), some (.inr (.inr (4, 0, 2))), some (.inl (nI j))], [], (I, J, R)) _
        refine dn_run 7 (show (vp_in (nI j) 256) ∧ (vp_in (nI j) 256) ∧ tkDn tm_96 (21, [some (.inr (.inr (4, 0, 1))), some (.inr (.inr (4, 0, 2))), some (.inl (nI j))], [.inl (lg_cmp (J 4 0 1 ((nI j).toNatClampNeg)) (J 4 0 2 ((nI j).toNatClampNeg)))], (I, J, R)) _ from ⟨vp_in_nI (by omega) (by omega), vp_in_nI (by omega) (by omega), ?_⟩)
        rw [nI_clamp (show j < 2 ^ 31 by omega)]
        refine dn_if rfl rfl rfl (fun (c2 : (lg_cmp (J 4 0 1 j) (J 4 0 2 j)) = 0) => ?_) (fun (c2 : ¬ (lg_cmp (J 4 0 1 j) (J 4 0 2 j)) = 0) => ?_)
        · show tkDn tm_96 (26, [some (.inr (.inr (4, 0, 1))), some (.inr (.inr (4, 0, 2))), some (.inl (nI j))], [], (I, J, R)) _
          refine dn_run 2 (show tkDn tm_96 (2, [some (.inr (.inr (4, 0, 1))), some (.inr (.inr (4, 0, 2))), some (.inl ((nI j) + 1))], [], (I, J, R)) _ from ?_)
          rw [nI_1]
          rw [show smF (J 4 0 1) (J 4 0 2) (n + 1) j = smF (J 4 0 1) (J 4 0 2) n (j + 1) from if_pos ((lg_cmp_eq _ _).mp c2)] at hQ
          exact ih (j + 1) (by omega) hQ
        · show tkDn tm_96 (24, [some (.inr (.inr (4, 0, 1))), some (.inr (.inr (4, 0, 2))), some (.inl (nI j))], [], (I, J, R)) _
          refine dn_run 1 (show tkDn tm_96 (25, [some (.inr (.inr (4, 0, 1))), some (.inr (.inr (4, 0, 2))), some (.inl (nI j))], [.inl 0], (I, J, R)) _ from ?_)
          refine dn_retb rfl rfl rfl rfl (by decide) ?_
          rw [show smF (J 4 0 1) (J 4 0 2) (n + 1) j = false from if_neg (fun q => c2 ((lg_cmp_eq _ _).mpr q))] at hQ
          exact hQ
set_option maxRecDepth 8000 in
theorem sw_same_1 {I : tkI} {J : tkJ} {R : Nat → Nat} {Q : tkQ} (hQ : Q (some (.inl (if smF (J 4 0 1) (J 4 0 2) 256 0 = true then 1 else 0))) (I, J, R)) : tkDn tm_96 (0, [some (.inr (.inr (4, 0, 1))), some (.inr (.inr (4, 0, 2))), none], [], (I, J, R)) Q := by
  refine dn_run 2 (show tkDn tm_96 (2, [some (.inr (.inr (4, 0, 1))), some (.inr (.inr (4, 0, 2))), some (.inl 0)], [], (I, J, R)) _ from ?_)
  exact sw_same_1_loop 256 0 rfl hQ
set_option maxRecDepth 8000 in
theorem sw_same_4_loop {I : tkI} {J : tkJ} {R : Nat → Nat} {Q : tkQ} : ∀ n j, j + n = 96 → Q (some (.inl (if smF (J 4 0 4) (J 4 0 5) n j = true then 1 else 0))) (I, J, R) → tkDn tm_96 (2, [some (.inr (.inr (4, 0, 4))), some (.inr (.inr (4, 0, 5))), some (.inl (nI j))], [], (I, J, R)) Q := by
  intro n
  induction n with
  | zero =>
    intro j hj hQ
    show tkDn tm_96 (2, [some (.inr (.inr (4, 0, 4))), some (.inr (.inr (4, 0, 5))), some (.inl (nI j))], [], (I, J, R)) _
    refine dn_run 3 (show tkDn tm_96 (5, [some (.inr (.inr (4, 0, 4))), some (.inr (.inr (4, 0, 5))), some (.inl (nI j))], [.inl 96, .inl (nI j)], (I, J, R)) _ from ?_)
    refine dn_if rfl rfl rfl (fun (c : 96 ≤ (nI j)) => ?_) (fun (c : ¬ 96 ≤ (nI j)) => ?_)
    · show tkDn tm_96 (32, [some (.inr (.inr (4, 0, 4))), some (.inr (.inr (4, 0, 5))), some (.inl (nI j))], [], (I, J, R)) _
      refine dn_run 1 (show tkDn tm_96 (33, [some (.inr (.inr (4, 0, 4))), some (.inr (.inr (4, 0, 5))), some (.inl (nI j))], [.inl 1], (I, J, R)) _ from ?_)
      refine dn_retb rfl rfl rfl rfl (by decide) ?_
      exact hQ
    · exact absurd (nI_le (a := 96) (by omega) (by omega)) c
  | succ n ih =>
    intro j hj hQ
    show tkDn tm_96 (2, [some (.inr (.inr (4, 0, 4))), some (.inr (.inr (4, 0, 5))), some (.inl (nI j))], [], (I, J, R)) _
    refine dn_run 3 (show tkDn tm_96 (5, [some (.inr (.inr (4, 0, 4))), some (.inr (.inr (4, 0, 5))), some (.inl (nI j))], [.inl 96, .inl (nI j)], (I, J, R)) _ from ?_)
    refine dn_if rfl rfl rfl (fun (c : 96 ≤ (nI j)) => ?_) (fun (c : ¬ 96 ≤ (nI j)) => ?_)
    · exact absurd c (nI_ge (b := 96) (by omega) (by omega))
    · show tkDn tm_96 (8, [some (.inr (.inr (4, 0, 4))), some (.inr (.inr (4, 0, 5))), some (.inl (nI j))], [], (I, J, R)) _
      refine dn_run 3 (show tkDn tm_96 (11, [some (.inr (.inr (4, 0, 4))), some (.inr (.inr (4, 0, 5))), some (.inl (nI j))], [.inl 96, .inl (nI j)], (I, J, R)) _ from ?_)
      refine dn_if rfl rfl rfl (fun (c3 : 96 ≤ (nI j)) => ?_) (fun (c3 : ¬ 96 ≤ (nI j)) => ?_)
      · exact absurd c3 (nI_ge (b := 96) (by omega) (by omega))
      · show tkDn tm_96 (14, [some (.inr (.inr (4, 0, 4))), some (.inr (.inr (4, 0, 5))), some (.inl (nI j))], [], (I, J, R)) _
        refine dn_run 7 (show (vp_in (nI j) 96) ∧ (vp_in (nI j) 96) ∧ tkDn tm_96 (21, [some (.inr (.inr (4, 0, 4))), some (.inr (.inr (4, 0, 5))), some (.inl (nI j))], [.inl (lg_cmp (J 4 0 4 ((nI j).toNatClampNeg)) (J 4 0 5 ((nI j).toNatClampNeg)))], (I, J, R)) _ from ⟨vp_in_nI (by omega) (by omega), vp_in_nI (by omega) (by omega), ?_⟩)
        rw [nI_clamp (show j < 2 ^ 31 by omega)]
        refine dn_if rfl rfl rfl (fun (c2 : (lg_cmp (J 4 0 4 j) (J 4 0 5 j)) = 0) => ?_) (fun (c2 : ¬ (lg_cmp (J 4 0 4 j) (J 4 0 5 j)) = 0) => ?_)
        · show tkDn tm_96 (26, [some (.inr (.inr (4, 0, 4))), some (.inr (.inr (4, 0, 5))), some (.inl (nI j))], [], (I, J, R)) _
          refine dn_run 2 (show tkDn tm_96 (2, [some (.inr (.inr (4, 0, 4))), some (.inr (.inr (4, 0, 5))), some (.inl ((nI j) + 1))], [], (I, J, R)) _ from ?_)
          rw [nI_1]
          rw [show smF (J 4 0 4) (J 4 0 5) (n + 1) j = smF (J 4 0 4) (J 4 0 5) n (j + 1) from if_pos ((lg_cmp_eq _ _).mp c2)] at hQ
          exact ih (j + 1) (by omega) hQ
        · show tkDn tm_96 (24, [some (.inr (.inr (4, 0, 4))), some (.inr (.inr (4, 0, 5))), some (.inl (nI j))], [], (I, J, R)) _
          refine dn_run 1 (show tkDn tm_96 (25, [some (.inr (.inr (4, 0, 4))), some (.inr (.inr (4, 0, 5))), some (.inl (nI j))], [.inl 0], (I, J, R)) _ from ?_)
          refine dn_retb rfl rfl rfl rfl (by decide) ?_
          rw [show smF (J 4 0 4) (J 4 0 5) (n + 1) j = false from if_neg (fun q => c2 ((lg_cmp_eq _ _).mpr q))] at hQ
          exact hQ
set_option maxRecDepth 8000 in
theorem sw_same_4 {I : tkI} {J : tkJ} {R : Nat → Nat} {Q : tkQ} (hQ : Q (some (.inl (if smF (J 4 0 4) (J 4 0 5) 96 0 = true then 1 else 0))) (I, J, R)) : tkDn tm_96 (0, [some (.inr (.inr (4, 0, 4))), some (.inr (.inr (4, 0, 5))), none], [], (I, J, R)) Q := by
  refine dn_run 2 (show tkDn tm_96 (2, [some (.inr (.inr (4, 0, 4))), some (.inr (.inr (4, 0, 5))), some (.inl 0)], [], (I, J, R)) _ from ?_)
  exact sw_same_4_loop 96 0 rfl hQ
set_option maxRecDepth 8000 in
theorem sw_beginDelays_loop {I : tkI} {J : tkJ} {R : Nat → Nat} {Q : tkQ} {b : Nat} {S : tkS} (hP : NetP (I 1 b) S) (w : WF S) (hQ : ∀ r, WRow r (bdM S (sG S)) → Q none (I, tk_so J 4 0 (tk_u1 (J 4 0) 4 r), R)) : ∀ n g r, g + n = sG S → WRow r (bdM S g) → tkDn tm_87 (12, [some (.inr (.inr (4, 0, 0))), some (.inr (.inr (1, b, 0))), some (.inl (nI g))], [], (I, tk_so J 4 0 (tk_u1 (J 4 0) 4 r), R)) Q := by
  have hM16 := w.1
  have hL60 := w.2.1
  have hG6 := w.2.2.1
  intro n
  induction n with
  | zero =>
    intro g r hg hr
    show tkDn tm_87 (12, [some (.inr (.inr (4, 0, 0))), some (.inr (.inr (1, b, 0))), some (.inl (nI g))], [], (I, tk_so J 4 0 (tk_u1 (J 4 0) 4 r), R)) _
    refine dn_run 2 (show tkDn tm_87 (14, [some (.inr (.inr (4, 0, 0))), some (.inr (.inr (1, b, 0))), some (.inl (nI g))], [.inr (.inr (1, b, 0)), .inl (nI g)], (I, tk_so J 4 0 (tk_u1 (J 4 0) 4 r), R)) _ from ?_)
    refine dn_call rfl rfl rfl rfl rfl (sN_giftCount hP ?_)
    show tkDn tm_87 (17, [some (.inr (.inr (4, 0, 0))), some (.inr (.inr (1, b, 0))), some (.inl (nI g))], [.inl (nI (sG S)), .inl (nI g)], (I, tk_so J 4 0 (tk_u1 (J 4 0) 4 r), R)) _
    refine dn_if rfl rfl rfl (fun (c : (nI (sG S)) ≤ (nI g)) => ?_) (fun (c : ¬ (nI (sG S)) ≤ (nI g)) => ?_)
    · show tkDn tm_87 (47, [some (.inr (.inr (4, 0, 0))), some (.inr (.inr (1, b, 0))), some (.inl (nI g))], [], (I, tk_so J 4 0 (tk_u1 (J 4 0) 4 r), R)) _
      refine dn_ret0 rfl rfl rfl rfl ?_
      rw [show g = sG S by omega] at hr
      exact hQ r hr
    · exact absurd (nI_le (by omega) (by omega)) c
  | succ n ih =>
    intro g r hg hr
    have hgl := w.gl (g := g) (by omega)
    have he := w.eM hgl
    show tkDn tm_87 (12, [some (.inr (.inr (4, 0, 0))), some (.inr (.inr (1, b, 0))), some (.inl (nI g))], [], (I, tk_so J 4 0 (tk_u1 (J 4 0) 4 r), R)) _
    refine dn_run 2 (show tkDn tm_87 (14, [some (.inr (.inr (4, 0, 0))), some (.inr (.inr (1, b, 0))), some (.inl (nI g))], [.inr (.inr (1, b, 0)), .inl (nI g)], (I, tk_so J 4 0 (tk_u1 (J 4 0) 4 r), R)) _ from ?_)
    refine dn_call rfl rfl rfl rfl rfl (sN_giftCount hP ?_)
    show tkDn tm_87 (17, [some (.inr (.inr (4, 0, 0))), some (.inr (.inr (1, b, 0))), some (.inl (nI g))], [.inl (nI (sG S)), .inl (nI g)], (I, tk_so J 4 0 (tk_u1 (J 4 0) 4 r), R)) _
    refine dn_if rfl rfl rfl (fun (c : (nI (sG S)) ≤ (nI g)) => ?_) (fun (c : ¬ (nI (sG S)) ≤ (nI g)) => ?_)
    · exact absurd c (nI_ge (by omega) (by omega))
    · show tkDn tm_87 (20, [some (.inr (.inr (4, 0, 0))), some (.inr (.inr (1, b, 0))), some (.inl (nI g))], [], (I, tk_so J 4 0 (tk_u1 (J 4 0) 4 r), R)) _
      refine dn_run 4 (show tkDn tm_87 (26, [some (.inr (.inr (4, 0, 0))), some (.inr (.inr (1, b, 0))), some (.inl (nI g))], [.inl (nI g), .inr (.inr (1, b, 0)), .inr (.inr (4, 0, 4))], (I, tk_so J 4 0 (tk_u1 (J 4 0) 4 r), R)) _ from ?_)
      refine dn_call rfl rfl rfl rfl rfl (sN_giftTo hP w (g := g) (by omega) ?_)
      show tkDn tm_87 (29, [some (.inr (.inr (4, 0, 0))), some (.inr (.inr (1, b, 0))), some (.inl (nI g))], [.inl (nI (se S (sgl S g))), .inr (.inr (4, 0, 4))], (I, tk_so J 4 0 (tk_u1 (J 4 0) 4 r), R)) _
      refine dn_run 1 (show tkDn tm_87 (30, [some (.inr (.inr (4, 0, 0))), some (.inr (.inr (1, b, 0))), some (.inl (nI g))], [.inl (nI g), .inl (nI (se S (sgl S g))), .inr (.inr (4, 0, 4))], (I, tk_so J 4 0 (tk_u1 (J 4 0) 4 r), R)) _ from ?_)
      refine dn_call rfl rfl rfl rfl rfl (sw_cell ?_)
      show tkDn tm_87 (33, [some (.inr (.inr (4, 0, 0))), some (.inr (.inr (1, b, 0))), some (.inl (nI g))], [.inl (nI (6 * se S (sgl S g) + g)), .inr (.inr (4, 0, 4))], (I, tk_so J 4 0 (tk_u1 (J 4 0) 4 r), R)) _
      refine dn_run 2 (show tkDn tm_87 (35, [some (.inr (.inr (4, 0, 0))), some (.inr (.inr (1, b, 0))), some (.inl (nI g))], [.inl (nI g), .inr (.inr (1, b, 0)), .inl (nI (6 * se S (sgl S g) + g)), .inr (.inr (4, 0, 4))], (I, tk_so J 4 0 (tk_u1 (J 4 0) 4 r), R)) _ from ?_)
      refine dn_call rfl rfl rfl rfl rfl (sN_giftHigh hP w (g := g) (by omega) ?_)
      show tkDn tm_87 (38, [some (.inr (.inr (4, 0, 0))), some (.inr (.inr (1, b, 0))), some (.inl (nI g))], [.inl (shi S (sgl S g)), .inl (nI (6 * se S (sgl S g) + g)), .inr (.inr (4, 0, 4))], (I, tk_so J 4 0 (tk_u1 (J 4 0) 4 r), R)) _
      refine dn_run 5 (show (vp_in (nI (6 * se S (sgl S g) + g)) 96) ∧ tkDn tm_87 (12, [some (.inr (.inr (4, 0, 0))), some (.inr (.inr (1, b, 0))), some (.inl ((nI g) + 1))], [], (I, tk_so (tk_so J 4 0 (tk_u1 (J 4 0) 4 r)) 4 0 (tk_u2 (tk_u1 (J 4 0) 4 r) 4 ((nI (6 * se S (sgl S g) + g)).toNatClampNeg) (((-(shi S (sgl S g))) : Int32).toInt64)), R)) _ from ⟨vp_in_nI (by omega) (by omega), ?_⟩)
      rw [tk_so_so]
      rw [tk_u2_u1, nI_clamp (show 6 * se S (sgl S g) + g < 2 ^ 31 by omega), nI_1]
      exact ih (g + 1) _ (by omega) (hr.put (by omega))
set_option maxRecDepth 8000 in
theorem sw_beginDelays {I : tkI} {J : tkJ} {R : Nat → Nat} {Q : tkQ} {b : Nat} {S : tkS} (hP : NetP (I 1 b) S) (w : WF S) (hQ : ∀ r, WRow r (bdM S (sG S)) → Q none (I, tk_so J 4 0 (tk_u1 (J 4 0) 4 r), R)) : tkDn tm_87 (0, [some (.inr (.inr (4, 0, 0))), some (.inr (.inr (1, b, 0))), none], [], (I, J, R)) Q := by
  refine dn_run 3 (show tkDn tm_87 (7, [some (.inr (.inr (4, 0, 0))), some (.inr (.inr (1, b, 0))), none], [.inr (.inl 4611686018427387904), .inr (.inr (4, 0, 4))], (I, J, R)) _ from ?_)
  refine dn_call rfl rfl rfl rfl rfl (ss_fill_4_4 ?_)
  show tkDn tm_87 (10, [some (.inr (.inr (4, 0, 0))), some (.inr (.inr (1, b, 0))), none], [], (I, tk_so J 4 0 (tk_u1 (J 4 0) 4 (fillR (J 4 0 4) 96 4611686018427387904)), R)) _
  refine dn_run 2 (show tkDn tm_87 (12, [some (.inr (.inr (4, 0, 0))), some (.inr (.inr (1, b, 0))), some (.inl 0)], [], (I, tk_so J 4 0 (tk_u1 (J 4 0) 4 (fillR (J 4 0 4) 96 4611686018427387904)), R)) _ from ?_)
  refine sw_beginDelays_loop hP w hQ (sG S) 0 _ (Nat.zero_add _) (fun a g ha hg => ?_)
  unfold fillR
  rw [if_pos (by omega)]
  rfl
set_option maxRecDepth 8000 in
theorem sw_leastWaitVia_loop {I : tkI} {J : tkJ} {R : Nat → Nat} {Q : tkQ} {e v : tkD} {n a g : Nat} (hn : n ≤ 16) (ha : a < 16) (hg : g < 6) (he : RowP 16 (J 4 0 1) e) (hv : WRow (J 4 0 6) v) (hQ : Q (some (.inr (.inl (lwF e v a g n)))) (I, J, R)) : ∀ m c o7 o9, c + m = n → tkDn tm_90 (8, [some (.inr (.inr (4, 0, 0))), some (.inl (nI n)), some (.inl (nI a)), some (.inl (nI g)), some (.inr (.inl (lwF e v a g c))), none, some (.inl (nI c)), o7, none, o9, none], [], (I, J, R)) Q := by
  intro m
  induction m with
  | zero =>
    intro c o7 o9 hc
    show tkDn tm_90 (8, [some (.inr (.inr (4, 0, 0))), some (.inl (nI n)), some (.inl (nI a)), some (.inl (nI g)), some (.inr (.inl (lwF e v a g c))), none, some (.inl (nI c)), o7, none, o9, none], [], (I, J, R)) _
    refine dn_run 2 (show tkDn tm_90 (11, [some (.inr (.inr (4, 0, 0))), some (.inl (nI n)), some (.inl (nI a)), some (.inl (nI g)), some (.inr (.inl (lwF e v a g c))), none, some (.inl (nI c)), o7, none, o9, none], [.inl (nI n), .inl (nI c)], (I, J, R)) _ from ?_)
    refine dn_if rfl rfl rfl (fun (q : (nI n) ≤ (nI c)) => ?_) (fun (q : ¬ (nI n) ≤ (nI c)) => ?_)
    · show tkDn tm_90 (76, [some (.inr (.inr (4, 0, 0))), some (.inl (nI n)), some (.inl (nI a)), some (.inl (nI g)), some (.inr (.inl (lwF e v a g c))), none, some (.inl (nI c)), o7, none, o9, none], [], (I, J, R)) _
      refine dn_run 1 (show tkDn tm_90 (78, [some (.inr (.inr (4, 0, 0))), some (.inl (nI n)), some (.inl (nI a)), some (.inl (nI g)), some (.inr (.inl (lwF e v a g c))), none, some (.inl (nI c)), o7, none, o9, none], [.inr (.inl (lwF e v a g c))], (I, J, R)) _ from ?_)
      refine dn_ret0 rfl rfl rfl rfl ?_
      rw [show c = n by omega]
      exact hQ
    · exact absurd (nI_le (by omega) (by omega)) q
  | succ m ih =>
    intro c o7 o9 hc
    show tkDn tm_90 (8, [some (.inr (.inr (4, 0, 0))), some (.inl (nI n)), some (.inl (nI a)), some (.inl (nI g)), some (.inr (.inl (lwF e v a g c))), none, some (.inl (nI c)), o7, none, o9, none], [], (I, J, R)) _
    refine dn_run 2 (show tkDn tm_90 (11, [some (.inr (.inr (4, 0, 0))), some (.inl (nI n)), some (.inl (nI a)), some (.inl (nI g)), some (.inr (.inl (lwF e v a g c))), none, some (.inl (nI c)), o7, none, o9, none], [.inl (nI n), .inl (nI c)], (I, J, R)) _ from ?_)
    refine dn_if rfl rfl rfl (fun (q : (nI n) ≤ (nI c)) => ?_) (fun (q : ¬ (nI n) ≤ (nI c)) => ?_)
    · exact absurd q (nI_ge (by omega) (by omega))
    · show tkDn tm_90 (14, [some (.inr (.inr (4, 0, 0))), some (.inl (nI n)), some (.inl (nI a)), some (.inl (nI g)), some (.inr (.inl (lwF e v a g c))), none, some (.inl (nI c)), o7, none, o9, none], [], (I, J, R)) _
      refine dn_run 4 (show tkDn tm_90 (21, [some (.inr (.inr (4, 0, 0))), some (.inl (nI n)), some (.inl (nI a)), some (.inl (nI g)), some (.inr (.inl (lwF e v a g c))), none, some (.inl (nI c)), o7, none, o9, none], [.inl (nI c), .inl (nI a), .inr (.inr (4, 0, 1))], (I, J, R)) _ from ?_)
      refine dn_call rfl rfl rfl rfl rfl (ss_cell ?_)
      show tkDn tm_90 (24, [some (.inr (.inr (4, 0, 0))), some (.inl (nI n)), some (.inl (nI a)), some (.inl (nI g)), some (.inr (.inl (lwF e v a g c))), none, some (.inl (nI c)), o7, none, o9, none], [.inl (nI (16 * a + c)), .inr (.inr (4, 0, 1))], (I, J, R)) _
      refine dn_run 2 (show (vp_in (nI (16 * a + c)) 256) ∧ tkDn tm_90 (27, [some (.inr (.inr (4, 0, 0))), some (.inl (nI n)), some (.inl (nI a)), some (.inl (nI g)), some (.inr (.inl (lwF e v a g c))), none, some (.inl (nI c)), some (.inr (.inl (J 4 0 1 ((nI (16 * a + c)).toNatClampNeg)))), none, o9, none], [], (I, J, R)) _ from ⟨vp_in_nI (by omega) (by omega), ?_⟩)
      rw [he.at (by omega) ha (by omega)]
      show tkDn tm_90 (27, [some (.inr (.inr (4, 0, 0))), some (.inl (nI n)), some (.inl (nI a)), some (.inl (nI g)), some (.inr (.inl (lwF e v a g c))), none, some (.inl (nI c)), some (.inr (.inl (e a c))), none, o9, none], [], (I, J, R)) _
      refine dn_run 4 (show tkDn tm_90 (34, [some (.inr (.inr (4, 0, 0))), some (.inl (nI n)), some (.inl (nI a)), some (.inl (nI g)), some (.inr (.inl (lwF e v a g c))), none, some (.inl (nI c)), some (.inr (.inl (e a c))), none, o9, none], [.inl (nI g), .inl (nI c), .inr (.inr (4, 0, 6))], (I, J, R)) _ from ?_)
      refine dn_call rfl rfl rfl rfl rfl (sw_cell ?_)
      show tkDn tm_90 (37, [some (.inr (.inr (4, 0, 0))), some (.inl (nI n)), some (.inl (nI a)), some (.inl (nI g)), some (.inr (.inl (lwF e v a g c))), none, some (.inl (nI c)), some (.inr (.inl (e a c))), none, o9, none], [.inl (nI (6 * c + g)), .inr (.inr (4, 0, 6))], (I, J, R)) _
      refine dn_run 2 (show (vp_in (nI (6 * c + g)) 96) ∧ tkDn tm_90 (40, [some (.inr (.inr (4, 0, 0))), some (.inl (nI n)), some (.inl (nI a)), some (.inl (nI g)), some (.inr (.inl (lwF e v a g c))), none, some (.inl (nI c)), some (.inr (.inl (e a c))), none, some (.inr (.inl (J 4 0 6 ((nI (6 * c + g)).toNatClampNeg)))), none], [], (I, J, R)) _ from ⟨vp_in_nI (by omega) (by omega), ?_⟩)
      rw [hv.at (by omega) hg]
      show tkDn tm_90 (40, [some (.inr (.inr (4, 0, 0))), some (.inl (nI n)), some (.inl (nI a)), some (.inl (nI g)), some (.inr (.inl (lwF e v a g c))), none, some (.inl (nI c)), some (.inr (.inl (e a c))), none, some (.inr (.inl (v c g))), none], [], (I, J, R)) _
      refine dn_run 3 (show tkDn tm_90 (46, [some (.inr (.inr (4, 0, 0))), some (.inl (nI n)), some (.inl (nI a)), some (.inl (nI g)), some (.inr (.inl (lwF e v a g c))), none, some (.inl (nI c)), some (.inr (.inl (e a c))), none, some (.inr (.inl (v c g))), none], [.inl (lg_cmp (e a c) 4611686018427387904)], (I, J, R)) _ from ?_)
      refine dn_if rfl rfl rfl (fun (c1 : (lg_cmp (e a c) 4611686018427387904) = 0) => ?_) (fun (c1 : ¬ (lg_cmp (e a c) 4611686018427387904) = 0) => ?_)
      · show tkDn tm_90 (70, [some (.inr (.inr (4, 0, 0))), some (.inl (nI n)), some (.inl (nI a)), some (.inl (nI g)), some (.inr (.inl (lwF e v a g c))), none, some (.inl (nI c)), some (.inr (.inl (e a c))), none, some (.inr (.inl (v c g))), none], [], (I, J, R)) _
        refine dn_run 2 (show tkDn tm_90 (8, [some (.inr (.inr (4, 0, 0))), some (.inl (nI n)), some (.inl (nI a)), some (.inl (nI g)), some (.inr (.inl (lwF e v a g c))), none, some (.inl ((nI c) + 1)), some (.inr (.inl (e a c))), none, some (.inr (.inl (v c g))), none], [], (I, J, R)) _ from ?_)
        rw [nI_1]
        rw [show lwF e v a g c = lwF e v a g (c + 1) from (if_neg (fun q => q.1 ((lg_cmp_eq _ _).mp c1))).symm]
        exact ih (c + 1) _ _ (by omega)
      · show tkDn tm_90 (49, [some (.inr (.inr (4, 0, 0))), some (.inl (nI n)), some (.inl (nI a)), some (.inl (nI g)), some (.inr (.inl (lwF e v a g c))), none, some (.inl (nI c)), some (.inr (.inl (e a c))), none, some (.inr (.inl (v c g))), none], [], (I, J, R)) _
        refine dn_run 3 (show tkDn tm_90 (55, [some (.inr (.inr (4, 0, 0))), some (.inl (nI n)), some (.inl (nI a)), some (.inl (nI g)), some (.inr (.inl (lwF e v a g c))), none, some (.inl (nI c)), some (.inr (.inl (e a c))), none, some (.inr (.inl (v c g))), none], [.inl (lg_cmp (v c g) 4611686018427387904)], (I, J, R)) _ from ?_)
        refine dn_if rfl rfl rfl (fun (c2 : (lg_cmp (v c g) 4611686018427387904) = 0) => ?_) (fun (c2 : ¬ (lg_cmp (v c g) 4611686018427387904) = 0) => ?_)
        · show tkDn tm_90 (70, [some (.inr (.inr (4, 0, 0))), some (.inl (nI n)), some (.inl (nI a)), some (.inl (nI g)), some (.inr (.inl (lwF e v a g c))), none, some (.inl (nI c)), some (.inr (.inl (e a c))), none, some (.inr (.inl (v c g))), none], [], (I, J, R)) _
          refine dn_run 2 (show tkDn tm_90 (8, [some (.inr (.inr (4, 0, 0))), some (.inl (nI n)), some (.inl (nI a)), some (.inl (nI g)), some (.inr (.inl (lwF e v a g c))), none, some (.inl ((nI c) + 1)), some (.inr (.inl (e a c))), none, some (.inr (.inl (v c g))), none], [], (I, J, R)) _ from ?_)
          rw [nI_1]
          rw [show lwF e v a g c = lwF e v a g (c + 1) from (if_neg (fun q => q.2 ((lg_cmp_eq _ _).mp c2))).symm]
          exact ih (c + 1) _ _ (by omega)
        · show tkDn tm_90 (58, [some (.inr (.inr (4, 0, 0))), some (.inl (nI n)), some (.inl (nI a)), some (.inl (nI g)), some (.inr (.inl (lwF e v a g c))), none, some (.inl (nI c)), some (.inr (.inl (e a c))), none, some (.inr (.inl (v c g))), none], [], (I, J, R)) _
          refine dn_run 8 (show tkDn tm_90 (8, [some (.inr (.inr (4, 0, 0))), some (.inl (nI n)), some (.inl (nI a)), some (.inl (nI g)), some (.inr (.inl (if ((e a c) + (v c g)) < (lwF e v a g c) then ((e a c) + (v c g)) else (lwF e v a g c)))), none, some (.inl ((nI c) + 1)), some (.inr (.inl (e a c))), none, some (.inr (.inl (v c g))), none], [], (I, J, R)) _ from ?_)
          rw [nI_1]
          rw [show (if (e a c + v c g) < lwF e v a g c then (e a c + v c g) else lwF e v a g c) = lwF e v a g (c + 1) from (if_pos ⟨fun q => c1 ((lg_cmp_eq _ _).mpr q), fun q => c2 ((lg_cmp_eq _ _).mpr q)⟩).symm]
          exact ih (c + 1) _ _ (by omega)
set_option maxRecDepth 8000 in
theorem sw_leastWaitVia {I : tkI} {J : tkJ} {R : Nat → Nat} {Q : tkQ} {e v : tkD} {n a g : Nat} (hn : n ≤ 16) (ha : a < 16) (hg : g < 6) (he : RowP 16 (J 4 0 1) e) (hv : WRow (J 4 0 6) v) (hQ : Q (some (.inr (.inl (lwF e v a g n)))) (I, J, R)) : tkDn tm_90 (0, [some (.inr (.inr (4, 0, 0))), some (.inl (nI n)), some (.inl (nI a)), some (.inl (nI g)), none, none, none, none, none, none, none], [], (I, J, R)) Q := by
  refine dn_run 4 (show tkDn tm_90 (8, [some (.inr (.inr (4, 0, 0))), some (.inl (nI n)), some (.inl (nI a)), some (.inl (nI g)), some (.inr (.inl 4611686018427387904)), none, some (.inl 0), none, none, none, none], [], (I, J, R)) _ from ?_)
  exact sw_leastWaitVia_loop hn ha hg he hv hQ n 0 none none (Nat.zero_add _)
