/-! the reference: goesRound -/
set_option maxRecDepth 8000 in
theorem sm_gr_1 {I : tkI} {J : tkJ} {R : Nat → Nat} {Q : tkQ} {N : Nat → Nat → Int64} (hK : tkDn tm_172 (27, [some (.inr (.inr (6, 0, 0))), some (.inl (nI 256))], [], (I, tk_so J 6 0 (tk_u1 N 26 (cpR (N 24) (N 26) 256)), R)) Q) : ∀ m i, i + m = 256 → tkDn tm_172 (2, [some (.inr (.inr (6, 0, 0))), some (.inl (nI i))], [], (I, tk_so J 6 0 (tk_u1 N 26 (cpR (N 24) (N 26) i)), R)) Q := by
  intro m
  induction m with
  | zero =>
    intro i hi
    have hi : i = 256 := by omega
    subst hi
    show tkDn tm_172 (2, [some (.inr (.inr (6, 0, 0))), some (.inl (nI 256))], [], (I, tk_so J 6 0 (tk_u1 N 26 (cpR (N 24) (N 26) 256)), R)) _
    refine dn_run 2 (show tkDn tm_172 (6, [some (.inr (.inr (6, 0, 0))), some (.inl (nI 256))], [.inl 256, .inl (nI 256)], (I, tk_so J 6 0 (tk_u1 N 26 (cpR (N 24) (N 26) 256)), R)) _ from ?_)
    refine dn_if rfl rfl rfl (fun (c : 256 ≤ (nI 256)) => ?_) (fun (c : ¬ 256 ≤ (nI 256)) => ?_)
    · exact hK
    · exact absurd (by decide) c
  | succ m ih =>
    intro i hi
    show tkDn tm_172 (2, [some (.inr (.inr (6, 0, 0))), some (.inl (nI i))], [], (I, tk_so J 6 0 (tk_u1 N 26 (cpR (N 24) (N 26) i)), R)) _
    refine dn_run 2 (show tkDn tm_172 (6, [some (.inr (.inr (6, 0, 0))), some (.inl (nI i))], [.inl 256, .inl (nI i)], (I, tk_so J 6 0 (tk_u1 N 26 (cpR (N 24) (N 26) i)), R)) _ from ?_)
    refine dn_if rfl rfl rfl (fun (c : 256 ≤ (nI i)) => ?_) (fun (c : ¬ 256 ≤ (nI i)) => ?_)
    · exact absurd c (nI_ge (b := 256) (by omega) (by omega))
    · show tkDn tm_172 (9, [some (.inr (.inr (6, 0, 0))), some (.inl (nI i))], [], (I, tk_so J 6 0 (tk_u1 N 26 (cpR (N 24) (N 26) i)), R)) _
      refine dn_run 10 (show (vp_in (nI i) 256) ∧ (vp_in (nI i) 256) ∧ tkDn tm_172 (2, [some (.inr (.inr (6, 0, 0))), some (.inl ((nI i) + 1))], [], (I, tk_so (tk_so J 6 0 (tk_u1 N 26 (cpR (N 24) (N 26) i))) 6 0 (tk_u2 (tk_u1 N 26 (cpR (N 24) (N 26) i)) 26 ((nI i).toNatClampNeg) (N 24 ((nI i).toNatClampNeg))), R)) _ from ⟨vp_in_nI (by omega) (by omega), vp_in_nI (by omega) (by omega), ?_⟩)
      rw [tk_so_so]
      rw [tk_u2_u1, nI_clamp (show i < 2 ^ 31 by omega), cpR_s, nI_1]
      exact ih (i + 1) (by omega)
set_option maxRecDepth 8000 in
theorem sm_gr_2 {I : tkI} {J : tkJ} {R : Nat → Nat} {Q : tkQ} {N : Nat → Nat → Int64} (hK : tkDn tm_172 (53, [some (.inr (.inr (6, 0, 0))), some (.inl (nI 96))], [], (I, tk_so J 6 0 (tk_u1 N 27 (cpR (N 25) (N 27) 96)), R)) Q) : ∀ m i, i + m = 96 → tkDn tm_172 (29, [some (.inr (.inr (6, 0, 0))), some (.inl (nI i))], [], (I, tk_so J 6 0 (tk_u1 N 27 (cpR (N 25) (N 27) i)), R)) Q := by
  intro m
  induction m with
  | zero =>
    intro i hi
    have hi : i = 96 := by omega
    subst hi
    show tkDn tm_172 (29, [some (.inr (.inr (6, 0, 0))), some (.inl (nI 96))], [], (I, tk_so J 6 0 (tk_u1 N 27 (cpR (N 25) (N 27) 96)), R)) _
    refine dn_run 2 (show tkDn tm_172 (32, [some (.inr (.inr (6, 0, 0))), some (.inl (nI 96))], [.inl 96, .inl (nI 96)], (I, tk_so J 6 0 (tk_u1 N 27 (cpR (N 25) (N 27) 96)), R)) _ from ?_)
    refine dn_if rfl rfl rfl (fun (c : 96 ≤ (nI 96)) => ?_) (fun (c : ¬ 96 ≤ (nI 96)) => ?_)
    · exact hK
    · exact absurd (by decide) c
  | succ m ih =>
    intro i hi
    show tkDn tm_172 (29, [some (.inr (.inr (6, 0, 0))), some (.inl (nI i))], [], (I, tk_so J 6 0 (tk_u1 N 27 (cpR (N 25) (N 27) i)), R)) _
    refine dn_run 2 (show tkDn tm_172 (32, [some (.inr (.inr (6, 0, 0))), some (.inl (nI i))], [.inl 96, .inl (nI i)], (I, tk_so J 6 0 (tk_u1 N 27 (cpR (N 25) (N 27) i)), R)) _ from ?_)
    refine dn_if rfl rfl rfl (fun (c : 96 ≤ (nI i)) => ?_) (fun (c : ¬ 96 ≤ (nI i)) => ?_)
    · exact absurd c (nI_ge (b := 96) (by omega) (by omega))
    · show tkDn tm_172 (35, [some (.inr (.inr (6, 0, 0))), some (.inl (nI i))], [], (I, tk_so J 6 0 (tk_u1 N 27 (cpR (N 25) (N 27) i)), R)) _
      refine dn_run 10 (show (vp_in (nI i) 96) ∧ (vp_in (nI i) 96) ∧ tkDn tm_172 (29, [some (.inr (.inr (6, 0, 0))), some (.inl ((nI i) + 1))], [], (I, tk_so (tk_so J 6 0 (tk_u1 N 27 (cpR (N 25) (N 27) i))) 6 0 (tk_u2 (tk_u1 N 27 (cpR (N 25) (N 27) i)) 27 ((nI i).toNatClampNeg) (N 25 ((nI i).toNatClampNeg))), R)) _ from ⟨vp_in_nI (by omega) (by omega), vp_in_nI (by omega) (by omega), ?_⟩)
      rw [tk_so_so]
      rw [tk_u2_u1, nI_clamp (show i < 2 ^ 31 by omega), cpR_s, nI_1]
      exact ih (i + 1) (by omega)
set_option maxRecDepth 8000 in
theorem sm_goesRound {I : tkI} {J : tkJ} {R : Nat → Nat} {Q : tkQ} {S : tkS} (hP : NetP (I 6 0) S) (w : WF S) {e v : tkD} {N : Nat → Nat → Int64} (he : RowP 16 (N 24) e) (hv : WRow (N 25) v) (hQ : ∀ N2 (x : Int32) e' v', mRd S e v x e' v' → RowP 16 (N2 24) e' → WRow (N2 25) v' → Q (some (.inl x)) (I, tk_so J 6 0 N2, R)) : tkDn tm_172 (0, [some (.inr (.inr (6, 0, 0))), none], [], (I, tk_so J 6 0 N, R)) Q := by
  refine dn_run 2 (show tkDn tm_172 (2, [some (.inr (.inr (6, 0, 0))), some (.inl 0)], [], (I, tk_so J 6 0 N, R)) _ from ?_)
  have key := sm_gr_1 (I := I) (J := J) (R := R) (Q := Q) (N := N) ?_ 256 0 rfl
  · rw [cpR_0, tk_u1_id] at key; exact key
  show tkDn tm_172 (27, [some (.inr (.inr (6, 0, 0))), some (.inl (nI 256))], [], (I, tk_so J 6 0 (tk_u1 N 26 (cpR (N 24) (N 26) 256)), R)) _
  obtain ⟨N1, hN1⟩ : ∃ N1, N1 = tk_u1 N 26 (cpR (N 24) (N 26) 256) := ⟨_, rfl⟩
  rw [← hN1]
  show tkDn tm_172 (27, [some (.inr (.inr (6, 0, 0))), some (.inl (nI 256))], [], (I, tk_so J 6 0 N1, R)) _
  refine dn_run 2 (show tkDn tm_172 (29, [some (.inr (.inr (6, 0, 0))), some (.inl 0)], [], (I, tk_so J 6 0 N1, R)) _ from ?_)
  have key2 := sm_gr_2 (I := I) (J := J) (R := R) (Q := Q) (N := N1) ?_ 96 0 rfl
  · rw [cpR_0, tk_u1_id] at key2; exact key2
  show tkDn tm_172 (53, [some (.inr (.inr (6, 0, 0))), some (.inl (nI 96))], [], (I, tk_so J 6 0 (tk_u1 N1 27 (cpR (N1 25) (N1 27) 96)), R)) _
  obtain ⟨N2, hN2⟩ : ∃ N2, N2 = tk_u1 N1 27 (cpR (N1 25) (N1 27) 96) := ⟨_, rfl⟩
  rw [← hN2]
  show tkDn tm_172 (53, [some (.inr (.inr (6, 0, 0))), some (.inl (nI 96))], [], (I, tk_so J 6 0 N2, R)) _
  have h24 : RowP 16 (N2 24) e := by rw [hN2, tk_u1_ne (by decide), hN1, tk_u1_ne (by decide)]; exact he
  have h25 : WRow (N2 25) v := by rw [hN2, tk_u1_ne (by decide), hN1, tk_u1_ne (by decide)]; exact hv
  have h26 : RowP 16 (N2 26) e := by rw [hN2, tk_u1_ne (by decide), hN1, tk_u1_same]; exact he.cp (fun j hj => if_pos hj)
  have h27 : WRow (N2 27) v := by rw [hN2, tk_u1_same, hN1, tk_u1_ne (by decide)]; exact hv.cp (fun j hj => if_pos hj)
  refine dn_run 1 (show tkDn tm_172 (54, [some (.inr (.inr (6, 0, 0))), some (.inl (nI 96))], [.inr (.inr (6, 0, 0))], (I, tk_so J 6 0 N2, R)) _ from ?_)
  refine dn_call rfl rfl rfl rfl rfl (sm_closesEdges hP w h24 (fun N3 k24 k3 => ?_))
  show tkDn tm_172 (57, [some (.inr (.inr (6, 0, 0))), some (.inl (nI 96))], [.inl (if (mcF e (sM S)).1 = true then 1 else 0)], (I, tk_so J 6 0 N3, R)) _
  refine dn_if rfl rfl rfl (fun (c1 : ¬ (if (mcF e (sM S)).1 = true then 1 else 0) = 0) => ?_) (fun (c1 : (if (mcF e (sM S)).1 = true then 1 else 0) = 0) => ?_)
  · show tkDn tm_172 (62, [some (.inr (.inr (6, 0, 0))), some (.inl (nI 96))], [], (I, tk_so J 6 0 N3, R)) _
    have c0 : (mrC S e).1 = true := Classical.byContradiction fun z => c1 (if_neg z)
    refine dn_run 1 (show tkDn tm_172 (63, [some (.inr (.inr (6, 0, 0))), some (.inl (nI 96))], [.inr (.inr (6, 0, 0))], (I, tk_so J 6 0 N3, R)) _ from ?_)
    refine dn_call rfl rfl rfl rfl rfl (sm_combine hP w (e := (mrC S e).2) (v := v) k24 (by rw [k3 25 (by decide) (by decide)]; exact h25) (fun N4 k25 k4 => ?_))
    show tkDn tm_172 (66, [some (.inr (.inr (6, 0, 0))), some (.inl (nI 96))], [], (I, tk_so J 6 0 N4, R)) _
    refine dn_run 1 (show tkDn tm_172 (67, [some (.inr (.inr (6, 0, 0))), some (.inl (nI 96))], [.inr (.inr (6, 0, 0))], (I, tk_so J 6 0 N4, R)) _ from ?_)
    refine dn_call rfl rfl rfl rfl rfl (sm_unwait hP w (e := (mrC S e).2) (v := mrV1 S e v) (by rw [k4 24 (by decide) (by decide) (by decide)]; exact k24) k25 (fun N5 l24 k5 => ?_))
    show tkDn tm_172 (70, [some (.inr (.inr (6, 0, 0))), some (.inl (nI 96))], [], (I, tk_so J 6 0 N5, R)) _
    refine dn_run 1 (show tkDn tm_172 (71, [some (.inr (.inr (6, 0, 0))), some (.inl (nI 96))], [.inr (.inr (6, 0, 0))], (I, tk_so J 6 0 N5, R)) _ from ?_)
    refine dn_call rfl rfl rfl rfl rfl (sm_comeDown hP w (e := mrE2 S e v) (v := mrV1 S e v) l24 (by rw [k5 25 (by decide) (by decide) (by decide)]; exact k25) (fun N6 m24 m25 k6 => ?_))
    show tkDn tm_172 (74, [some (.inr (.inr (6, 0, 0))), some (.inl (nI 96))], [], (I, tk_so J 6 0 N6, R)) _
    refine dn_run 1 (show tkDn tm_172 (75, [some (.inr (.inr (6, 0, 0))), some (.inl (nI 96))], [.inr (.inr (6, 0, 0))], (I, tk_so J 6 0 N6, R)) _ from ?_)
    refine dn_call rfl rfl rfl rfl rfl (sm_isBroken hP w (e := mrE3 S e v) (v := mrV2 S e v) m24 m25 (fun N7 x hx hb k7 => ?_))
    show tkDn tm_172 (78, [some (.inr (.inr (6, 0, 0))), some (.inl (nI 96))], [.inl x], (I, tk_so J 6 0 N7, R)) _
    have n24 : RowP 16 (N7 24) (mrE3 S e v) := by rw [k7 24 (by decide)]; exact m24
    have n25 : WRow (N7 25) (mrV2 S e v) := by rw [k7 25 (by decide)]; exact m25
    have n26 : RowP 16 (N7 26) e := by rw [k7 26 (by decide), k6 26 (by decide) (by decide) (by decide) (by decide), k5 26 (by decide) (by decide) (by decide), k4 26 (by decide) (by decide) (by decide), k3 26 (by decide) (by decide)]; exact h26
    have n27 : WRow (N7 27) v := by rw [k7 27 (by decide), k6 27 (by decide) (by decide) (by decide) (by decide), k5 27 (by decide) (by decide) (by decide), k4 27 (by decide) (by decide) (by decide), k3 27 (by decide) (by decide)]; exact h27
    refine dn_if rfl rfl rfl (fun (c2 : x = 0) => ?_) (fun (c2 : ¬ x = 0) => ?_)
    · show tkDn tm_172 (85, [some (.inr (.inr (6, 0, 0))), some (.inl (nI 96))], [], (I, tk_so J 6 0 N7, R)) _
      have cb : ¬ mBad S (mrE3 S e v) (mrV2 S e v) := fun z => absurd (hb.mpr z) (by rw [c2]; decide)
      refine dn_run 1 (show tkDn tm_172 (86, [some (.inr (.inr (6, 0, 0))), some (.inl (nI 96))], [.inr (.inr (6, 0, 0))], (I, tk_so J 6 0 N7, R)) _ from ?_)
      refine dn_call rfl rfl rfl rfl rfl (sm_isAsItWas ?_)
      rw [tk_so_same, smF_eq (r := N7 24) (q := N7 26) (r' := rowE (mrE3 S e v)) (q' := rowE e) 256 0 (fun i _ hi => ⟨n24.eq i (by omega), n26.eq i (by omega)⟩), smF_eq (r := N7 25) (q := N7 27) (r' := rowW (mrV2 S e v)) (q' := rowW v) 96 0 (fun i _ hi => ⟨n25.eq i (by omega), n27.eq i (by omega)⟩)]
      show tkDn tm_172 (89, [some (.inr (.inr (6, 0, 0))), some (.inl (nI 96))], [.inl (if smF (rowE (mrE3 S e v)) (rowE e) 256 0 = true ∧ smF (rowW (mrV2 S e v)) (rowW v) 96 0 = true then 1 else 0)], (I, tk_so J 6 0 N7, R)) _
      refine dn_if rfl rfl rfl (fun (c3 : (if smF (rowE (mrE3 S e v)) (rowE e) 256 0 = true ∧ smF (rowW (mrV2 S e v)) (rowW v) 96 0 = true then 1 else 0) = 0) => ?_) (fun (c3 : ¬ (if smF (rowE (mrE3 S e v)) (rowE e) 256 0 = true ∧ smF (rowW (mrV2 S e v)) (rowW v) 96 0 = true then 1 else 0) = 0) => ?_)
      · show tkDn tm_172 (96, [some (.inr (.inr (6, 0, 0))), some (.inl (nI 96))], [], (I, tk_so J 6 0 N7, R)) _
        refine dn_run 1 (show tkDn tm_172 (97, [some (.inr (.inr (6, 0, 0))), some (.inl (nI 96))], [.inl 0], (I, tk_so J 6 0 N7, R)) _ from ?_)
        refine dn_ret0 rfl rfl rfl rfl ?_
        exact hQ N7 0 _ _ (Or.inr ⟨c0, rfl, rfl, Or.inr ⟨cb, Or.inr ⟨fun z => absurd (c3.symm.trans (if_pos z)) (by decide), rfl⟩⟩⟩) n24 n25
      · show tkDn tm_172 (92, [some (.inr (.inr (6, 0, 0))), some (.inl (nI 96))], [], (I, tk_so J 6 0 N7, R)) _
        refine dn_run 2 (show tkDn tm_172 (97, [some (.inr (.inr (6, 0, 0))), some (.inl (nI 96))], [.inl 1], (I, tk_so J 6 0 N7, R)) _ from ?_)
        refine dn_ret0 rfl rfl rfl rfl ?_
        exact hQ N7 1 _ _ (Or.inr ⟨c0, rfl, rfl, Or.inr ⟨cb, Or.inl ⟨Classical.byContradiction fun z => c3 (if_neg z), rfl⟩⟩⟩) n24 n25
    · show tkDn tm_172 (81, [some (.inr (.inr (6, 0, 0))), some (.inl (nI 96))], [], (I, tk_so J 6 0 N7, R)) _
      refine dn_run 2 (show tkDn tm_172 (97, [some (.inr (.inr (6, 0, 0))), some (.inl (nI 96))], [.inl 2], (I, tk_so J 6 0 N7, R)) _ from ?_)
      refine dn_ret0 rfl rfl rfl rfl ?_
      exact hQ N7 2 _ _ (Or.inr ⟨c0, rfl, rfl, Or.inl ⟨hb.mp (hx.resolve_left c2), rfl⟩⟩) n24 n25
  · show tkDn tm_172 (60, [some (.inr (.inr (6, 0, 0))), some (.inl (nI 96))], [], (I, tk_so J 6 0 N3, R)) _
    refine dn_run 1 (show tkDn tm_172 (61, [some (.inr (.inr (6, 0, 0))), some (.inl (nI 96))], [.inl 2], (I, tk_so J 6 0 N3, R)) _ from ?_)
    refine dn_ret0 rfl rfl rfl rfl ?_
    exact hQ N3 2 (mrC S e).2 v (Or.inl ⟨fun z => absurd (c1.symm.trans (if_pos z)) (by decide), rfl⟩) k24 (by rw [k3 25 (by decide) (by decide)]; exact h25)
