/-! the reference: comeDown -/
set_option maxRecDepth 8000 in
theorem sm_cd1_in {I : tkI} {J : tkJ} {R : Nat → Nat} {Q : tkQ} {S : tkS} (hP : NetP (I 6 0) S) (w : WF S) {e q : tkD} {N : Nat → Nat → Int64} (hq : RowP 16 (N 28) q) {g : Nat} (hg : g < sG S) (hK : ∀ r o3, RowP 16 r (ceI S q g (ceO S q e (sM S) g) (sM S)) → tkDn tm_169 (76, [some (.inr (.inr (6, 0, 0))), some (.inl (nI g)), some (.inl (nI (sM S))), o3, none], [], (I, tk_so J 6 0 (tk_u1 N 24 r), R)) Q) : ∀ m c r o3, c + m = sM S → RowP 16 r (ceI S q g (ceO S q e (sM S) g) c) → tkDn tm_169 (16, [some (.inr (.inr (6, 0, 0))), some (.inl (nI g)), some (.inl (nI c)), o3, none], [], (I, tk_so J 6 0 (tk_u1 N 24 r), R)) Q := by
  have hM16 := w.1
  have hL60 := w.2.1
  have hG6 := w.2.2.1
  have hM := hP.m
  have hG := hP.g
  have hgl := w.gl hg
  have hf := w.fM hgl
  have he_ := w.eM hgl
  have e9 := hP.gl w hg
  have e6 := hP.lo w hgl
  intro m
  induction m with
  | zero =>
    intro c r o3 hc hr
    have hc : c = sM S := by omega
    subst hc
    show tkDn tm_169 (16, [some (.inr (.inr (6, 0, 0))), some (.inl (nI g)), some (.inl (nI (sM S))), o3, none], [], (I, tk_so J 6 0 (tk_u1 N 24 r), R)) _
    refine dn_run 3 (show tkDn tm_169 (21, [some (.inr (.inr (6, 0, 0))), some (.inl (nI g)), some (.inl (nI (sM S))), o3, none], [.inl (I 6 0 0 0), .inl (nI (sM S))], (I, tk_so J 6 0 (tk_u1 N 24 r), R)) _ from ?_)
    rw [hM]
    refine dn_if rfl rfl rfl (fun (qq : (nI (sM S)) ≤ (nI (sM S))) => ?_) (fun (qq : ¬ (nI (sM S)) ≤ (nI (sM S))) => ?_)
    · show tkDn tm_169 (76, [some (.inr (.inr (6, 0, 0))), some (.inl (nI g)), some (.inl (nI (sM S))), o3, none], [], (I, tk_so J 6 0 (tk_u1 N 24 r), R)) _
      exact hK r _ hr
    · exact absurd (nI_le (by omega) (by omega)) qq
  | succ m ih =>
    intro c r o3 hc hr
    show tkDn tm_169 (16, [some (.inr (.inr (6, 0, 0))), some (.inl (nI g)), some (.inl (nI c)), o3, none], [], (I, tk_so J 6 0 (tk_u1 N 24 r), R)) _
    refine dn_run 3 (show tkDn tm_169 (21, [some (.inr (.inr (6, 0, 0))), some (.inl (nI g)), some (.inl (nI c)), o3, none], [.inl (I 6 0 0 0), .inl (nI c)], (I, tk_so J 6 0 (tk_u1 N 24 r), R)) _ from ?_)
    rw [hM]
    refine dn_if rfl rfl rfl (fun (qq : (nI (sM S)) ≤ (nI c)) => ?_) (fun (qq : ¬ (nI (sM S)) ≤ (nI c)) => ?_)
    · exact absurd qq (nI_ge (by omega) (by omega))
    · show tkDn tm_169 (24, [some (.inr (.inr (6, 0, 0))), some (.inl (nI g)), some (.inl (nI c)), o3, none], [], (I, tk_so J 6 0 (tk_u1 N 24 r), R)) _
      refine dn_run 5 (show tkDn tm_169 (32, [some (.inr (.inr (6, 0, 0))), some (.inl (nI g)), some (.inl (nI c)), o3, none], [.inl (nI g), .inr (.inr (6, 0, 0)), .inl 16, .inr (.inr (6, 0, 28))], (I, tk_so J 6 0 (tk_u1 N 24 r), R)) _ from ?_)
      refine dn_call rfl rfl rfl rfl rfl (sm_end hP w hg ?_)
      show tkDn tm_169 (35, [some (.inr (.inr (6, 0, 0))), some (.inl (nI g)), some (.inl (nI c)), o3, none], [.inl (nI (se S (sgl S g))), .inl 16, .inr (.inr (6, 0, 28))], (I, tk_so J 6 0 (tk_u1 N 24 r), R)) _
      refine dn_run 5 (show (vp_in ((16 * (nI (se S (sgl S g)))) + (nI c)) 256) ∧ tkDn tm_169 (40, [some (.inr (.inr (6, 0, 0))), some (.inl (nI g)), some (.inl (nI c)), some (.inr (.inl (N 28 (((16 * (nI (se S (sgl S g)))) + (nI c)).toNatClampNeg)))), none], [], (I, tk_so J 6 0 (tk_u1 N 24 r), R)) _ from ⟨by rw [ix16']; exact vp_in_nI (by omega) (by omega), ?_⟩)
      rw [ix16', hq.at (by omega) (by omega) (by omega)]
      show tkDn tm_169 (40, [some (.inr (.inr (6, 0, 0))), some (.inl (nI g)), some (.inl (nI c)), some (.inr (.inl (q (se S (sgl S g)) c))), none], [], (I, tk_so J 6 0 (tk_u1 N 24 r), R)) _
      refine dn_run 3 (show tkDn tm_169 (43, [some (.inr (.inr (6, 0, 0))), some (.inl (nI g)), some (.inl (nI c)), some (.inr (.inl (q (se S (sgl S g)) c))), none], [.inl (lg_cmp (q (se S (sgl S g)) c) 0)], (I, tk_so J 6 0 (tk_u1 N 24 r), R)) _ from ?_)
      refine dn_if rfl rfl rfl (fun (c1 : 0 ≤ (lg_cmp (q (se S (sgl S g)) c) 0)) => ?_) (fun (c1 : ¬ 0 ≤ (lg_cmp (q (se S (sgl S g)) c) 0)) => ?_)
      · show tkDn tm_169 (70, [some (.inr (.inr (6, 0, 0))), some (.inl (nI g)), some (.inl (nI c)), some (.inr (.inl (q (se S (sgl S g)) c))), none], [], (I, tk_so J 6 0 (tk_u1 N 24 r), R)) _
        refine dn_run 2 (show tkDn tm_169 (16, [some (.inr (.inr (6, 0, 0))), some (.inl (nI g)), some (.inl ((nI c) + 1)), some (.inr (.inl (q (se S (sgl S g)) c))), none], [], (I, tk_so J 6 0 (tk_u1 N 24 r), R)) _ from ?_)
        rw [nI_1]
        exact ih (c + 1) r _ (by omega) (by rw [show ceI S q g (ceO S q e (sM S) g) (c + 1) = ceI S q g (ceO S q e (sM S) g) c from if_neg (Int64.not_lt.mpr ((lg_cmp_ge _ _).mp c1))]; exact hr)
      · show tkDn tm_169 (46, [some (.inr (.inr (6, 0, 0))), some (.inl (nI g)), some (.inl (nI c)), some (.inr (.inl (q (se S (sgl S g)) c))), none], [], (I, tk_so J 6 0 (tk_u1 N 24 r), R)) _
        have c1 := Int64.not_le.mp (fun z => c1 ((lg_cmp_ge _ _).mpr z))
        refine dn_run 3 (show tkDn tm_169 (49, [some (.inr (.inr (6, 0, 0))), some (.inl (nI g)), some (.inl (nI c)), some (.inr (.inl (q (se S (sgl S g)) c))), none], [.inl (nI g), .inr (.inr (6, 0, 0)), .inr (.inr (6, 0, 0))], (I, tk_so J 6 0 (tk_u1 N 24 r), R)) _ from ?_)
        refine dn_call rfl rfl rfl rfl rfl (sm_begin hP w hg ?_)
        show tkDn tm_169 (52, [some (.inr (.inr (6, 0, 0))), some (.inl (nI g)), some (.inl (nI c)), some (.inr (.inl (q (se S (sgl S g)) c))), none], [.inl (nI (sf S (sgl S g))), .inr (.inr (6, 0, 0))], (I, tk_so J 6 0 (tk_u1 N 24 r), R)) _
        refine dn_run 11 (show (vp_in (nI g) 6) ∧ (vp_in (I 6 0 9 ((nI g).toNatClampNeg)) 60) ∧ tkDn tm_169 (67, [some (.inr (.inr (6, 0, 0))), some (.inl (nI g)), some (.inl (nI c)), some (.inr (.inl (q (se S (sgl S g)) c))), none], [.inr (.inl ((((I 6 0 6 ((I 6 0 9 ((nI g).toNatClampNeg)).toNatClampNeg)) : Int32).toInt64) + (q (se S (sgl S g)) c))), .inl (nI c), .inl (nI (sf S (sgl S g))), .inr (.inr (6, 0, 0))], (I, tk_so J 6 0 (tk_u1 N 24 r), R)) _ from ⟨vp_in_nI (by omega) (by omega), by rw [e9]; exact vp_in_nI (by omega) (by omega), ?_⟩)
        rw [e9, e6]
        show tkDn tm_169 (67, [some (.inr (.inr (6, 0, 0))), some (.inl (nI g)), some (.inl (nI c)), some (.inr (.inl (q (se S (sgl S g)) c))), none], [.inr (.inl ((slo S (sgl S g)).toInt64 + q (se S (sgl S g)) c)), .inl (nI c), .inl (nI (sf S (sgl S g))), .inr (.inr (6, 0, 0))], (I, tk_so J 6 0 (tk_u1 N 24 r), R)) _
        refine dn_call rfl rfl rfl rfl rfl (sm_lessEdge (by omega) (by omega) ?_)
        rw [tk_so_so, tk_so_same, tk_u1_u1, tk_u1_same]
        show tkDn tm_169 (70, [some (.inr (.inr (6, 0, 0))), some (.inl (nI g)), some (.inl (nI c)), some (.inr (.inl (q (se S (sgl S g)) c))), none], [], (I, tk_so J 6 0 (tk_u1 N 24 (low1 r (16 * sf S (sgl S g) + c) ((slo S (sgl S g)).toInt64 + q (se S (sgl S g)) c))), R)) _
        refine dn_run 2 (show tkDn tm_169 (16, [some (.inr (.inr (6, 0, 0))), some (.inl (nI g)), some (.inl ((nI c) + 1)), some (.inr (.inl (q (se S (sgl S g)) c))), none], [], (I, tk_so J 6 0 (tk_u1 N 24 (low1 r (16 * sf S (sgl S g) + c) ((slo S (sgl S g)).toInt64 + q (se S (sgl S g)) c))), R)) _ from ?_)
        rw [nI_1]
        exact ih (c + 1) _ _ (by omega) (by rw [show ceI S q g (ceO S q e (sM S) g) (c + 1) = lowM (ceI S q g (ceO S q e (sM S) g) c) (sf S (sgl S g)) c ((slo S (sgl S g)).toInt64 + q (se S (sgl S g)) c) from if_pos c1]; exact hr.low (by omega) (by omega) (by omega))
set_option maxRecDepth 8000 in
theorem sm_cd1_out {I : tkI} {J : tkJ} {R : Nat → Nat} {Q : tkQ} {S : tkS} (hP : NetP (I 6 0) S) (w : WF S) {e q : tkD} {N : Nat → Nat → Int64} (hq : RowP 16 (N 28) q) (hK : ∀ r oc o3, RowP 16 r (ceO S q e (sM S) (sG S)) → tkDn tm_169 (82, [some (.inr (.inr (6, 0, 0))), some (.inl (nI (sG S))), oc, o3, none], [], (I, tk_so J 6 0 (tk_u1 N 24 r), R)) Q) : ∀ m g r oc o3, g + m = sG S → RowP 16 r (ceO S q e (sM S) g) → tkDn tm_169 (6, [some (.inr (.inr (6, 0, 0))), some (.inl (nI g)), oc, o3, none], [], (I, tk_so J 6 0 (tk_u1 N 24 r), R)) Q := by
  have hM16 := w.1
  have hL60 := w.2.1
  have hG6 := w.2.2.1
  have hM := hP.m
  have hG := hP.g
  intro m
  induction m with
  | zero =>
    intro g r oc o3 hg hr
    have hg : g = sG S := by omega
    subst hg
    show tkDn tm_169 (6, [some (.inr (.inr (6, 0, 0))), some (.inl (nI (sG S))), oc, o3, none], [], (I, tk_so J 6 0 (tk_u1 N 24 r), R)) _
    refine dn_run 3 (show tkDn tm_169 (11, [some (.inr (.inr (6, 0, 0))), some (.inl (nI (sG S))), oc, o3, none], [.inl (I 6 0 0 2), .inl (nI (sG S))], (I, tk_so J 6 0 (tk_u1 N 24 r), R)) _ from ?_)
    rw [hG]
    refine dn_if rfl rfl rfl (fun (qq : (nI (sG S)) ≤ (nI (sG S))) => ?_) (fun (qq : ¬ (nI (sG S)) ≤ (nI (sG S))) => ?_)
    · exact hK r _ _ hr
    · exact absurd (nI_le (by omega) (by omega)) qq
  | succ m ih =>
    intro g r oc o3 hg hr
    show tkDn tm_169 (6, [some (.inr (.inr (6, 0, 0))), some (.inl (nI g)), oc, o3, none], [], (I, tk_so J 6 0 (tk_u1 N 24 r), R)) _
    refine dn_run 3 (show tkDn tm_169 (11, [some (.inr (.inr (6, 0, 0))), some (.inl (nI g)), oc, o3, none], [.inl (I 6 0 0 2), .inl (nI g)], (I, tk_so J 6 0 (tk_u1 N 24 r), R)) _ from ?_)
    rw [hG]
    refine dn_if rfl rfl rfl (fun (qq : (nI (sG S)) ≤ (nI g)) => ?_) (fun (qq : ¬ (nI (sG S)) ≤ (nI g)) => ?_)
    · exact absurd qq (nI_ge (by omega) (by omega))
    · show tkDn tm_169 (14, [some (.inr (.inr (6, 0, 0))), some (.inl (nI g)), oc, o3, none], [], (I, tk_so J 6 0 (tk_u1 N 24 r), R)) _
      refine dn_run 2 (show tkDn tm_169 (16, [some (.inr (.inr (6, 0, 0))), some (.inl (nI g)), some (.inl 0), o3, none], [], (I, tk_so J 6 0 (tk_u1 N 24 r), R)) _ from ?_)
      refine sm_cd1_in hP w hq (by omega) (fun r2 o3x hr2 => ?_) (sM S) 0 r _ (Nat.zero_add _) hr
      show tkDn tm_169 (76, [some (.inr (.inr (6, 0, 0))), some (.inl (nI g)), some (.inl (nI (sM S))), o3x, none], [], (I, tk_so J 6 0 (tk_u1 N 24 r2), R)) _
      refine dn_run 2 (show tkDn tm_169 (6, [some (.inr (.inr (6, 0, 0))), some (.inl ((nI g) + 1)), some (.inl (nI (sM S))), o3x, none], [], (I, tk_so J 6 0 (tk_u1 N 24 r2), R)) _ from ?_)
      rw [nI_1]
      exact ih (g + 1) r2 _ _ (by omega) hr2
set_option maxRecDepth 8000 in
theorem up_low {d : tkD} {a b : Nat} {x : Int64} : upM d a b (if x < d a b then x else d a b) = lowM d a b x := by
  unfold lowM
  split
  · rfl
  · funext i j
    unfold upM
    by_cases q : i = a ∧ j = b
    · rw [if_pos q, q.1, q.2]
    · rw [if_neg q]
set_option maxRecDepth 8000 in
theorem sm_cd2_in {I : tkI} {J : tkJ} {R : Nat → Nat} {Q : tkQ} {S : tkS} (hP : NetP (I 6 0) S) (w : WF S) {u v : tkD} {N : Nat → Nat → Int64} (hu : WRow (N 29) u) {g : Nat} (hg : g < sG S) (hK : ∀ r o3, WRow r (cgI S u g (cgO S u v (sG S) g) (sG S)) → tkDn tm_169 (163, [some (.inr (.inr (6, 0, 0))), some (.inl (nI g)), some (.inl (nI (sG S))), o3, none], [], (I, tk_so J 6 0 (tk_u1 N 25 r), R)) Q) : ∀ m c r o3, c + m = sG S → WRow r (cgI S u g (cgO S u v (sG S) g) c) → tkDn tm_169 (98, [some (.inr (.inr (6, 0, 0))), some (.inl (nI g)), some (.inl (nI c)), o3, none], [], (I, tk_so J 6 0 (tk_u1 N 25 r), R)) Q := by
  have hM16 := w.1
  have hL60 := w.2.1
  have hG6 := w.2.2.1
  have hM := hP.m
  have hG := hP.g
  have hgl := w.gl hg
  have hf := w.fM hgl
  have he_ := w.eM hgl
  have e9 := hP.gl w hg
  have e6 := hP.lo w hgl
  intro m
  induction m with
  | zero =>
    intro c r o3 hc hr
    have hc : c = sG S := by omega
    subst hc
    show tkDn tm_169 (98, [some (.inr (.inr (6, 0, 0))), some (.inl (nI g)), some (.inl (nI (sG S))), o3, none], [], (I, tk_so J 6 0 (tk_u1 N 25 r), R)) _
    refine dn_run 3 (show tkDn tm_169 (103, [some (.inr (.inr (6, 0, 0))), some (.inl (nI g)), some (.inl (nI (sG S))), o3, none], [.inl (I 6 0 0 2), .inl (nI (sG S))], (I, tk_so J 6 0 (tk_u1 N 25 r), R)) _ from ?_)
    rw [hG]
    refine dn_if rfl rfl rfl (fun (qq : (nI (sG S)) ≤ (nI (sG S))) => ?_) (fun (qq : ¬ (nI (sG S)) ≤ (nI (sG S))) => ?_)
    · show tkDn tm_169 (163, [some (.inr (.inr (6, 0, 0))), some (.inl (nI g)), some (.inl (nI (sG S))), o3, none], [], (I, tk_so J 6 0 (tk_u1 N 25 r), R)) _
      exact hK r _ hr
    · exact absurd (nI_le (by omega) (by omega)) qq
  | succ m ih =>
    intro c r o3 hc hr
    show tkDn tm_169 (98, [some (.inr (.inr (6, 0, 0))), some (.inl (nI g)), some (.inl (nI c)), o3, none], [], (I, tk_so J 6 0 (tk_u1 N 25 r), R)) _
    refine dn_run 3 (show tkDn tm_169 (103, [some (.inr (.inr (6, 0, 0))), some (.inl (nI g)), some (.inl (nI c)), o3, none], [.inl (I 6 0 0 2), .inl (nI c)], (I, tk_so J 6 0 (tk_u1 N 25 r), R)) _ from ?_)
    rw [hG]
    refine dn_if rfl rfl rfl (fun (qq : (nI (sG S)) ≤ (nI c)) => ?_) (fun (qq : ¬ (nI (sG S)) ≤ (nI c)) => ?_)
    · exact absurd qq (nI_ge (by omega) (by omega))
    · show tkDn tm_169 (106, [some (.inr (.inr (6, 0, 0))), some (.inl (nI g)), some (.inl (nI c)), o3, none], [], (I, tk_so J 6 0 (tk_u1 N 25 r), R)) _
      refine dn_run 5 (show tkDn tm_169 (114, [some (.inr (.inr (6, 0, 0))), some (.inl (nI g)), some (.inl (nI c)), o3, none], [.inl (nI g), .inr (.inr (6, 0, 0)), .inl 6, .inr (.inr (6, 0, 29))], (I, tk_so J 6 0 (tk_u1 N 25 r), R)) _ from ?_)
      refine dn_call rfl rfl rfl rfl rfl (sm_end hP w hg ?_)
      show tkDn tm_169 (117, [some (.inr (.inr (6, 0, 0))), some (.inl (nI g)), some (.inl (nI c)), o3, none], [.inl (nI (se S (sgl S g))), .inl 6, .inr (.inr (6, 0, 29))], (I, tk_so J 6 0 (tk_u1 N 25 r), R)) _
      refine dn_run 5 (show (vp_in ((6 * (nI (se S (sgl S g)))) + (nI c)) 96) ∧ tkDn tm_169 (122, [some (.inr (.inr (6, 0, 0))), some (.inl (nI g)), some (.inl (nI c)), some (.inr (.inl (N 29 (((6 * (nI (se S (sgl S g)))) + (nI c)).toNatClampNeg)))), none], [], (I, tk_so J 6 0 (tk_u1 N 25 r), R)) _ from ⟨by rw [ix6']; exact vp_in_nI (by omega) (by omega), ?_⟩)
      rw [ix6', hu.at (by omega) (by omega)]
      show tkDn tm_169 (122, [some (.inr (.inr (6, 0, 0))), some (.inl (nI g)), some (.inl (nI c)), some (.inr (.inl (u (se S (sgl S g)) c))), none], [], (I, tk_so J 6 0 (tk_u1 N 25 r), R)) _
      refine dn_run 2 (show tkDn tm_169 (124, [some (.inr (.inr (6, 0, 0))), some (.inl (nI g)), some (.inl (nI c)), some (.inr (.inl (u (se S (sgl S g)) c))), none], [.inl (nI g), .inl (nI c)], (I, tk_so J 6 0 (tk_u1 N 25 r), R)) _ from ?_)
      refine dn_if rfl rfl rfl (fun (c1 : (nI c) = (nI g)) => ?_) (fun (c1 : ¬ (nI c) = (nI g)) => ?_)
      · show tkDn tm_169 (157, [some (.inr (.inr (6, 0, 0))), some (.inl (nI g)), some (.inl (nI c)), some (.inr (.inl (u (se S (sgl S g)) c))), none], [], (I, tk_so J 6 0 (tk_u1 N 25 r), R)) _
        refine dn_run 2 (show tkDn tm_169 (98, [some (.inr (.inr (6, 0, 0))), some (.inl (nI g)), some (.inl ((nI c) + 1)), some (.inr (.inl (u (se S (sgl S g)) c))), none], [], (I, tk_so J 6 0 (tk_u1 N 25 r), R)) _ from ?_)
        rw [nI_1]
        exact ih (c + 1) r _ (by omega) (by rw [show cgI S u g (cgO S u v (sG S) g) (c + 1) = cgI S u g (cgO S u v (sG S) g) c from if_neg (fun q => q.1 ((nI_eq (by omega) (by omega)).mp c1))]; exact hr)
      · show tkDn tm_169 (127, [some (.inr (.inr (6, 0, 0))), some (.inl (nI g)), some (.inl (nI c)), some (.inr (.inl (u (se S (sgl S g)) c))), none], [], (I, tk_so J 6 0 (tk_u1 N 25 r), R)) _
        refine dn_run 3 (show tkDn tm_169 (130, [some (.inr (.inr (6, 0, 0))), some (.inl (nI g)), some (.inl (nI c)), some (.inr (.inl (u (se S (sgl S g)) c))), none], [.inl (lg_cmp (u (se S (sgl S g)) c) 0)], (I, tk_so J 6 0 (tk_u1 N 25 r), R)) _ from ?_)
        refine dn_if rfl rfl rfl (fun (c2 : 0 ≤ (lg_cmp (u (se S (sgl S g)) c) 0)) => ?_) (fun (c2 : ¬ 0 ≤ (lg_cmp (u (se S (sgl S g)) c) 0)) => ?_)
        · show tkDn tm_169 (157, [some (.inr (.inr (6, 0, 0))), some (.inl (nI g)), some (.inl (nI c)), some (.inr (.inl (u (se S (sgl S g)) c))), none], [], (I, tk_so J 6 0 (tk_u1 N 25 r), R)) _
          refine dn_run 2 (show tkDn tm_169 (98, [some (.inr (.inr (6, 0, 0))), some (.inl (nI g)), some (.inl ((nI c) + 1)), some (.inr (.inl (u (se S (sgl S g)) c))), none], [], (I, tk_so J 6 0 (tk_u1 N 25 r), R)) _ from ?_)
          rw [nI_1]
          exact ih (c + 1) r _ (by omega) (by rw [show cgI S u g (cgO S u v (sG S) g) (c + 1) = cgI S u g (cgO S u v (sG S) g) c from if_neg (fun q => absurd q.2 (Int64.not_lt.mpr ((lg_cmp_ge _ _).mp c2)))]; exact hr)
        · show tkDn tm_169 (133, [some (.inr (.inr (6, 0, 0))), some (.inl (nI g)), some (.inl (nI c)), some (.inr (.inl (u (se S (sgl S g)) c))), none], [], (I, tk_so J 6 0 (tk_u1 N 25 r), R)) _
          have c2 := Int64.not_le.mp (fun z => c2 ((lg_cmp_ge _ _).mpr z))
          refine dn_run 3 (show tkDn tm_169 (136, [some (.inr (.inr (6, 0, 0))), some (.inl (nI g)), some (.inl (nI c)), some (.inr (.inl (u (se S (sgl S g)) c))), none], [.inl (nI g), .inr (.inr (6, 0, 0)), .inr (.inr (6, 0, 0))], (I, tk_so J 6 0 (tk_u1 N 25 r), R)) _ from ?_)
          refine dn_call rfl rfl rfl rfl rfl (sm_begin hP w hg ?_)
          show tkDn tm_169 (139, [some (.inr (.inr (6, 0, 0))), some (.inl (nI g)), some (.inl (nI c)), some (.inr (.inl (u (se S (sgl S g)) c))), none], [.inl (nI (sf S (sgl S g))), .inr (.inr (6, 0, 0))], (I, tk_so J 6 0 (tk_u1 N 25 r), R)) _
          refine dn_run 11 (show (vp_in (nI g) 6) ∧ (vp_in (I 6 0 9 ((nI g).toNatClampNeg)) 60) ∧ tkDn tm_169 (154, [some (.inr (.inr (6, 0, 0))), some (.inl (nI g)), some (.inl (nI c)), some (.inr (.inl (u (se S (sgl S g)) c))), none], [.inr (.inl ((((I 6 0 6 ((I 6 0 9 ((nI g).toNatClampNeg)).toNatClampNeg)) : Int32).toInt64) + (u (se S (sgl S g)) c))), .inl (nI c), .inl (nI (sf S (sgl S g))), .inr (.inr (6, 0, 0))], (I, tk_so J 6 0 (tk_u1 N 25 r), R)) _ from ⟨vp_in_nI (by omega) (by omega), by rw [e9]; exact vp_in_nI (by omega) (by omega), ?_⟩)
          rw [e9, e6]
          show tkDn tm_169 (154, [some (.inr (.inr (6, 0, 0))), some (.inl (nI g)), some (.inl (nI c)), some (.inr (.inl (u (se S (sgl S g)) c))), none], [.inr (.inl ((slo S (sgl S g)).toInt64 + u (se S (sgl S g)) c)), .inl (nI c), .inl (nI (sf S (sgl S g))), .inr (.inr (6, 0, 0))], (I, tk_so J 6 0 (tk_u1 N 25 r), R)) _
          refine dn_call rfl rfl rfl rfl rfl (sm_lessWait (by omega) (by omega) ?_)
          rw [tk_so_so, tk_so_same, tk_u1_u1, tk_u1_same]
          show tkDn tm_169 (157, [some (.inr (.inr (6, 0, 0))), some (.inl (nI g)), some (.inl (nI c)), some (.inr (.inl (u (se S (sgl S g)) c))), none], [], (I, tk_so J 6 0 (tk_u1 N 25 (low1 r (6 * sf S (sgl S g) + c) ((slo S (sgl S g)).toInt64 + u (se S (sgl S g)) c))), R)) _
          refine dn_run 2 (show tkDn tm_169 (98, [some (.inr (.inr (6, 0, 0))), some (.inl (nI g)), some (.inl ((nI c) + 1)), some (.inr (.inl (u (se S (sgl S g)) c))), none], [], (I, tk_so J 6 0 (tk_u1 N 25 (low1 r (6 * sf S (sgl S g) + c) ((slo S (sgl S g)).toInt64 + u (se S (sgl S g)) c))), R)) _ from ?_)
          rw [nI_1]
          refine ih (c + 1) _ _ (by omega) ?_
          rw [show cgI S u g (cgO S u v (sG S) g) (c + 1) = lowM (cgI S u g (cgO S u v (sG S) g) c) (sf S (sgl S g)) c ((slo S (sgl S g)).toInt64 + u (se S (sgl S g)) c) from (if_pos ⟨fun z => c1 (by rw [z]), c2⟩).trans up_low]
          exact hr.low (by omega) (by omega)
set_option maxRecDepth 8000 in
theorem sm_cd2_out {I : tkI} {J : tkJ} {R : Nat → Nat} {Q : tkQ} {S : tkS} (hP : NetP (I 6 0) S) (w : WF S) {u v : tkD} {N : Nat → Nat → Int64} (hu : WRow (N 29) u) (hK : ∀ r oc o3, WRow r (cgO S u v (sG S) (sG S)) → tkDn tm_169 (169, [some (.inr (.inr (6, 0, 0))), some (.inl (nI (sG S))), oc, o3, none], [], (I, tk_so J 6 0 (tk_u1 N 25 r), R)) Q) : ∀ m g r oc o3, g + m = sG S → WRow r (cgO S u v (sG S) g) → tkDn tm_169 (88, [some (.inr (.inr (6, 0, 0))), some (.inl (nI g)), oc, o3, none], [], (I, tk_so J 6 0 (tk_u1 N 25 r), R)) Q := by
  have hM16 := w.1
  have hL60 := w.2.1
  have hG6 := w.2.2.1
  have hM := hP.m
  have hG := hP.g
  intro m
  induction m with
  | zero =>
    intro g r oc o3 hg hr
    have hg : g = sG S := by omega
    subst hg
    show tkDn tm_169 (88, [some (.inr (.inr (6, 0, 0))), some (.inl (nI (sG S))), oc, o3, none], [], (I, tk_so J 6 0 (tk_u1 N 25 r), R)) _
    refine dn_run 3 (show tkDn tm_169 (93, [some (.inr (.inr (6, 0, 0))), some (.inl (nI (sG S))), oc, o3, none], [.inl (I 6 0 0 2), .inl (nI (sG S))], (I, tk_so J 6 0 (tk_u1 N 25 r), R)) _ from ?_)
    rw [hG]
    refine dn_if rfl rfl rfl (fun (qq : (nI (sG S)) ≤ (nI (sG S))) => ?_) (fun (qq : ¬ (nI (sG S)) ≤ (nI (sG S))) => ?_)
    · exact hK r _ _ hr
    · exact absurd (nI_le (by omega) (by omega)) qq
  | succ m ih =>
    intro g r oc o3 hg hr
    show tkDn tm_169 (88, [some (.inr (.inr (6, 0, 0))), some (.inl (nI g)), oc, o3, none], [], (I, tk_so J 6 0 (tk_u1 N 25 r), R)) _
    refine dn_run 3 (show tkDn tm_169 (93, [some (.inr (.inr (6, 0, 0))), some (.inl (nI g)), oc, o3, none], [.inl (I 6 0 0 2), .inl (nI g)], (I, tk_so J 6 0 (tk_u1 N 25 r), R)) _ from ?_)
    rw [hG]
    refine dn_if rfl rfl rfl (fun (qq : (nI (sG S)) ≤ (nI g)) => ?_) (fun (qq : ¬ (nI (sG S)) ≤ (nI g)) => ?_)
    · exact absurd qq (nI_ge (by omega) (by omega))
    · show tkDn tm_169 (96, [some (.inr (.inr (6, 0, 0))), some (.inl (nI g)), oc, o3, none], [], (I, tk_so J 6 0 (tk_u1 N 25 r), R)) _
      refine dn_run 2 (show tkDn tm_169 (98, [some (.inr (.inr (6, 0, 0))), some (.inl (nI g)), some (.inl 0), o3, none], [], (I, tk_so J 6 0 (tk_u1 N 25 r), R)) _ from ?_)
      refine sm_cd2_in hP w hu (by omega) (fun r2 o3x hr2 => ?_) (sG S) 0 r _ (Nat.zero_add _) hr
      show tkDn tm_169 (163, [some (.inr (.inr (6, 0, 0))), some (.inl (nI g)), some (.inl (nI (sG S))), o3x, none], [], (I, tk_so J 6 0 (tk_u1 N 25 r2), R)) _
      refine dn_run 2 (show tkDn tm_169 (88, [some (.inr (.inr (6, 0, 0))), some (.inl ((nI g) + 1)), some (.inl (nI (sG S))), o3x, none], [], (I, tk_so J 6 0 (tk_u1 N 25 r2), R)) _ from ?_)
      rw [nI_1]
      exact ih (g + 1) r2 _ _ (by omega) hr2
set_option maxRecDepth 8000 in
theorem sm_comeDown {I : tkI} {J : tkJ} {R : Nat → Nat} {Q : tkQ} {S : tkS} (hP : NetP (I 6 0) S) (w : WF S) {e v : tkD} {N : Nat → Nat → Int64} (he : RowP 16 (N 24) e) (hv : WRow (N 25) v) (hQ : ∀ N2, RowP 16 (N2 24) (ceO S e e (sM S) (sG S)) → WRow (N2 25) (cgO S v v (sG S) (sG S)) → (∀ s, s ≠ 24 → s ≠ 25 → s ≠ 28 → s ≠ 29 → N2 s = N s) → Q none (I, tk_so J 6 0 N2, R)) : tkDn tm_169 (0, [some (.inr (.inr (6, 0, 0))), none, none, none, none], [], (I, tk_so J 6 0 N, R)) Q := by
  refine dn_run 1 (show tkDn tm_169 (1, [some (.inr (.inr (6, 0, 0))), none, none, none, none], [.inr (.inr (6, 0, 0))], (I, tk_so J 6 0 N, R)) _ from ?_)
  refine dn_call rfl rfl rfl rfl rfl (sm_see (fun N1 h28 h29 h1 => ?_))
  show tkDn tm_169 (4, [some (.inr (.inr (6, 0, 0))), none, none, none, none], [], (I, tk_so J 6 0 N1, R)) _
  refine dn_run 2 (show tkDn tm_169 (6, [some (.inr (.inr (6, 0, 0))), some (.inl 0), none, none, none], [], (I, tk_so J 6 0 N1, R)) _ from ?_)
  have key := sm_cd1_out (J := J) (N := N1) (R := R) (Q := Q) (e := e) (q := e) hP w (he.cp h28) (fun r oc o3 hr => ?_) (sG S) 0 (N1 24) none none (Nat.zero_add _) (by rw [h1 24 (by decide) (by decide)]; exact he)
  · rw [tk_u1_id] at key; exact key
  · show tkDn tm_169 (82, [some (.inr (.inr (6, 0, 0))), some (.inl (nI (sG S))), oc, o3, none], [], (I, tk_so J 6 0 (tk_u1 N1 24 r), R)) _
    obtain ⟨N2, hN2⟩ : ∃ N2, N2 = tk_u1 N1 24 r := ⟨_, rfl⟩
    rw [← hN2]
    show tkDn tm_169 (82, [some (.inr (.inr (6, 0, 0))), some (.inl (nI (sG S))), oc, o3, none], [], (I, tk_so J 6 0 N2, R)) _
    have hv2 : WRow (N2 25) v := by rw [hN2, tk_u1_ne (by decide), h1 25 (by decide) (by decide)]; exact hv
    refine dn_run 1 (show tkDn tm_169 (83, [some (.inr (.inr (6, 0, 0))), some (.inl (nI (sG S))), oc, o3, none], [.inr (.inr (6, 0, 0))], (I, tk_so J 6 0 N2, R)) _ from ?_)
    refine dn_call rfl rfl rfl rfl rfl (sm_see (fun N3 k28 k29 k1 => ?_))
    show tkDn tm_169 (86, [some (.inr (.inr (6, 0, 0))), some (.inl (nI (sG S))), oc, o3, none], [], (I, tk_so J 6 0 N3, R)) _
    refine dn_run 2 (show tkDn tm_169 (88, [some (.inr (.inr (6, 0, 0))), some (.inl 0), oc, o3, none], [], (I, tk_so J 6 0 N3, R)) _ from ?_)
    have key2 := sm_cd2_out (J := J) (N := N3) (R := R) (Q := Q) (u := v) (v := v) hP w (hv2.cp k29) (fun r2 oc2 o32 hr2 => ?_) (sG S) 0 (N3 25) oc o3 (Nat.zero_add _) (by rw [k1 25 (by decide) (by decide)]; exact hv2)
    · rw [tk_u1_id] at key2; exact key2
    · refine dn_ret0 rfl rfl rfl rfl ?_
      refine hQ _ ?_ (by rw [tk_u1_same]; exact hr2) (fun s a1 a2 a3 a4 => by rw [tk_u1_ne a2, k1 s a3 a4, hN2, tk_u1_ne a1, h1 s a3 a4])
      rw [tk_u1_ne (by decide), k1 24 (by decide) (by decide), hN2, tk_u1_same]; exact hr
