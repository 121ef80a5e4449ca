/-! the reference: clearWays and layLinks once more, over all places of the row -/
def cwX (q : Nat → Int64) (n a b : Nat) (r : Nat → Int64) : Prop := cwP n a b r ∧ ∀ i j, j < 16 → ¬ (i < n ∧ j < n) → r (16 * i + j) = q (16 * i + j)
set_option maxRecDepth 8000 in
theorem cwX_s {q : Nat → Int64} {n a b : Nat} {r : Nat → Int64} (hn : n ≤ 16) (ha : a < n) (hb : b < n) (h : cwX q n a b r) {x : Int64} (hx : x = d0M a b) : cwX q n a (b + 1) (tk_u1 r (16 * a + b) x) := by
  refine ⟨cwP_s hn hb h.1 hx, fun i j hj hij => ?_⟩
  rw [tk_u1_ne (by omega)]
  exact h.2 i j hj hij
set_option maxRecDepth 8000 in
theorem sm_clearWaysX_in {I : tkI} {J : tkJ} {R : Nat → Nat} {Q : tkQ} {q : Nat → Int64} {n a : Nat} (hn : n ≤ 16) (ha : a < n) (hK : ∀ r, cwX q n a n r → tkDn tm_148 (43, [some (.inr (.inr (6, 0, 0))), some (.inl (nI n)), some (.inl (nI a)), some (.inl (nI n))], [], (I, tk_so J 6 0 (tk_u1 (J 6 0) 21 r), R)) Q) : ∀ m c r, c + m = n → cwX q n a c r → tkDn tm_148 (9, [some (.inr (.inr (6, 0, 0))), some (.inl (nI n)), some (.inl (nI a)), some (.inl (nI c))], [], (I, tk_so J 6 0 (tk_u1 (J 6 0) 21 r), R)) Q := by
  intro m
  induction m with
  | zero =>
    intro c r hc hr
    have hc : c = n := by omega
    subst hc
    show tkDn tm_148 (9, [some (.inr (.inr (6, 0, 0))), some (.inl (nI c)), some (.inl (nI a)), some (.inl (nI c))], [], (I, tk_so J 6 0 (tk_u1 (J 6 0) 21 r), R)) _
    refine dn_run 2 (show tkDn tm_148 (11, [some (.inr (.inr (6, 0, 0))), some (.inl (nI c)), some (.inl (nI a)), some (.inl (nI c))], [.inl (nI c), .inl (nI c)], (I, tk_so J 6 0 (tk_u1 (J 6 0) 21 r), R)) _ from ?_)
    refine dn_if rfl rfl rfl (fun (c0 : (nI c) ≤ (nI c)) => ?_) (fun (c0 : ¬ (nI c) ≤ (nI c)) => ?_)
    · show tkDn tm_148 (43, [some (.inr (.inr (6, 0, 0))), some (.inl (nI c)), some (.inl (nI a)), some (.inl (nI c))], [], (I, tk_so J 6 0 (tk_u1 (J 6 0) 21 r), R)) _
      exact hK r hr
    · exact absurd (nI_le (by omega) (by omega)) c0
  | succ m ih =>
    intro c r hc hr
    show tkDn tm_148 (9, [some (.inr (.inr (6, 0, 0))), some (.inl (nI n)), some (.inl (nI a)), some (.inl (nI c))], [], (I, tk_so J 6 0 (tk_u1 (J 6 0) 21 r), R)) _
    refine dn_run 2 (show tkDn tm_148 (11, [some (.inr (.inr (6, 0, 0))), some (.inl (nI n)), some (.inl (nI a)), some (.inl (nI c))], [.inl (nI n), .inl (nI c)], (I, tk_so J 6 0 (tk_u1 (J 6 0) 21 r), R)) _ from ?_)
    refine dn_if rfl rfl rfl (fun (c0 : (nI n) ≤ (nI c)) => ?_) (fun (c0 : ¬ (nI n) ≤ (nI c)) => ?_)
    · exact absurd c0 (nI_ge (by omega) (by omega))
    · show tkDn tm_148 (14, [some (.inr (.inr (6, 0, 0))), some (.inl (nI n)), some (.inl (nI a)), some (.inl (nI c))], [], (I, tk_so J 6 0 (tk_u1 (J 6 0) 21 r), R)) _
      refine dn_run 9 (show tkDn tm_148 (26, [some (.inr (.inr (6, 0, 0))), some (.inl (nI n)), some (.inl (nI a)), some (.inl (nI c))], [.inl (nI c), .inl (nI a), .inl ((16 * (nI a)) + (nI c)), .inr (.inr (6, 0, 21))], (I, tk_so J 6 0 (tk_u1 (J 6 0) 21 r), R)) _ from ?_)
      refine dn_if rfl rfl rfl (fun (q2 : ¬ (nI a) = (nI c)) => ?_) (fun (q2 : (nI a) = (nI c)) => ?_)
      · show tkDn tm_148 (33, [some (.inr (.inr (6, 0, 0))), some (.inl (nI n)), some (.inl (nI a)), some (.inl (nI c))], [.inl ((16 * (nI a)) + (nI c)), .inr (.inr (6, 0, 21))], (I, tk_so J 6 0 (tk_u1 (J 6 0) 21 r), R)) _
        refine dn_run 4 (show (vp_in ((16 * (nI a)) + (nI c)) 256) ∧ tkDn tm_148 (9, [some (.inr (.inr (6, 0, 0))), some (.inl (nI n)), some (.inl (nI a)), some (.inl ((nI c) + 1))], [], (I, tk_so (tk_so J 6 0 (tk_u1 (J 6 0) 21 r)) 6 0 (tk_u2 (tk_u1 (J 6 0) 21 r) 21 (((16 * (nI a)) + (nI c)).toNatClampNeg) 4611686018427387904), R)) _ from ⟨by rw [ix16']; exact vp_in_nI (by omega) (by omega), ?_⟩)
        rw [tk_so_so]
        rw [tk_u2_u1, ix16', nI_clamp (show 16 * a + c < 2 ^ 31 by omega), nI_1]
        exact ih (c + 1) _ (by omega) (cwX_s hn ha (by omega) hr (by unfold d0M; rw [if_neg (fun z => q2 (by rw [z]))]))
      · show tkDn tm_148 (29, [some (.inr (.inr (6, 0, 0))), some (.inl (nI n)), some (.inl (nI a)), some (.inl (nI c))], [.inl ((16 * (nI a)) + (nI c)), .inr (.inr (6, 0, 21))], (I, tk_so J 6 0 (tk_u1 (J 6 0) 21 r), R)) _
        refine dn_run 5 (show (vp_in ((16 * (nI a)) + (nI c)) 256) ∧ tkDn tm_148 (9, [some (.inr (.inr (6, 0, 0))), some (.inl (nI n)), some (.inl (nI a)), some (.inl ((nI c) + 1))], [], (I, tk_so (tk_so J 6 0 (tk_u1 (J 6 0) 21 r)) 6 0 (tk_u2 (tk_u1 (J 6 0) 21 r) 21 (((16 * (nI a)) + (nI c)).toNatClampNeg) 0), R)) _ from ⟨by rw [ix16']; exact vp_in_nI (by omega) (by omega), ?_⟩)
        rw [tk_so_so]
        rw [tk_u2_u1, ix16', nI_clamp (show 16 * a + c < 2 ^ 31 by omega), nI_1]
        exact ih (c + 1) _ (by omega) (cwX_s hn ha (by omega) hr (by unfold d0M; rw [if_pos ((nI_eq (by omega) (by omega)).mp q2)]))
set_option maxRecDepth 8000 in
theorem sm_clearWaysX_out {I : tkI} {J : tkJ} {R : Nat → Nat} {Q : tkQ} {q : Nat → Int64} {n : Nat} (hq : ∀ j, j < 256 → q j = 4611686018427387904) (hn : n ≤ 16) (hQ : ∀ r, RowP 16 r (exM n d0M) → Q none (I, tk_so J 6 0 (tk_u1 (J 6 0) 21 r), R)) : ∀ m a r o, a + m = n → cwX q n a 0 r → tkDn tm_148 (2, [some (.inr (.inr (6, 0, 0))), some (.inl (nI n)), some (.inl (nI a)), o], [], (I, tk_so J 6 0 (tk_u1 (J 6 0) 21 r), R)) Q := by
  intro m
  induction m with
  | zero =>
    intro a r o ha hr
    show tkDn tm_148 (2, [some (.inr (.inr (6, 0, 0))), some (.inl (nI n)), some (.inl (nI a)), o], [], (I, tk_so J 6 0 (tk_u1 (J 6 0) 21 r), R)) _
    refine dn_run 2 (show tkDn tm_148 (4, [some (.inr (.inr (6, 0, 0))), some (.inl (nI n)), some (.inl (nI a)), o], [.inl (nI n), .inl (nI a)], (I, tk_so J 6 0 (tk_u1 (J 6 0) 21 r), R)) _ from ?_)
    refine dn_if rfl rfl rfl (fun (c0 : (nI n) ≤ (nI a)) => ?_) (fun (c0 : ¬ (nI n) ≤ (nI a)) => ?_)
    · show tkDn tm_148 (49, [some (.inr (.inr (6, 0, 0))), some (.inl (nI n)), some (.inl (nI a)), o], [], (I, tk_so J 6 0 (tk_u1 (J 6 0) 21 r), R)) _
      refine dn_ret0 rfl rfl rfl rfl ?_
      exact hQ r (fun i j hi hj => by unfold exM exT; by_cases z : i < n ∧ j < n; rw [if_pos z]; exact hr.1 i j z.2 (Or.inl (by omega)); rw [if_neg z, hr.2 i j hj z, hq _ (by omega)])
    · exact absurd (nI_le (by omega) (by omega)) c0
  | succ m ih =>
    intro a r o ha hr
    show tkDn tm_148 (2, [some (.inr (.inr (6, 0, 0))), some (.inl (nI n)), some (.inl (nI a)), o], [], (I, tk_so J 6 0 (tk_u1 (J 6 0) 21 r), R)) _
    refine dn_run 2 (show tkDn tm_148 (4, [some (.inr (.inr (6, 0, 0))), some (.inl (nI n)), some (.inl (nI a)), o], [.inl (nI n), .inl (nI a)], (I, tk_so J 6 0 (tk_u1 (J 6 0) 21 r), R)) _ from ?_)
    refine dn_if rfl rfl rfl (fun (c0 : (nI n) ≤ (nI a)) => ?_) (fun (c0 : ¬ (nI n) ≤ (nI a)) => ?_)
    · exact absurd c0 (nI_ge (by omega) (by omega))
    · show tkDn tm_148 (7, [some (.inr (.inr (6, 0, 0))), some (.inl (nI n)), some (.inl (nI a)), o], [], (I, tk_so J 6 0 (tk_u1 (J 6 0) 21 r), R)) _
      refine dn_run 2 (show tkDn tm_148 (9, [some (.inr (.inr (6, 0, 0))), some (.inl (nI n)), some (.inl (nI a)), some (.inl 0)], [], (I, tk_so J 6 0 (tk_u1 (J 6 0) 21 r), R)) _ from ?_)
      refine sm_clearWaysX_in hn (by omega) (fun r2 hr2 => ?_) n 0 r (Nat.zero_add _) hr
      show tkDn tm_148 (43, [some (.inr (.inr (6, 0, 0))), some (.inl (nI n)), some (.inl (nI a)), some (.inl (nI n))], [], (I, tk_so J 6 0 (tk_u1 (J 6 0) 21 r2), R)) _
      refine dn_run 2 (show tkDn tm_148 (2, [some (.inr (.inr (6, 0, 0))), some (.inl (nI n)), some (.inl ((nI a) + 1)), some (.inl (nI n))], [], (I, tk_so J 6 0 (tk_u1 (J 6 0) 21 r2), R)) _ from ?_)
      rw [nI_1]
      exact ih (a + 1) r2 _ (by omega) ⟨fun i j hj hij => hr2.1 i j hj (by omega), hr2.2⟩
set_option maxRecDepth 8000 in
theorem sm_clearWaysX {I : tkI} {J : tkJ} {R : Nat → Nat} {Q : tkQ} {q : Nat → Int64} {n : Nat} (hq : ∀ j, j < 256 → q j = 4611686018427387904) (hqe : J 6 0 21 = q) (hn : n ≤ 16) (hQ : ∀ r, RowP 16 r (exM n d0M) → Q none (I, tk_so J 6 0 (tk_u1 (J 6 0) 21 r), R)) : tkDn tm_148 (0, [some (.inr (.inr (6, 0, 0))), some (.inl (nI n)), none, none], [], (I, J, R)) Q := by
  refine dn_run 2 (show tkDn tm_148 (2, [some (.inr (.inr (6, 0, 0))), some (.inl (nI n)), some (.inl 0), none], [], (I, J, R)) _ from ?_)
  have := sm_clearWaysX_out (J := J) hq hn hQ n 0 (J 6 0 21) none (Nat.zero_add _) ⟨fun i j _ h => absurd h (by omega), fun i j _ _ => by rw [hqe]⟩
  rw [jr_id] at this
  exact this
set_option maxRecDepth 8000 in
theorem sm_layLinksX_loop {I : tkI} {J : tkJ} {R : Nat → Nat} {Q : tkQ} {S : tkS} (hP : NetP (I 6 0) S) (w : WF S) {k : Int32} (hQ : ∀ r, RowP 16 r (exM (sM S) (mlM S k (sL S))) → Q none (I, tk_so J 6 0 (tk_u1 (J 6 0) 21 r), R)) : ∀ n l r o3 o4 o5, l + n = sL S → RowP 16 r (exM (sM S) (mlM S k l)) → tkDn tm_151 (10, [some (.inr (.inr (6, 0, 0))), some (.inl k), some (.inl (nI l)), o3, o4, o5], [], (I, tk_so J 6 0 (tk_u1 (J 6 0) 21 r), R)) Q := by
  have hM16 := w.1
  have hL60 := w.2.1
  have hG6 := w.2.2.1
  have hM := hP.m
  have hL := hP.l
  have hG := hP.g
  intro n
  induction n with
  | zero =>
    intro l r o3 o4 o5 hl hr
    show tkDn tm_151 (10, [some (.inr (.inr (6, 0, 0))), some (.inl k), some (.inl (nI l)), o3, o4, o5], [], (I, tk_so J 6 0 (tk_u1 (J 6 0) 21 r), R)) _
    refine dn_run 3 (show tkDn tm_151 (15, [some (.inr (.inr (6, 0, 0))), some (.inl k), some (.inl (nI l)), o3, o4, o5], [.inl (I 6 0 0 1), .inl (nI l)], (I, tk_so J 6 0 (tk_u1 (J 6 0) 21 r), R)) _ from ?_)
    rw [hL]
    refine dn_if rfl rfl rfl (fun (c : (nI (sL S)) ≤ (nI l)) => ?_) (fun (c : ¬ (nI (sL S)) ≤ (nI l)) => ?_)
    · show tkDn tm_151 (150, [some (.inr (.inr (6, 0, 0))), some (.inl k), some (.inl (nI l)), o3, o4, o5], [], (I, tk_so J 6 0 (tk_u1 (J 6 0) 21 r), R)) _
      refine dn_ret0 rfl rfl rfl rfl ?_
      rw [show l = sL S by omega] at hr
      exact hQ r hr
    · exact absurd (nI_le (by omega) (by omega)) c
  | succ n ih =>
    intro l r o3 o4 o5 hl hr
    have hf := w.fM (j := l) (by omega)
    have he := w.eM (j := l) (by omega)
    have e4 := hP.fr w (j := l) (by omega)
    have e5 := hP.en w (j := l) (by omega)
    have e6 := hP.lo w (j := l) (by omega)
    have e7 := hP.hi w (j := l) (by omega)
    have e8 := hP.gn w (j := l) (by omega)
    show tkDn tm_151 (10, [some (.inr (.inr (6, 0, 0))), some (.inl k), some (.inl (nI l)), o3, o4, o5], [], (I, tk_so J 6 0 (tk_u1 (J 6 0) 21 r), R)) _
    refine dn_run 3 (show tkDn tm_151 (15, [some (.inr (.inr (6, 0, 0))), some (.inl k), some (.inl (nI l)), o3, o4, o5], [.inl (I 6 0 0 1), .inl (nI l)], (I, tk_so J 6 0 (tk_u1 (J 6 0) 21 r), R)) _ from ?_)
    rw [hL]
    refine dn_if rfl rfl rfl (fun (c : (nI (sL S)) ≤ (nI l)) => ?_) (fun (c : ¬ (nI (sL S)) ≤ (nI l)) => ?_)
    · exact absurd c (nI_ge (by omega) (by omega))
    · show tkDn tm_151 (18, [some (.inr (.inr (6, 0, 0))), some (.inl k), some (.inl (nI l)), o3, o4, o5], [], (I, tk_so J 6 0 (tk_u1 (J 6 0) 21 r), R)) _
      refine dn_run 6 (show (vp_in (nI l) 60) ∧ tkDn tm_151 (26, [some (.inr (.inr (6, 0, 0))), some (.inl k), some (.inl (nI l)), some (.inl (I 6 0 8 ((nI l).toNatClampNeg))), o4, o5], [.inl k], (I, tk_so J 6 0 (tk_u1 (J 6 0) 21 r), R)) _ from ⟨vp_in_nI (by omega) (by omega), ?_⟩)
      rw [e8]
      show tkDn tm_151 (26, [some (.inr (.inr (6, 0, 0))), some (.inl k), some (.inl (nI l)), some (.inl (sgn S l)), o4, o5], [.inl k], (I, tk_so J 6 0 (tk_u1 (J 6 0) 21 r), R)) _
      refine dn_if rfl rfl rfl (fun (c1 : k < 0) => ?_) (fun (c1 : ¬ k < 0) => ?_)
      · show tkDn tm_151 (37, [some (.inr (.inr (6, 0, 0))), some (.inl k), some (.inl (nI l)), some (.inl (sgn S l)), o4, o5], [], (I, tk_so J 6 0 (tk_u1 (J 6 0) 21 r), R)) _
        refine dn_run 3 (show tkDn tm_151 (42, [some (.inr (.inr (6, 0, 0))), some (.inl k), some (.inl (nI l)), some (.inl (sgn S l)), some (.inl 0), o5], [.inl 0], (I, tk_so J 6 0 (tk_u1 (J 6 0) 21 r), R)) _ from ?_)
        refine dn_if rfl rfl rfl (fun (c3 : ((0 : Int32) = 0 : Prop)) => ?_) (fun (c3 : (¬ (0 : Int32) = 0 : Prop)) => ?_)
        · show tkDn tm_151 (58, [some (.inr (.inr (6, 0, 0))), some (.inl k), some (.inl (nI l)), some (.inl (sgn S l)), some (.inl 0), o5], [], (I, tk_so J 6 0 (tk_u1 (J 6 0) 21 r), R)) _
          refine dn_run 2 (show tkDn tm_151 (61, [some (.inr (.inr (6, 0, 0))), some (.inl k), some (.inl (nI l)), some (.inl (sgn S l)), some (.inl 0), some (.inl 0)], [], (I, tk_so J 6 0 (tk_u1 (J 6 0) 21 r), R)) _ from ?_)
          have hA : mlA S k l = shi S l := if_neg (fun q => absurd c1 (Int32.not_lt.mpr q.1.1))
          have hB : mlB S k l = -slo S l := if_neg (fun q => absurd c1 (Int32.not_lt.mpr q.1.1))
          refine dn_run 10 (show (vp_in (nI l) 60) ∧ (vp_in (nI l) 60) ∧ tkDn tm_151 (76, [some (.inr (.inr (6, 0, 0))), some (.inl k), some (.inl (nI l)), some (.inl (sgn S l)), some (.inl 0), some (.inl 0)], [.inl 0, .inl (I 6 0 5 ((nI l).toNatClampNeg)), .inl (I 6 0 4 ((nI l).toNatClampNeg)), .inr (.inr (6, 0, 0))], (I, tk_so J 6 0 (tk_u1 (J 6 0) 21 r), R)) _ from ⟨vp_in_nI (by omega) (by omega), vp_in_nI (by omega) (by omega), ?_⟩)
          rw [e4, e5]
          show tkDn tm_151 (76, [some (.inr (.inr (6, 0, 0))), some (.inl k), some (.inl (nI l)), some (.inl (sgn S l)), some (.inl 0), some (.inl 0)], [.inl 0, .inl (nI (se S l)), .inl (nI (sf S l)), .inr (.inr (6, 0, 0))], (I, tk_so J 6 0 (tk_u1 (J 6 0) 21 r), R)) _
          refine dn_if rfl rfl rfl (fun (cd : ((0 : Int32) = 0 : Prop)) => ?_) (fun (cd : (¬ (0 : Int32) = 0 : Prop)) => ?_)
          · show tkDn tm_151 (94, [some (.inr (.inr (6, 0, 0))), some (.inl k), some (.inl (nI l)), some (.inl (sgn S l)), some (.inl 0), some (.inl 0)], [.inl (nI (se S l)), .inl (nI (sf S l)), .inr (.inr (6, 0, 0))], (I, tk_so J 6 0 (tk_u1 (J 6 0) 21 r), R)) _
            refine dn_run 5 (show (vp_in (nI l) 60) ∧ tkDn tm_151 (101, [some (.inr (.inr (6, 0, 0))), some (.inl k), some (.inl (nI l)), some (.inl (sgn S l)), some (.inl 0), some (.inl 0)], [.inr (.inl (((I 6 0 7 ((nI l).toNatClampNeg)) : Int32).toInt64)), .inl (nI (se S l)), .inl (nI (sf S l)), .inr (.inr (6, 0, 0))], (I, tk_so J 6 0 (tk_u1 (J 6 0) 21 r), R)) _ from ⟨vp_in_nI (by omega) (by omega), ?_⟩)
            rw [e7]
            show tkDn tm_151 (101, [some (.inr (.inr (6, 0, 0))), some (.inl k), some (.inl (nI l)), some (.inl (sgn S l)), some (.inl 0), some (.inl 0)], [.inr (.inl ((shi S l).toInt64)), .inl (nI (se S l)), .inl (nI (sf S l)), .inr (.inr (6, 0, 0))], (I, tk_so J 6 0 (tk_u1 (J 6 0) 21 r), R)) _
            refine dn_call rfl rfl rfl rfl rfl (sm_step (by omega) (by omega) ?_)
            rw [tk_so_so, tk_so_same, tk_u1_u1, tk_u1_same, ← hA]
            show tkDn tm_151 (104, [some (.inr (.inr (6, 0, 0))), some (.inl k), some (.inl (nI l)), some (.inl (sgn S l)), some (.inl 0), some (.inl 0)], [], (I, tk_so J 6 0 (tk_u1 (J 6 0) 21 (low1 r (16 * sf S l + se S l) (mlA S k l).toInt64)), R)) _
            refine dn_run 10 (show (vp_in (nI l) 60) ∧ (vp_in (nI l) 60) ∧ tkDn tm_151 (119, [some (.inr (.inr (6, 0, 0))), some (.inl k), some (.inl (nI l)), some (.inl (sgn S l)), some (.inl 0), some (.inl 0)], [.inl 0, .inl (I 6 0 4 ((nI l).toNatClampNeg)), .inl (I 6 0 5 ((nI l).toNatClampNeg)), .inr (.inr (6, 0, 0))], (I, tk_so J 6 0 (tk_u1 (J 6 0) 21 (low1 r (16 * sf S l + se S l) (mlA S k l).toInt64)), R)) _ from ⟨vp_in_nI (by omega) (by omega), vp_in_nI (by omega) (by omega), ?_⟩)
            rw [e5, e4]
            show tkDn tm_151 (119, [some (.inr (.inr (6, 0, 0))), some (.inl k), some (.inl (nI l)), some (.inl (sgn S l)), some (.inl 0), some (.inl 0)], [.inl 0, .inl (nI (sf S l)), .inl (nI (se S l)), .inr (.inr (6, 0, 0))], (I, tk_so J 6 0 (tk_u1 (J 6 0) 21 (low1 r (16 * sf S l + se S l) (mlA S k l).toInt64)), R)) _
            refine dn_if rfl rfl rfl (fun (cc : ((0 : Int32) = 0 : Prop)) => ?_) (fun (cc : (¬ (0 : Int32) = 0 : Prop)) => ?_)
            · show tkDn tm_151 (133, [some (.inr (.inr (6, 0, 0))), some (.inl k), some (.inl (nI l)), some (.inl (sgn S l)), some (.inl 0), some (.inl 0)], [.inl (nI (sf S l)), .inl (nI (se S l)), .inr (.inr (6, 0, 0))], (I, tk_so J 6 0 (tk_u1 (J 6 0) 21 (low1 r (16 * sf S l + se S l) (mlA S k l).toInt64)), R)) _
              refine dn_run 6 (show (vp_in (nI l) 60) ∧ tkDn tm_151 (141, [some (.inr (.inr (6, 0, 0))), some (.inl k), some (.inl (nI l)), some (.inl (sgn S l)), some (.inl 0), some (.inl 0)], [.inr (.inl (((-(I 6 0 6 ((nI l).toNatClampNeg))) : Int32).toInt64)), .inl (nI (sf S l)), .inl (nI (se S l)), .inr (.inr (6, 0, 0))], (I, tk_so J 6 0 (tk_u1 (J 6 0) 21 (low1 r (16 * sf S l + se S l) (mlA S k l).toInt64)), R)) _ from ⟨vp_in_nI (by omega) (by omega), ?_⟩)
              rw [e6]
              show tkDn tm_151 (141, [some (.inr (.inr (6, 0, 0))), some (.inl k), some (.inl (nI l)), some (.inl (sgn S l)), some (.inl 0), some (.inl 0)], [.inr (.inl ((-slo S l).toInt64)), .inl (nI (sf S l)), .inl (nI (se S l)), .inr (.inr (6, 0, 0))], (I, tk_so J 6 0 (tk_u1 (J 6 0) 21 (low1 r (16 * sf S l + se S l) (mlA S k l).toInt64)), R)) _
              refine dn_call rfl rfl rfl rfl rfl (sm_step (by omega) (by omega) ?_)
              rw [tk_so_so, tk_so_same, tk_u1_u1, tk_u1_same, ← hB]
              show tkDn tm_151 (144, [some (.inr (.inr (6, 0, 0))), some (.inl k), some (.inl (nI l)), some (.inl (sgn S l)), some (.inl 0), some (.inl 0)], [], (I, tk_so J 6 0 (tk_u1 (J 6 0) 21 (low1 (low1 r (16 * sf S l + se S l) (mlA S k l).toInt64) (16 * se S l + sf S l) (mlB S k l).toInt64)), R)) _
              refine dn_run 2 (show tkDn tm_151 (10, [some (.inr (.inr (6, 0, 0))), some (.inl k), some (.inl ((nI l) + 1)), some (.inl (sgn S l)), some (.inl 0), some (.inl 0)], [], (I, tk_so J 6 0 (tk_u1 (J 6 0) 21 (low1 (low1 r (16 * sf S l + se S l) (mlA S k l).toInt64) (16 * se S l + sf S l) (mlB S k l).toInt64)), R)) _ from ?_)
              rw [nI_1]
              exact ih (l + 1) _ _ _ _ (by omega) (by have z := (hr.low (Nat.le_refl _) (a := sf S l) (b := se S l) (by omega) (by omega) (x := (mlA S k l).toInt64)).low (Nat.le_refl _) (a := se S l) (b := sf S l) (by omega) (by omega) (x := (mlB S k l).toInt64); rw [exM_low hf he, exM_low he hf] at z; exact z)
            · exact absurd rfl cc
          · exact absurd rfl cd
        · exact absurd rfl c3
      · show tkDn tm_151 (29, [some (.inr (.inr (6, 0, 0))), some (.inl k), some (.inl (nI l)), some (.inl (sgn S l)), o4, o5], [], (I, tk_so J 6 0 (tk_u1 (J 6 0) 21 r), R)) _
        refine dn_run 1 (show tkDn tm_151 (30, [some (.inr (.inr (6, 0, 0))), some (.inl k), some (.inl (nI l)), some (.inl (sgn S l)), o4, o5], [.inl (sgn S l)], (I, tk_so J 6 0 (tk_u1 (J 6 0) 21 r), R)) _ from ?_)
        refine dn_if rfl rfl rfl (fun (c2 : (sgn S l) < 0) => ?_) (fun (c2 : ¬ (sgn S l) < 0) => ?_)
        · show tkDn tm_151 (37, [some (.inr (.inr (6, 0, 0))), some (.inl k), some (.inl (nI l)), some (.inl (sgn S l)), o4, o5], [], (I, tk_so J 6 0 (tk_u1 (J 6 0) 21 r), R)) _
          refine dn_run 3 (show tkDn tm_151 (42, [some (.inr (.inr (6, 0, 0))), some (.inl k), some (.inl (nI l)), some (.inl (sgn S l)), some (.inl 0), o5], [.inl 0], (I, tk_so J 6 0 (tk_u1 (J 6 0) 21 r), R)) _ from ?_)
          refine dn_if rfl rfl rfl (fun (c3 : ((0 : Int32) = 0 : Prop)) => ?_) (fun (c3 : (¬ (0 : Int32) = 0 : Prop)) => ?_)
          · show tkDn tm_151 (58, [some (.inr (.inr (6, 0, 0))), some (.inl k), some (.inl (nI l)), some (.inl (sgn S l)), some (.inl 0), o5], [], (I, tk_so J 6 0 (tk_u1 (J 6 0) 21 r), R)) _
            refine dn_run 2 (show tkDn tm_151 (61, [some (.inr (.inr (6, 0, 0))), some (.inl k), some (.inl (nI l)), some (.inl (sgn S l)), some (.inl 0), some (.inl 0)], [], (I, tk_so J 6 0 (tk_u1 (J 6 0) 21 r), R)) _ from ?_)
            have hA : mlA S k l = shi S l := if_neg (fun q => absurd c2 (Int32.not_lt.mpr q.1.2))
            have hB : mlB S k l = -slo S l := if_neg (fun q => absurd c2 (Int32.not_lt.mpr q.1.2))
            refine dn_run 10 (show (vp_in (nI l) 60) ∧ (vp_in (nI l) 60) ∧ tkDn tm_151 (76, [some (.inr (.inr (6, 0, 0))), some (.inl k), some (.inl (nI l)), some (.inl (sgn S l)), some (.inl 0), some (.inl 0)], [.inl 0, .inl (I 6 0 5 ((nI l).toNatClampNeg)), .inl (I 6 0 4 ((nI l).toNatClampNeg)), .inr (.inr (6, 0, 0))], (I, tk_so J 6 0 (tk_u1 (J 6 0) 21 r), R)) _ from ⟨vp_in_nI (by omega) (by omega), vp_in_nI (by omega) (by omega), ?_⟩)
            rw [e4, e5]
            show tkDn tm_151 (76, [some (.inr (.inr (6, 0, 0))), some (.inl k), some (.inl (nI l)), some (.inl (sgn S l)), some (.inl 0), some (.inl 0)], [.inl 0, .inl (nI (se S l)), .inl (nI (sf S l)), .inr (.inr (6, 0, 0))], (I, tk_so J 6 0 (tk_u1 (J 6 0) 21 r), R)) _
            refine dn_if rfl rfl rfl (fun (cd : ((0 : Int32) = 0 : Prop)) => ?_) (fun (cd : (¬ (0 : Int32) = 0 : Prop)) => ?_)
            · show tkDn tm_151 (94, [some (.inr (.inr (6, 0, 0))), some (.inl k), some (.inl (nI l)), some (.inl (sgn S l)), some (.inl 0), some (.inl 0)], [.inl (nI (se S l)), .inl (nI (sf S l)), .inr (.inr (6, 0, 0))], (I, tk_so J 6 0 (tk_u1 (J 6 0) 21 r), R)) _
              refine dn_run 5 (show (vp_in (nI l) 60) ∧ tkDn tm_151 (101, [some (.inr (.inr (6, 0, 0))), some (.inl k), some (.inl (nI l)), some (.inl (sgn S l)), some (.inl 0), some (.inl 0)], [.inr (.inl (((I 6 0 7 ((nI l).toNatClampNeg)) : Int32).toInt64)), .inl (nI (se S l)), .inl (nI (sf S l)), .inr (.inr (6, 0, 0))], (I, tk_so J 6 0 (tk_u1 (J 6 0) 21 r), R)) _ from ⟨vp_in_nI (by omega) (by omega), ?_⟩)
              rw [e7]
              show tkDn tm_151 (101, [some (.inr (.inr (6, 0, 0))), some (.inl k), some (.inl (nI l)), some (.inl (sgn S l)), some (.inl 0), some (.inl 0)], [.inr (.inl ((shi S l).toInt64)), .inl (nI (se S l)), .inl (nI (sf S l)), .inr (.inr (6, 0, 0))], (I, tk_so J 6 0 (tk_u1 (J 6 0) 21 r), R)) _
              refine dn_call rfl rfl rfl rfl rfl (sm_step (by omega) (by omega) ?_)
              rw [tk_so_so, tk_so_same, tk_u1_u1, tk_u1_same, ← hA]
              show tkDn tm_151 (104, [some (.inr (.inr (6, 0, 0))), some (.inl k), some (.inl (nI l)), some (.inl (sgn S l)), some (.inl 0), some (.inl 0)], [], (I, tk_so J 6 0 (tk_u1 (J 6 0) 21 (low1 r (16 * sf S l + se S l) (mlA S k l).toInt64)), R)) _
              refine dn_run 10 (show (vp_in (nI l) 60) ∧ (vp_in (nI l) 60) ∧ tkDn tm_151 (119, [some (.inr (.inr (6, 0, 0))), some (.inl k), some (.inl (nI l)), some (.inl (sgn S l)), some (.inl 0), some (.inl 0)], [.inl 0, .inl (I 6 0 4 ((nI l).toNatClampNeg)), .inl (I 6 0 5 ((nI l).toNatClampNeg)), .inr (.inr (6, 0, 0))], (I, tk_so J 6 0 (tk_u1 (J 6 0) 21 (low1 r (16 * sf S l + se S l) (mlA S k l).toInt64)), R)) _ from ⟨vp_in_nI (by omega) (by omega), vp_in_nI (by omega) (by omega), ?_⟩)
              rw [e5, e4]
              show tkDn tm_151 (119, [some (.inr (.inr (6, 0, 0))), some (.inl k), some (.inl (nI l)), some (.inl (sgn S l)), some (.inl 0), some (.inl 0)], [.inl 0, .inl (nI (sf S l)), .inl (nI (se S l)), .inr (.inr (6, 0, 0))], (I, tk_so J 6 0 (tk_u1 (J 6 0) 21 (low1 r (16 * sf S l + se S l) (mlA S k l).toInt64)), R)) _
              refine dn_if rfl rfl rfl (fun (cc : ((0 : Int32) = 0 : Prop)) => ?_) (fun (cc : (¬ (0 : Int32) = 0 : Prop)) => ?_)
              · show tkDn tm_151 (133, [some (.inr (.inr (6, 0, 0))), some (.inl k), some (.inl (nI l)), some (.inl (sgn S l)), some (.inl 0), some (.inl 0)], [.inl (nI (sf S l)), .inl (nI (se S l)), .inr (.inr (6, 0, 0))], (I, tk_so J 6 0 (tk_u1 (J 6 0) 21 (low1 r (16 * sf S l + se S l) (mlA S k l).toInt64)), R)) _
                refine dn_run 6 (show (vp_in (nI l) 60) ∧ tkDn tm_151 (141, [some (.inr (.inr (6, 0, 0))), some (.inl k), some (.inl (nI l)), some (.inl (sgn S l)), some (.inl 0), some (.inl 0)], [.inr (.inl (((-(I 6 0 6 ((nI l).toNatClampNeg))) : Int32).toInt64)), .inl (nI (sf S l)), .inl (nI (se S l)), .inr (.inr (6, 0, 0))], (I, tk_so J 6 0 (tk_u1 (J 6 0) 21 (low1 r (16 * sf S l + se S l) (mlA S k l).toInt64)), R)) _ from ⟨vp_in_nI (by omega) (by omega), ?_⟩)
                rw [e6]
                show tkDn tm_151 (141, [some (.inr (.inr (6, 0, 0))), some (.inl k), some (.inl (nI l)), some (.inl (sgn S l)), some (.inl 0), some (.inl 0)], [.inr (.inl ((-slo S l).toInt64)), .inl (nI (sf S l)), .inl (nI (se S l)), .inr (.inr (6, 0, 0))], (I, tk_so J 6 0 (tk_u1 (J 6 0) 21 (low1 r (16 * sf S l + se S l) (mlA S k l).toInt64)), R)) _
                refine dn_call rfl rfl rfl rfl rfl (sm_step (by omega) (by omega) ?_)
                rw [tk_so_so, tk_so_same, tk_u1_u1, tk_u1_same, ← hB]
                show tkDn tm_151 (144, [some (.inr (.inr (6, 0, 0))), some (.inl k), some (.inl (nI l)), some (.inl (sgn S l)), some (.inl 0), some (.inl 0)], [], (I, tk_so J 6 0 (tk_u1 (J 6 0) 21 (low1 (low1 r (16 * sf S l + se S l) (mlA S k l).toInt64) (16 * se S l + sf S l) (mlB S k l).toInt64)), R)) _
                refine dn_run 2 (show tkDn tm_151 (10, [some (.inr (.inr (6, 0, 0))), some (.inl k), some (.inl ((nI l) + 1)), some (.inl (sgn S l)), some (.inl 0), some (.inl 0)], [], (I, tk_so J 6 0 (tk_u1 (J 6 0) 21 (low1 (low1 r (16 * sf S l + se S l) (mlA S k l).toInt64) (16 * se S l + sf S l) (mlB S k l).toInt64)), R)) _ from ?_)
                rw [nI_1]
                exact ih (l + 1) _ _ _ _ (by omega) (by have z := (hr.low (Nat.le_refl _) (a := sf S l) (b := se S l) (by omega) (by omega) (x := (mlA S k l).toInt64)).low (Nat.le_refl _) (a := se S l) (b := sf S l) (by omega) (by omega) (x := (mlB S k l).toInt64); rw [exM_low hf he, exM_low he hf] at z; exact z)
              · exact absurd rfl cc
            · exact absurd rfl cd
          · exact absurd rfl c3
        · show tkDn tm_151 (33, [some (.inr (.inr (6, 0, 0))), some (.inl k), some (.inl (nI l)), some (.inl (sgn S l)), o4, o5], [], (I, tk_so J 6 0 (tk_u1 (J 6 0) 21 r), R)) _
          refine dn_run 4 (show tkDn tm_151 (42, [some (.inr (.inr (6, 0, 0))), some (.inl k), some (.inl (nI l)), some (.inl (sgn S l)), some (.inl 1), o5], [.inl 1], (I, tk_so J 6 0 (tk_u1 (J 6 0) 21 r), R)) _ from ?_)
          refine dn_if rfl rfl rfl (fun (c3 : ((1 : Int32) = 0 : Prop)) => ?_) (fun (c3 : (¬ (1 : Int32) = 0 : Prop)) => ?_)
          · exact absurd c3 (by decide)
          · show tkDn tm_151 (45, [some (.inr (.inr (6, 0, 0))), some (.inl k), some (.inl (nI l)), some (.inl (sgn S l)), some (.inl 1), o5], [], (I, tk_so J 6 0 (tk_u1 (J 6 0) 21 r), R)) _
            refine dn_run 6 (show tkDn tm_151 (51, [some (.inr (.inr (6, 0, 0))), some (.inl k), some (.inl (nI l)), some (.inl (sgn S l)), some (.inl 1), o5], [.inl 1, .inl ((k >>> ((sgn S l) &&& 31)) &&& 1)], (I, tk_so J 6 0 (tk_u1 (J 6 0) 21 r), R)) _ from ?_)
            refine dn_if rfl rfl rfl (fun (c4 : ¬ ((k >>> ((sgn S l) &&& 31)) &&& 1) = 1) => ?_) (fun (c4 : ((k >>> ((sgn S l) &&& 31)) &&& 1) = 1) => ?_)
            · show tkDn tm_151 (58, [some (.inr (.inr (6, 0, 0))), some (.inl k), some (.inl (nI l)), some (.inl (sgn S l)), some (.inl 1), o5], [], (I, tk_so J 6 0 (tk_u1 (J 6 0) 21 r), R)) _
              refine dn_run 2 (show tkDn tm_151 (61, [some (.inr (.inr (6, 0, 0))), some (.inl k), some (.inl (nI l)), some (.inl (sgn S l)), some (.inl 1), some (.inl 0)], [], (I, tk_so J 6 0 (tk_u1 (J 6 0) 21 r), R)) _ from ?_)
              have hA : mlA S k l = slo S l := if_pos ⟨⟨Int32.not_lt.mp c1, Int32.not_lt.mp c2⟩, c4⟩
              have hB : mlB S k l = -slo S l := if_neg (fun q => c4 q.2)
              refine dn_run 10 (show (vp_in (nI l) 60) ∧ (vp_in (nI l) 60) ∧ tkDn tm_151 (76, [some (.inr (.inr (6, 0, 0))), some (.inl k), some (.inl (nI l)), some (.inl (sgn S l)), some (.inl 1), some (.inl 0)], [.inl 1, .inl (I 6 0 5 ((nI l).toNatClampNeg)), .inl (I 6 0 4 ((nI l).toNatClampNeg)), .inr (.inr (6, 0, 0))], (I, tk_so J 6 0 (tk_u1 (J 6 0) 21 r), R)) _ from ⟨vp_in_nI (by omega) (by omega), vp_in_nI (by omega) (by omega), ?_⟩)
              rw [e4, e5]
              show tkDn tm_151 (76, [some (.inr (.inr (6, 0, 0))), some (.inl k), some (.inl (nI l)), some (.inl (sgn S l)), some (.inl 1), some (.inl 0)], [.inl 1, .inl (nI (se S l)), .inl (nI (sf S l)), .inr (.inr (6, 0, 0))], (I, tk_so J 6 0 (tk_u1 (J 6 0) 21 r), R)) _
              refine dn_if rfl rfl rfl (fun (cd : ((1 : Int32) = 0 : Prop)) => ?_) (fun (cd : (¬ (1 : Int32) = 0 : Prop)) => ?_)
              · exact absurd cd (by decide)
              · show tkDn tm_151 (79, [some (.inr (.inr (6, 0, 0))), some (.inl k), some (.inl (nI l)), some (.inl (sgn S l)), some (.inl 1), some (.inl 0)], [.inl (nI (se S l)), .inl (nI (sf S l)), .inr (.inr (6, 0, 0))], (I, tk_so J 6 0 (tk_u1 (J 6 0) 21 r), R)) _
                refine dn_run 1 (show tkDn tm_151 (81, [some (.inr (.inr (6, 0, 0))), some (.inl k), some (.inl (nI l)), some (.inl (sgn S l)), some (.inl 1), some (.inl 0)], [.inl 0, .inl (nI (se S l)), .inl (nI (sf S l)), .inr (.inr (6, 0, 0))], (I, tk_so J 6 0 (tk_u1 (J 6 0) 21 r), R)) _ from ?_)
                refine dn_if rfl rfl rfl (fun (ce : (¬ (0 : Int32) = 0 : Prop)) => ?_) (fun (ce : ((0 : Int32) = 0 : Prop)) => ?_)
                · exact absurd rfl ce
                · show tkDn tm_151 (84, [some (.inr (.inr (6, 0, 0))), some (.inl k), some (.inl (nI l)), some (.inl (sgn S l)), some (.inl 1), some (.inl 0)], [.inl (nI (se S l)), .inl (nI (sf S l)), .inr (.inr (6, 0, 0))], (I, tk_so J 6 0 (tk_u1 (J 6 0) 21 r), R)) _
                  refine dn_run 6 (show (vp_in (nI l) 60) ∧ tkDn tm_151 (101, [some (.inr (.inr (6, 0, 0))), some (.inl k), some (.inl (nI l)), some (.inl (sgn S l)), some (.inl 1), some (.inl 0)], [.inr (.inl (((I 6 0 6 ((nI l).toNatClampNeg)) : Int32).toInt64)), .inl (nI (se S l)), .inl (nI (sf S l)), .inr (.inr (6, 0, 0))], (I, tk_so J 6 0 (tk_u1 (J 6 0) 21 r), R)) _ from ⟨vp_in_nI (by omega) (by omega), ?_⟩)
                  rw [e6]
                  show tkDn tm_151 (101, [some (.inr (.inr (6, 0, 0))), some (.inl k), some (.inl (nI l)), some (.inl (sgn S l)), some (.inl 1), some (.inl 0)], [.inr (.inl ((slo S l).toInt64)), .inl (nI (se S l)), .inl (nI (sf S l)), .inr (.inr (6, 0, 0))], (I, tk_so J 6 0 (tk_u1 (J 6 0) 21 r), R)) _
                  refine dn_call rfl rfl rfl rfl rfl (sm_step (by omega) (by omega) ?_)
                  rw [tk_so_so, tk_so_same, tk_u1_u1, tk_u1_same, ← hA]
                  show tkDn tm_151 (104, [some (.inr (.inr (6, 0, 0))), some (.inl k), some (.inl (nI l)), some (.inl (sgn S l)), some (.inl 1), some (.inl 0)], [], (I, tk_so J 6 0 (tk_u1 (J 6 0) 21 (low1 r (16 * sf S l + se S l) (mlA S k l).toInt64)), R)) _
                  refine dn_run 10 (show (vp_in (nI l) 60) ∧ (vp_in (nI l) 60) ∧ tkDn tm_151 (119, [some (.inr (.inr (6, 0, 0))), some (.inl k), some (.inl (nI l)), some (.inl (sgn S l)), some (.inl 1), some (.inl 0)], [.inl 0, .inl (I 6 0 4 ((nI l).toNatClampNeg)), .inl (I 6 0 5 ((nI l).toNatClampNeg)), .inr (.inr (6, 0, 0))], (I, tk_so J 6 0 (tk_u1 (J 6 0) 21 (low1 r (16 * sf S l + se S l) (mlA S k l).toInt64)), R)) _ from ⟨vp_in_nI (by omega) (by omega), vp_in_nI (by omega) (by omega), ?_⟩)
                  rw [e5, e4]
                  show tkDn tm_151 (119, [some (.inr (.inr (6, 0, 0))), some (.inl k), some (.inl (nI l)), some (.inl (sgn S l)), some (.inl 1), some (.inl 0)], [.inl 0, .inl (nI (sf S l)), .inl (nI (se S l)), .inr (.inr (6, 0, 0))], (I, tk_so J 6 0 (tk_u1 (J 6 0) 21 (low1 r (16 * sf S l + se S l) (mlA S k l).toInt64)), R)) _
                  refine dn_if rfl rfl rfl (fun (cc : ((0 : Int32) = 0 : Prop)) => ?_) (fun (cc : (¬ (0 : Int32) = 0 : Prop)) => ?_)
                  · show tkDn tm_151 (133, [some (.inr (.inr (6, 0, 0))), some (.inl k), some (.inl (nI l)), some (.inl (sgn S l)), some (.inl 1), some (.inl 0)], [.inl (nI (sf S l)), .inl (nI (se S l)), .inr (.inr (6, 0, 0))], (I, tk_so J 6 0 (tk_u1 (J 6 0) 21 (low1 r (16 * sf S l + se S l) (mlA S k l).toInt64)), R)) _
                    refine dn_run 6 (show (vp_in (nI l) 60) ∧ tkDn tm_151 (141, [some (.inr (.inr (6, 0, 0))), some (.inl k), some (.inl (nI l)), some (.inl (sgn S l)), some (.inl 1), some (.inl 0)], [.inr (.inl (((-(I 6 0 6 ((nI l).toNatClampNeg))) : Int32).toInt64)), .inl (nI (sf S l)), .inl (nI (se S l)), .inr (.inr (6, 0, 0))], (I, tk_so J 6 0 (tk_u1 (J 6 0) 21 (low1 r (16 * sf S l + se S l) (mlA S k l).toInt64)), R)) _ from ⟨vp_in_nI (by omega) (by omega), ?_⟩)
                    rw [e6]
                    show tkDn tm_151 (141, [some (.inr (.inr (6, 0, 0))), some (.inl k), some (.inl (nI l)), some (.inl (sgn S l)), some (.inl 1), some (.inl 0)], [.inr (.inl ((-slo S l).toInt64)), .inl (nI (sf S l)), .inl (nI (se S l)), .inr (.inr (6, 0, 0))], (I, tk_so J 6 0 (tk_u1 (J 6 0) 21 (low1 r (16 * sf S l + se S l) (mlA S k l).toInt64)), R)) _
                    refine dn_call rfl rfl rfl rfl rfl (sm_step (by omega) (by omega) ?_)
                    rw [tk_so_so, tk_so_same, tk_u1_u1, tk_u1_same, ← hB]
                    show tkDn tm_151 (144, [some (.inr (.inr (6, 0, 0))), some (.inl k), some (.inl (nI l)), some (.inl (sgn S l)), some (.inl 1), some (.inl 0)], [], (I, tk_so J 6 0 (tk_u1 (J 6 0) 21 (low1 (low1 r (16 * sf S l + se S l) (mlA S k l).toInt64) (16 * se S l + sf S l) (mlB S k l).toInt64)), R)) _
                    refine dn_run 2 (show tkDn tm_151 (10, [some (.inr (.inr (6, 0, 0))), some (.inl k), some (.inl ((nI l) + 1)), some (.inl (sgn S l)), some (.inl 1), some (.inl 0)], [], (I, tk_so J 6 0 (tk_u1 (J 6 0) 21 (low1 (low1 r (16 * sf S l + se S l) (mlA S k l).toInt64) (16 * se S l + sf S l) (mlB S k l).toInt64)), R)) _ from ?_)
                    rw [nI_1]
                    exact ih (l + 1) _ _ _ _ (by omega) (by have z := (hr.low (Nat.le_refl _) (a := sf S l) (b := se S l) (by omega) (by omega) (x := (mlA S k l).toInt64)).low (Nat.le_refl _) (a := se S l) (b := sf S l) (by omega) (by omega) (x := (mlB S k l).toInt64); rw [exM_low hf he, exM_low he hf] at z; exact z)
                  · exact absurd rfl cc
            · show tkDn tm_151 (54, [some (.inr (.inr (6, 0, 0))), some (.inl k), some (.inl (nI l)), some (.inl (sgn S l)), some (.inl 1), o5], [], (I, tk_so J 6 0 (tk_u1 (J 6 0) 21 r), R)) _
              refine dn_run 3 (show tkDn tm_151 (61, [some (.inr (.inr (6, 0, 0))), some (.inl k), some (.inl (nI l)), some (.inl (sgn S l)), some (.inl 1), some (.inl 1)], [], (I, tk_so J 6 0 (tk_u1 (J 6 0) 21 r), R)) _ from ?_)
              have hA : mlA S k l = shi S l := if_neg (fun q => q.2 c4)
              have hB : mlB S k l = -shi S l := if_pos ⟨⟨Int32.not_lt.mp c1, Int32.not_lt.mp c2⟩, c4⟩
              refine dn_run 10 (show (vp_in (nI l) 60) ∧ (vp_in (nI l) 60) ∧ tkDn tm_151 (76, [some (.inr (.inr (6, 0, 0))), some (.inl k), some (.inl (nI l)), some (.inl (sgn S l)), some (.inl 1), some (.inl 1)], [.inl 1, .inl (I 6 0 5 ((nI l).toNatClampNeg)), .inl (I 6 0 4 ((nI l).toNatClampNeg)), .inr (.inr (6, 0, 0))], (I, tk_so J 6 0 (tk_u1 (J 6 0) 21 r), R)) _ from ⟨vp_in_nI (by omega) (by omega), vp_in_nI (by omega) (by omega), ?_⟩)
              rw [e4, e5]
              show tkDn tm_151 (76, [some (.inr (.inr (6, 0, 0))), some (.inl k), some (.inl (nI l)), some (.inl (sgn S l)), some (.inl 1), some (.inl 1)], [.inl 1, .inl (nI (se S l)), .inl (nI (sf S l)), .inr (.inr (6, 0, 0))], (I, tk_so J 6 0 (tk_u1 (J 6 0) 21 r), R)) _
              refine dn_if rfl rfl rfl (fun (cd : ((1 : Int32) = 0 : Prop)) => ?_) (fun (cd : (¬ (1 : Int32) = 0 : Prop)) => ?_)
              · exact absurd cd (by decide)
              · show tkDn tm_151 (79, [some (.inr (.inr (6, 0, 0))), some (.inl k), some (.inl (nI l)), some (.inl (sgn S l)), some (.inl 1), some (.inl 1)], [.inl (nI (se S l)), .inl (nI (sf S l)), .inr (.inr (6, 0, 0))], (I, tk_so J 6 0 (tk_u1 (J 6 0) 21 r), R)) _
                refine dn_run 1 (show tkDn tm_151 (81, [some (.inr (.inr (6, 0, 0))), some (.inl k), some (.inl (nI l)), some (.inl (sgn S l)), some (.inl 1), some (.inl 1)], [.inl 1, .inl (nI (se S l)), .inl (nI (sf S l)), .inr (.inr (6, 0, 0))], (I, tk_so J 6 0 (tk_u1 (J 6 0) 21 r), R)) _ from ?_)
                refine dn_if rfl rfl rfl (fun (ce : (¬ (1 : Int32) = 0 : Prop)) => ?_) (fun (ce : ((1 : Int32) = 0 : Prop)) => ?_)
                · show tkDn tm_151 (94, [some (.inr (.inr (6, 0, 0))), some (.inl k), some (.inl (nI l)), some (.inl (sgn S l)), some (.inl 1), some (.inl 1)], [.inl (nI (se S l)), .inl (nI (sf S l)), .inr (.inr (6, 0, 0))], (I, tk_so J 6 0 (tk_u1 (J 6 0) 21 r), R)) _
                  refine dn_run 5 (show (vp_in (nI l) 60) ∧ tkDn tm_151 (101, [some (.inr (.inr (6, 0, 0))), some (.inl k), some (.inl (nI l)), some (.inl (sgn S l)), some (.inl 1), some (.inl 1)], [.inr (.inl (((I 6 0 7 ((nI l).toNatClampNeg)) : Int32).toInt64)), .inl (nI (se S l)), .inl (nI (sf S l)), .inr (.inr (6, 0, 0))], (I, tk_so J 6 0 (tk_u1 (J 6 0) 21 r), R)) _ from ⟨vp_in_nI (by omega) (by omega), ?_⟩)
                  rw [e7]
                  show tkDn tm_151 (101, [some (.inr (.inr (6, 0, 0))), some (.inl k), some (.inl (nI l)), some (.inl (sgn S l)), some (.inl 1), some (.inl 1)], [.inr (.inl ((shi S l).toInt64)), .inl (nI (se S l)), .inl (nI (sf S l)), .inr (.inr (6, 0, 0))], (I, tk_so J 6 0 (tk_u1 (J 6 0) 21 r), R)) _
                  refine dn_call rfl rfl rfl rfl rfl (sm_step (by omega) (by omega) ?_)
                  rw [tk_so_so, tk_so_same, tk_u1_u1, tk_u1_same, ← hA]
                  show tkDn tm_151 (104, [some (.inr (.inr (6, 0, 0))), some (.inl k), some (.inl (nI l)), some (.inl (sgn S l)), some (.inl 1), some (.inl 1)], [], (I, tk_so J 6 0 (tk_u1 (J 6 0) 21 (low1 r (16 * sf S l + se S l) (mlA S k l).toInt64)), R)) _
                  refine dn_run 10 (show (vp_in (nI l) 60) ∧ (vp_in (nI l) 60) ∧ tkDn tm_151 (119, [some (.inr (.inr (6, 0, 0))), some (.inl k), some (.inl (nI l)), some (.inl (sgn S l)), some (.inl 1), some (.inl 1)], [.inl 1, .inl (I 6 0 4 ((nI l).toNatClampNeg)), .inl (I 6 0 5 ((nI l).toNatClampNeg)), .inr (.inr (6, 0, 0))], (I, tk_so J 6 0 (tk_u1 (J 6 0) 21 (low1 r (16 * sf S l + se S l) (mlA S k l).toInt64)), R)) _ from ⟨vp_in_nI (by omega) (by omega), vp_in_nI (by omega) (by omega), ?_⟩)
                  rw [e5, e4]
                  show tkDn tm_151 (119, [some (.inr (.inr (6, 0, 0))), some (.inl k), some (.inl (nI l)), some (.inl (sgn S l)), some (.inl 1), some (.inl 1)], [.inl 1, .inl (nI (sf S l)), .inl (nI (se S l)), .inr (.inr (6, 0, 0))], (I, tk_so J 6 0 (tk_u1 (J 6 0) 21 (low1 r (16 * sf S l + se S l) (mlA S k l).toInt64)), R)) _
                  refine dn_if rfl rfl rfl (fun (cc : ((1 : Int32) = 0 : Prop)) => ?_) (fun (cc : (¬ (1 : Int32) = 0 : Prop)) => ?_)
                  · exact absurd cc (by decide)
                  · show tkDn tm_151 (122, [some (.inr (.inr (6, 0, 0))), some (.inl k), some (.inl (nI l)), some (.inl (sgn S l)), some (.inl 1), some (.inl 1)], [.inl (nI (sf S l)), .inl (nI (se S l)), .inr (.inr (6, 0, 0))], (I, tk_so J 6 0 (tk_u1 (J 6 0) 21 (low1 r (16 * sf S l + se S l) (mlA S k l).toInt64)), R)) _
                    refine dn_run 7 (show (vp_in (nI l) 60) ∧ tkDn tm_151 (141, [some (.inr (.inr (6, 0, 0))), some (.inl k), some (.inl (nI l)), some (.inl (sgn S l)), some (.inl 1), some (.inl 1)], [.inr (.inl (((-(I 6 0 7 ((nI l).toNatClampNeg))) : Int32).toInt64)), .inl (nI (sf S l)), .inl (nI (se S l)), .inr (.inr (6, 0, 0))], (I, tk_so J 6 0 (tk_u1 (J 6 0) 21 (low1 r (16 * sf S l + se S l) (mlA S k l).toInt64)), R)) _ from ⟨vp_in_nI (by omega) (by omega), ?_⟩)
                    rw [e7]
                    show tkDn tm_151 (141, [some (.inr (.inr (6, 0, 0))), some (.inl k), some (.inl (nI l)), some (.inl (sgn S l)), some (.inl 1), some (.inl 1)], [.inr (.inl ((-shi S l).toInt64)), .inl (nI (sf S l)), .inl (nI (se S l)), .inr (.inr (6, 0, 0))], (I, tk_so J 6 0 (tk_u1 (J 6 0) 21 (low1 r (16 * sf S l + se S l) (mlA S k l).toInt64)), R)) _
                    refine dn_call rfl rfl rfl rfl rfl (sm_step (by omega) (by omega) ?_)
                    rw [tk_so_so, tk_so_same, tk_u1_u1, tk_u1_same, ← hB]
                    show tkDn tm_151 (144, [some (.inr (.inr (6, 0, 0))), some (.inl k), some (.inl (nI l)), some (.inl (sgn S l)), some (.inl 1), some (.inl 1)], [], (I, tk_so J 6 0 (tk_u1 (J 6 0) 21 (low1 (low1 r (16 * sf S l + se S l) (mlA S k l).toInt64) (16 * se S l + sf S l) (mlB S k l).toInt64)), R)) _
                    refine dn_run 2 (show tkDn tm_151 (10, [some (.inr (.inr (6, 0, 0))), some (.inl k), some (.inl ((nI l) + 1)), some (.inl (sgn S l)), some (.inl 1), some (.inl 1)], [], (I, tk_so J 6 0 (tk_u1 (J 6 0) 21 (low1 (low1 r (16 * sf S l + se S l) (mlA S k l).toInt64) (16 * se S l + sf S l) (mlB S k l).toInt64)), R)) _ from ?_)
                    rw [nI_1]
                    exact ih (l + 1) _ _ _ _ (by omega) (by have z := (hr.low (Nat.le_refl _) (a := sf S l) (b := se S l) (by omega) (by omega) (x := (mlA S k l).toInt64)).low (Nat.le_refl _) (a := se S l) (b := sf S l) (by omega) (by omega) (x := (mlB S k l).toInt64); rw [exM_low hf he, exM_low he hf] at z; exact z)
                · exact absurd ce (by decide)
set_option maxRecDepth 8000 in
theorem sm_layLinksX {I : tkI} {J : tkJ} {R : Nat → Nat} {Q : tkQ} {S : tkS} (hP : NetP (I 6 0) S) (w : WF S) {k : Int32} (hq : ∀ j, j < 256 → J 6 0 21 j = 4611686018427387904) (hQ : ∀ r, RowP 16 r (exM (sM S) (mlM S k (sL S))) → Q none (I, tk_so J 6 0 (tk_u1 (J 6 0) 21 r), R)) : tkDn tm_151 (0, [some (.inr (.inr (6, 0, 0))), some (.inl k), none, none, none, none], [], (I, J, R)) Q := by
  have hM16 := w.1
  have hL60 := w.2.1
  have hG6 := w.2.2.1
  have hM := hP.m
  have hL := hP.l
  have hG := hP.g
  refine dn_run 3 (show tkDn tm_151 (5, [some (.inr (.inr (6, 0, 0))), some (.inl k), none, none, none, none], [.inl (I 6 0 0 0), .inr (.inr (6, 0, 0))], (I, J, R)) _ from ?_)
  rw [hM]
  show tkDn tm_151 (5, [some (.inr (.inr (6, 0, 0))), some (.inl k), none, none, none, none], [.inl (nI (sM S)), .inr (.inr (6, 0, 0))], (I, J, R)) _
  refine dn_call rfl rfl rfl rfl rfl (sm_clearWaysX hq rfl hM16 (fun r hr => ?_))
  show tkDn tm_151 (8, [some (.inr (.inr (6, 0, 0))), some (.inl k), none, none, none, none], [], (I, tk_so J 6 0 (tk_u1 (J 6 0) 21 r), R)) _
  refine dn_run 2 (show tkDn tm_151 (10, [some (.inr (.inr (6, 0, 0))), some (.inl k), some (.inl 0), none, none, none], [], (I, tk_so J 6 0 (tk_u1 (J 6 0) 21 r), R)) _ from ?_)
  exact sm_layLinksX_loop hP w hQ (sL S) 0 r none none none (Nat.zero_add _) hr
