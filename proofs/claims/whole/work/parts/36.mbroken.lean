/-! the reference: isBroken -/
set_option maxRecDepth 8000 in
theorem ex_s1 {B : Prop} {P : Nat → Prop} {i : Nat} {b : Int32} (hb : b = 1) (h : b = 1 ↔ B ∨ ∃ j, j < i ∧ P j) : (1 : Int32) = 1 ↔ B ∨ ∃ j, j < i + 1 ∧ P j := by
  refine ⟨fun _ => ?_, fun _ => rfl⟩
  rcases h.mp hb with q | ⟨j, h1, h2⟩
  · exact Or.inl q
  · exact Or.inr ⟨j, by omega, h2⟩
set_option maxRecDepth 8000 in
theorem ex_s2 {B : Prop} {P : Nat → Prop} {i : Nat} (h : P i) : (1 : Int32) = 1 ↔ B ∨ ∃ j, j < i + 1 ∧ P j := ⟨fun _ => Or.inr ⟨i, by omega, h⟩, fun _ => rfl⟩
set_option maxRecDepth 8000 in
theorem ex_s3 {B : Prop} {P : Nat → Prop} {i : Nat} {b : Int32} (hb : b = 0) (h : b = 1 ↔ B ∨ ∃ j, j < i ∧ P j) (hn : ¬ P i) : (0 : Int32) = 1 ↔ B ∨ ∃ j, j < i + 1 ∧ P j := by
  refine ⟨fun q => absurd q (by decide), fun q => ?_⟩
  have h0 : ¬ (B ∨ ∃ j, j < i ∧ P j) := fun z => absurd (h.mpr z) (by rw [hb]; decide)
  rcases q with q | ⟨j, h1, h2⟩
  · exact absurd (Or.inl q) h0
  · by_cases z : j = i
    · subst z; exact absurd h2 hn
    · exact absurd (Or.inr ⟨j, by omega, h2⟩) h0
set_option maxRecDepth 8000 in
theorem ex_0 {B : Prop} {P : Nat → Prop} {b : Int32} (h : b = 1 ↔ B) : b = 1 ↔ B ∨ ∃ j, j < 0 ∧ P j := by
  refine ⟨fun q => Or.inl (h.mp q), fun q => ?_⟩
  rcases q with q | ⟨j, h1, _⟩
  · exact h.mpr q
  · omega
set_option maxRecDepth 8000 in
theorem sm_ib1 {I : tkI} {J : tkJ} {R : Nat → Nat} {Q : tkQ} {N : Nat → Nat → Int64} (hK : ∀ b : Int32, (b = 0 ∨ b = 1) → (b = 1 ↔ False ∨ ∃ j, j < 256 ∧ N 24 j < (-1000000000000)) → tkDn tm_170 (52, [some (.inr (.inr (6, 0, 0))), some (.inl b), some (.inl (nI 256)), none], [], (I, tk_so J 6 0 (tk_u1 N 21 (cpR (N 24) (N 21) 256)), R)) Q) : ∀ m i (b : Int32), i + m = 256 → (b = 0 ∨ b = 1) → (b = 1 ↔ False ∨ ∃ j, j < i ∧ N 24 j < (-1000000000000)) → tkDn tm_170 (4, [some (.inr (.inr (6, 0, 0))), some (.inl b), some (.inl (nI i)), none], [], (I, tk_so J 6 0 (tk_u1 N 21 (cpR (N 24) (N 21) i)), R)) Q := by
  intro m
  induction m with
  | zero =>
    intro i b hi hb hx
    have hi : i = 256 := by omega
    subst hi
    show tkDn tm_170 (4, [some (.inr (.inr (6, 0, 0))), some (.inl b), some (.inl (nI 256)), none], [], (I, tk_so J 6 0 (tk_u1 N 21 (cpR (N 24) (N 21) 256)), R)) _
    refine dn_run 2 (show tkDn tm_170 (8, [some (.inr (.inr (6, 0, 0))), some (.inl b), some (.inl (nI 256)), none], [.inl 256, .inl (nI 256)], (I, tk_so J 6 0 (tk_u1 N 21 (cpR (N 24) (N 21) 256)), R)) _ from ?_)
    refine dn_if rfl rfl rfl (fun (c : 256 ≤ (nI 256)) => ?_) (fun (c : ¬ 256 ≤ (nI 256)) => ?_)
    · exact hK b hb hx
    · exact absurd (by decide) c
  | succ m ih =>
    intro i b hi hb hx
    show tkDn tm_170 (4, [some (.inr (.inr (6, 0, 0))), some (.inl b), some (.inl (nI i)), none], [], (I, tk_so J 6 0 (tk_u1 N 21 (cpR (N 24) (N 21) i)), R)) _
    refine dn_run 2 (show tkDn tm_170 (8, [some (.inr (.inr (6, 0, 0))), some (.inl b), some (.inl (nI i)), none], [.inl 256, .inl (nI i)], (I, tk_so J 6 0 (tk_u1 N 21 (cpR (N 24) (N 21) i)), R)) _ from ?_)
    refine dn_if rfl rfl rfl (fun (c : 256 ≤ (nI i)) => ?_) (fun (c : ¬ 256 ≤ (nI i)) => ?_)
    · exact absurd c (nI_ge (b := 256) (by omega) (by omega))
    · show tkDn tm_170 (11, [some (.inr (.inr (6, 0, 0))), some (.inl b), some (.inl (nI i)), none], [], (I, tk_so J 6 0 (tk_u1 N 21 (cpR (N 24) (N 21) i)), R)) _
      refine dn_run 9 (show (vp_in (nI i) 256) ∧ (vp_in (nI i) 256) ∧ tkDn tm_170 (24, [some (.inr (.inr (6, 0, 0))), some (.inl b), some (.inl (nI i)), none], [.inl b], (I, tk_so (tk_so J 6 0 (tk_u1 N 21 (cpR (N 24) (N 21) i))) 6 0 (tk_u2 (tk_u1 N 21 (cpR (N 24) (N 21) i)) 21 ((nI i).toNatClampNeg) (N 24 ((nI i).toNatClampNeg))), R)) _ from ⟨vp_in_nI (by omega) (by omega), vp_in_nI (by omega) (by omega), ?_⟩)
      rw [tk_so_so]
      rw [tk_u2_u1, nI_clamp (show i < 2 ^ 31 by omega), cpR_s]
      show tkDn tm_170 (24, [some (.inr (.inr (6, 0, 0))), some (.inl b), some (.inl (nI i)), none], [.inl b], (I, tk_so J 6 0 (tk_u1 N 21 (cpR (N 24) (N 21) (i + 1))), R)) _
      refine dn_if rfl rfl rfl (fun (c1 : ¬ b = 0) => ?_) (fun (c1 : b = 0) => ?_)
      · show tkDn tm_170 (40, [some (.inr (.inr (6, 0, 0))), some (.inl b), some (.inl (nI i)), none], [], (I, tk_so J 6 0 (tk_u1 N 21 (cpR (N 24) (N 21) (i + 1))), R)) _
        refine dn_run 5 (show tkDn tm_170 (4, [some (.inr (.inr (6, 0, 0))), some (.inl 1), some (.inl ((nI i) + 1)), none], [], (I, tk_so J 6 0 (tk_u1 N 21 (cpR (N 24) (N 21) (i + 1))), R)) _ from ?_)
        rw [nI_1]
        exact ih (i + 1) 1 (by omega) (Or.inr rfl) (ex_s1 (hb.resolve_left c1) hx)
      · show tkDn tm_170 (27, [some (.inr (.inr (6, 0, 0))), some (.inl b), some (.inl (nI i)), none], [], (I, tk_so J 6 0 (tk_u1 N 21 (cpR (N 24) (N 21) (i + 1))), R)) _
        refine dn_run 6 (show (vp_in (nI i) 256) ∧ tkDn tm_170 (37, [some (.inr (.inr (6, 0, 0))), some (.inl b), some (.inl (nI i)), none], [.inl (lg_cmp (N 24 ((nI i).toNatClampNeg)) (-1000000000000))], (I, tk_so J 6 0 (tk_u1 N 21 (cpR (N 24) (N 21) (i + 1))), R)) _ from ⟨vp_in_nI (by omega) (by omega), ?_⟩)
        rw [nI_clamp (show i < 2 ^ 31 by omega)]
        show tkDn tm_170 (37, [some (.inr (.inr (6, 0, 0))), some (.inl b), some (.inl (nI i)), none], [.inl (lg_cmp (N 24 i) (-1000000000000))], (I, tk_so J 6 0 (tk_u1 N 21 (cpR (N 24) (N 21) (i + 1))), R)) _
        refine dn_if rfl rfl rfl (fun (c2 : 0 ≤ (lg_cmp (N 24 i) (-1000000000000))) => ?_) (fun (c2 : ¬ 0 ≤ (lg_cmp (N 24 i) (-1000000000000))) => ?_)
        · show tkDn tm_170 (44, [some (.inr (.inr (6, 0, 0))), some (.inl b), some (.inl (nI i)), none], [], (I, tk_so J 6 0 (tk_u1 N 21 (cpR (N 24) (N 21) (i + 1))), R)) _
          refine dn_run 4 (show tkDn tm_170 (4, [some (.inr (.inr (6, 0, 0))), some (.inl 0), some (.inl ((nI i) + 1)), none], [], (I, tk_so J 6 0 (tk_u1 N 21 (cpR (N 24) (N 21) (i + 1))), R)) _ from ?_)
          rw [nI_1]
          exact ih (i + 1) 0 (by omega) (Or.inl rfl) (ex_s3 c1 hx (Int64.not_lt.mpr ((lg_cmp_ge _ _).mp c2)))
        · show tkDn tm_170 (40, [some (.inr (.inr (6, 0, 0))), some (.inl b), some (.inl (nI i)), none], [], (I, tk_so J 6 0 (tk_u1 N 21 (cpR (N 24) (N 21) (i + 1))), R)) _
          refine dn_run 5 (show tkDn tm_170 (4, [some (.inr (.inr (6, 0, 0))), some (.inl 1), some (.inl ((nI i) + 1)), none], [], (I, tk_so J 6 0 (tk_u1 N 21 (cpR (N 24) (N 21) (i + 1))), R)) _ from ?_)
          rw [nI_1]
          exact ih (i + 1) 1 (by omega) (Or.inr rfl) (ex_s2 (P := fun j => N 24 j < (-1000000000000)) (Int64.not_le.mp (fun z => c2 ((lg_cmp_ge _ _).mpr z))))
set_option maxRecDepth 8000 in
theorem sm_ib2 {I : tkI} {J : tkJ} {R : Nat → Nat} {Q : tkQ} {S : tkS} (hP : NetP (I 6 0) S) (w : WF S) {e v : tkD} {N : Nat → Nat → Int64} (hv : WRow (N 25) v) {a : Nat} (ha : a < sM S) {B : Prop} (hK : ∀ r (b : Int32), (b = 0 ∨ b = 1) → (b = 1 ↔ B ∨ ∃ g, g < sG S ∧ v a g < (-1000000000000)) → RowP 16 r (brI S v a e (sG S)) → tkDn tm_170 (127, [some (.inr (.inr (6, 0, 0))), some (.inl b), some (.inl (nI a)), some (.inl (nI (sG S)))], [], (I, tk_so J 6 0 (tk_u1 N 21 r), R)) Q) : ∀ m c r (b : Int32), c + m = sG S → (b = 0 ∨ b = 1) → (b = 1 ↔ B ∨ ∃ g, g < c ∧ v a g < (-1000000000000)) → RowP 16 r (brI S v a e c) → tkDn tm_170 (64, [some (.inr (.inr (6, 0, 0))), some (.inl b), some (.inl (nI a)), some (.inl (nI c))], [], (I, tk_so J 6 0 (tk_u1 N 21 r), R)) Q := by
  have hM16 := w.1
  have hL60 := w.2.1
  have hG6 := w.2.2.1
  have hM := hP.m
  have hG := hP.g
  intro m
  induction m with
  | zero =>
    intro c r b hc hb hx hr
    have hc : c = sG S := by omega
    subst hc
    show tkDn tm_170 (64, [some (.inr (.inr (6, 0, 0))), some (.inl b), some (.inl (nI a)), some (.inl (nI (sG S)))], [], (I, tk_so J 6 0 (tk_u1 N 21 r), R)) _
    refine dn_run 3 (show tkDn tm_170 (69, [some (.inr (.inr (6, 0, 0))), some (.inl b), some (.inl (nI a)), some (.inl (nI (sG S)))], [.inl (I 6 0 0 2), .inl (nI (sG S))], (I, tk_so J 6 0 (tk_u1 N 21 r), R)) _ from ?_)
    rw [hG]
    show tkDn tm_170 (69, [some (.inr (.inr (6, 0, 0))), some (.inl b), some (.inl (nI a)), some (.inl (nI (sG S)))], [.inl (nI (sG S)), .inl (nI (sG S))], (I, tk_so J 6 0 (tk_u1 N 21 r), R)) _
    refine dn_if rfl rfl rfl (fun (qq : (nI (sG S)) ≤ (nI (sG S))) => ?_) (fun (qq : ¬ (nI (sG S)) ≤ (nI (sG S))) => ?_)
    · exact hK r b hb hx hr
    · exact absurd (nI_le (by omega) (by omega)) qq
  | succ m ih =>
    intro c r b hc hb hx hr
    have hgl := w.gl (g := c) (by omega)
    have hf := w.fM hgl
    show tkDn tm_170 (64, [some (.inr (.inr (6, 0, 0))), some (.inl b), some (.inl (nI a)), some (.inl (nI c))], [], (I, tk_so J 6 0 (tk_u1 N 21 r), R)) _
    refine dn_run 3 (show tkDn tm_170 (69, [some (.inr (.inr (6, 0, 0))), some (.inl b), some (.inl (nI a)), some (.inl (nI c))], [.inl (I 6 0 0 2), .inl (nI c)], (I, tk_so J 6 0 (tk_u1 N 21 r), R)) _ from ?_)
    rw [hG]
    show tkDn tm_170 (69, [some (.inr (.inr (6, 0, 0))), some (.inl b), some (.inl (nI a)), some (.inl (nI c))], [.inl (nI (sG S)), .inl (nI c)], (I, tk_so J 6 0 (tk_u1 N 21 r), R)) _
    refine dn_if rfl rfl rfl (fun (qq : (nI (sG S)) ≤ (nI c)) => ?_) (fun (qq : ¬ (nI (sG S)) ≤ (nI c)) => ?_)
    · exact absurd qq (nI_ge (by omega) (by omega))
    · show tkDn tm_170 (72, [some (.inr (.inr (6, 0, 0))), some (.inl b), some (.inl (nI a)), some (.inl (nI c))], [], (I, tk_so J 6 0 (tk_u1 N 21 r), R)) _
      refine dn_run 1 (show tkDn tm_170 (73, [some (.inr (.inr (6, 0, 0))), some (.inl b), some (.inl (nI a)), some (.inl (nI c))], [.inl b], (I, tk_so J 6 0 (tk_u1 N 21 r), R)) _ from ?_)
      refine dn_if rfl rfl rfl (fun (c1 : ¬ b = 0) => ?_) (fun (c1 : b = 0) => ?_)
      · show tkDn tm_170 (94, [some (.inr (.inr (6, 0, 0))), some (.inl b), some (.inl (nI a)), some (.inl (nI c))], [], (I, tk_so J 6 0 (tk_u1 N 21 r), R)) _
        refine dn_run 7 (show tkDn tm_170 (104, [some (.inr (.inr (6, 0, 0))), some (.inl 1), some (.inl (nI a)), some (.inl (nI c))], [.inl (nI c), .inr (.inr (6, 0, 0)), .inl (nI a), .inr (.inr (6, 0, 0))], (I, tk_so J 6 0 (tk_u1 N 21 r), R)) _ from ?_)
        refine dn_call rfl rfl rfl rfl rfl (sm_begin hP w (g := c) (by omega) ?_)
        show tkDn tm_170 (107, [some (.inr (.inr (6, 0, 0))), some (.inl 1), some (.inl (nI a)), some (.inl (nI c))], [.inl (nI (sf S (sgl S c))), .inl (nI a), .inr (.inr (6, 0, 0))], (I, tk_so J 6 0 (tk_u1 N 21 r), R)) _
        refine dn_run 8 (show (vp_in ((6 * (nI a)) + (nI c)) 96) ∧ tkDn tm_170 (118, [some (.inr (.inr (6, 0, 0))), some (.inl 1), some (.inl (nI a)), some (.inl (nI c))], [.inr (.inl (N 25 (((6 * (nI a)) + (nI c)).toNatClampNeg))), .inl (nI (sf S (sgl S c))), .inl (nI a), .inr (.inr (6, 0, 0))], (I, tk_so J 6 0 (tk_u1 N 21 r), R)) _ from ⟨by rw [ix6']; exact vp_in_nI (by omega) (by omega), ?_⟩)
        rw [ix6', hv.at (by omega) (by omega)]
        show tkDn tm_170 (118, [some (.inr (.inr (6, 0, 0))), some (.inl 1), some (.inl (nI a)), some (.inl (nI c))], [.inr (.inl (v a c)), .inl (nI (sf S (sgl S c))), .inl (nI a), .inr (.inr (6, 0, 0))], (I, tk_so J 6 0 (tk_u1 N 21 r), R)) _
        refine dn_call rfl rfl rfl rfl rfl (sm_step (by omega) (by omega) ?_)
        rw [tk_so_so, tk_so_same, tk_u1_u1, tk_u1_same]
        show tkDn tm_170 (121, [some (.inr (.inr (6, 0, 0))), some (.inl 1), some (.inl (nI a)), some (.inl (nI c))], [], (I, tk_so J 6 0 (tk_u1 N 21 (low1 r (16 * a + sf S (sgl S c)) (v a c))), R)) _
        refine dn_run 2 (show tkDn tm_170 (64, [some (.inr (.inr (6, 0, 0))), some (.inl 1), some (.inl (nI a)), some (.inl ((nI c) + 1))], [], (I, tk_so J 6 0 (tk_u1 N 21 (low1 r (16 * a + sf S (sgl S c)) (v a c))), R)) _ from ?_)
        rw [nI_1]
        exact ih (c + 1) _ 1 (by omega) (Or.inr rfl) (ex_s1 (hb.resolve_left c1) hx) (hr.low (by omega) (by omega) (by omega))
      · show tkDn tm_170 (76, [some (.inr (.inr (6, 0, 0))), some (.inl b), some (.inl (nI a)), some (.inl (nI c))], [], (I, tk_so J 6 0 (tk_u1 N 21 r), R)) _
        refine dn_run 10 (show (vp_in ((6 * (nI a)) + (nI c)) 96) ∧ tkDn tm_170 (91, [some (.inr (.inr (6, 0, 0))), some (.inl b), some (.inl (nI a)), some (.inl (nI c))], [.inl (lg_cmp (N 25 (((6 * (nI a)) + (nI c)).toNatClampNeg)) (-1000000000000))], (I, tk_so J 6 0 (tk_u1 N 21 r), R)) _ from ⟨by rw [ix6']; exact vp_in_nI (by omega) (by omega), ?_⟩)
        rw [ix6', hv.at (by omega) (by omega)]
        show tkDn tm_170 (91, [some (.inr (.inr (6, 0, 0))), some (.inl b), some (.inl (nI a)), some (.inl (nI c))], [.inl (lg_cmp (v a c) (-1000000000000))], (I, tk_so J 6 0 (tk_u1 N 21 r), R)) _
        refine dn_if rfl rfl rfl (fun (c2 : 0 ≤ (lg_cmp (v a c) (-1000000000000))) => ?_) (fun (c2 : ¬ 0 ≤ (lg_cmp (v a c) (-1000000000000))) => ?_)
        · show tkDn tm_170 (98, [some (.inr (.inr (6, 0, 0))), some (.inl b), some (.inl (nI a)), some (.inl (nI c))], [], (I, tk_so J 6 0 (tk_u1 N 21 r), R)) _
          refine dn_run 6 (show tkDn tm_170 (104, [some (.inr (.inr (6, 0, 0))), some (.inl 0), some (.inl (nI a)), some (.inl (nI c))], [.inl (nI c), .inr (.inr (6, 0, 0)), .inl (nI a), .inr (.inr (6, 0, 0))], (I, tk_so J 6 0 (tk_u1 N 21 r), R)) _ from ?_)
          refine dn_call rfl rfl rfl rfl rfl (sm_begin hP w (g := c) (by omega) ?_)
          show tkDn tm_170 (107, [some (.inr (.inr (6, 0, 0))), some (.inl 0), some (.inl (nI a)), some (.inl (nI c))], [.inl (nI (sf S (sgl S c))), .inl (nI a), .inr (.inr (6, 0, 0))], (I, tk_so J 6 0 (tk_u1 N 21 r), R)) _
          refine dn_run 8 (show (vp_in ((6 * (nI a)) + (nI c)) 96) ∧ tkDn tm_170 (118, [some (.inr (.inr (6, 0, 0))), some (.inl 0), some (.inl (nI a)), some (.inl (nI c))], [.inr (.inl (N 25 (((6 * (nI a)) + (nI c)).toNatClampNeg))), .inl (nI (sf S (sgl S c))), .inl (nI a), .inr (.inr (6, 0, 0))], (I, tk_so J 6 0 (tk_u1 N 21 r), R)) _ from ⟨by rw [ix6']; exact vp_in_nI (by omega) (by omega), ?_⟩)
          rw [ix6', hv.at (by omega) (by omega)]
          show tkDn tm_170 (118, [some (.inr (.inr (6, 0, 0))), some (.inl 0), some (.inl (nI a)), some (.inl (nI c))], [.inr (.inl (v a c)), .inl (nI (sf S (sgl S c))), .inl (nI a), .inr (.inr (6, 0, 0))], (I, tk_so J 6 0 (tk_u1 N 21 r), R)) _
          refine dn_call rfl rfl rfl rfl rfl (sm_step (by omega) (by omega) ?_)
          rw [tk_so_so, tk_so_same, tk_u1_u1, tk_u1_same]
          show tkDn tm_170 (121, [some (.inr (.inr (6, 0, 0))), some (.inl 0), some (.inl (nI a)), some (.inl (nI c))], [], (I, tk_so J 6 0 (tk_u1 N 21 (low1 r (16 * a + sf S (sgl S c)) (v a c))), R)) _
          refine dn_run 2 (show tkDn tm_170 (64, [some (.inr (.inr (6, 0, 0))), some (.inl 0), some (.inl (nI a)), some (.inl ((nI c) + 1))], [], (I, tk_so J 6 0 (tk_u1 N 21 (low1 r (16 * a + sf S (sgl S c)) (v a c))), R)) _ from ?_)
          rw [nI_1]
          exact ih (c + 1) _ 0 (by omega) (Or.inl rfl) (ex_s3 c1 hx (Int64.not_lt.mpr ((lg_cmp_ge _ _).mp c2))) (hr.low (by omega) (by omega) (by omega))
        · show tkDn tm_170 (94, [some (.inr (.inr (6, 0, 0))), some (.inl b), some (.inl (nI a)), some (.inl (nI c))], [], (I, tk_so J 6 0 (tk_u1 N 21 r), R)) _
          refine dn_run 7 (show tkDn tm_170 (104, [some (.inr (.inr (6, 0, 0))), some (.inl 1), some (.inl (nI a)), some (.inl (nI c))], [.inl (nI c), .inr (.inr (6, 0, 0)), .inl (nI a), .inr (.inr (6, 0, 0))], (I, tk_so J 6 0 (tk_u1 N 21 r), R)) _ from ?_)
          refine dn_call rfl rfl rfl rfl rfl (sm_begin hP w (g := c) (by omega) ?_)
          show tkDn tm_170 (107, [some (.inr (.inr (6, 0, 0))), some (.inl 1), some (.inl (nI a)), some (.inl (nI c))], [.inl (nI (sf S (sgl S c))), .inl (nI a), .inr (.inr (6, 0, 0))], (I, tk_so J 6 0 (tk_u1 N 21 r), R)) _
          refine dn_run 8 (show (vp_in ((6 * (nI a)) + (nI c)) 96) ∧ tkDn tm_170 (118, [some (.inr (.inr (6, 0, 0))), some (.inl 1), some (.inl (nI a)), some (.inl (nI c))], [.inr (.inl (N 25 (((6 * (nI a)) + (nI c)).toNatClampNeg))), .inl (nI (sf S (sgl S c))), .inl (nI a), .inr (.inr (6, 0, 0))], (I, tk_so J 6 0 (tk_u1 N 21 r), R)) _ from ⟨by rw [ix6']; exact vp_in_nI (by omega) (by omega), ?_⟩)
          rw [ix6', hv.at (by omega) (by omega)]
          show tkDn tm_170 (118, [some (.inr (.inr (6, 0, 0))), some (.inl 1), some (.inl (nI a)), some (.inl (nI c))], [.inr (.inl (v a c)), .inl (nI (sf S (sgl S c))), .inl (nI a), .inr (.inr (6, 0, 0))], (I, tk_so J 6 0 (tk_u1 N 21 r), R)) _
          refine dn_call rfl rfl rfl rfl rfl (sm_step (by omega) (by omega) ?_)
          rw [tk_so_so, tk_so_same, tk_u1_u1, tk_u1_same]
          show tkDn tm_170 (121, [some (.inr (.inr (6, 0, 0))), some (.inl 1), some (.inl (nI a)), some (.inl (nI c))], [], (I, tk_so J 6 0 (tk_u1 N 21 (low1 r (16 * a + sf S (sgl S c)) (v a c))), R)) _
          refine dn_run 2 (show tkDn tm_170 (64, [some (.inr (.inr (6, 0, 0))), some (.inl 1), some (.inl (nI a)), some (.inl ((nI c) + 1))], [], (I, tk_so J 6 0 (tk_u1 N 21 (low1 r (16 * a + sf S (sgl S c)) (v a c))), R)) _ from ?_)
          rw [nI_1]
          exact ih (c + 1) _ 1 (by omega) (Or.inr rfl) (ex_s2 (P := fun g => v a g < (-1000000000000)) (Int64.not_le.mp (fun z => c2 ((lg_cmp_ge _ _).mpr z)))) (hr.low (by omega) (by omega) (by omega))
set_option maxRecDepth 8000 in
theorem ex_a {B : Prop} {P : Nat → Prop} {i : Nat} {b : Int32} (h : b = 1 ↔ (B ∨ ∃ j, j < i ∧ P j) ∨ P i) : b = 1 ↔ B ∨ ∃ j, j < i + 1 ∧ P j := by
  rw [h]
  constructor
  · rintro ((q | ⟨j, h1, h2⟩) | q)
    · exact Or.inl q
    · exact Or.inr ⟨j, by omega, h2⟩
    · exact Or.inr ⟨i, by omega, q⟩
  · rintro (q | ⟨j, h1, h2⟩)
    · exact Or.inl (Or.inl q)
    · by_cases z : j = i
      · subst z; exact Or.inr h2
      · exact Or.inl (Or.inr ⟨j, by omega, h2⟩)
set_option maxRecDepth 8000 in
theorem sm_ib3 {I : tkI} {J : tkJ} {R : Nat → Nat} {Q : tkQ} {S : tkS} (hP : NetP (I 6 0) S) (w : WF S) {e v : tkD} {N : Nat → Nat → Int64} (hv : WRow (N 25) v) {B : Prop} (hK : ∀ r (b : Int32) o3, (b = 0 ∨ b = 1) → (b = 1 ↔ B ∨ ∃ i, i < sM S ∧ ∃ g, g < sG S ∧ v i g < (-1000000000000)) → RowP 16 r (brO S v e (sG S) (sM S)) → tkDn tm_170 (133, [some (.inr (.inr (6, 0, 0))), some (.inl b), some (.inl (nI (sM S))), o3], [], (I, tk_so J 6 0 (tk_u1 N 21 r), R)) Q) : ∀ m a r (b : Int32) o3, a + m = sM S → (b = 0 ∨ b = 1) → (b = 1 ↔ B ∨ ∃ i, i < a ∧ ∃ g, g < sG S ∧ v i g < (-1000000000000)) → RowP 16 r (brO S v e (sG S) a) → tkDn tm_170 (54, [some (.inr (.inr (6, 0, 0))), some (.inl b), some (.inl (nI a)), o3], [], (I, tk_so J 6 0 (tk_u1 N 21 r), R)) Q := by
  have hM16 := w.1
  have hL60 := w.2.1
  have hG6 := w.2.2.1
  have hM := hP.m
  have hG := hP.g
  intro m
  induction m with
  | zero =>
    intro a r b o3 hc hb hx hr
    have hc : a = sM S := by omega
    subst hc
    show tkDn tm_170 (54, [some (.inr (.inr (6, 0, 0))), some (.inl b), some (.inl (nI (sM S))), o3], [], (I, tk_so J 6 0 (tk_u1 N 21 r), R)) _
    refine dn_run 3 (show tkDn tm_170 (59, [some (.inr (.inr (6, 0, 0))), some (.inl b), some (.inl (nI (sM S))), o3], [.inl (I 6 0 0 0), .inl (nI (sM S))], (I, tk_so J 6 0 (tk_u1 N 21 r), R)) _ from ?_)
    rw [hM]
    show tkDn tm_170 (59, [some (.inr (.inr (6, 0, 0))), some (.inl b), some (.inl (nI (sM S))), o3], [.inl (nI (sM S)), .inl (nI (sM S))], (I, tk_so J 6 0 (tk_u1 N 21 r), R)) _
    refine dn_if rfl rfl rfl (fun (qq : (nI (sM S)) ≤ (nI (sM S))) => ?_) (fun (qq : ¬ (nI (sM S)) ≤ (nI (sM S))) => ?_)
    · exact hK r b _ hb hx hr
    · exact absurd (nI_le (by omega) (by omega)) qq
  | succ m ih =>
    intro a r b o3 hc hb hx hr
    show tkDn tm_170 (54, [some (.inr (.inr (6, 0, 0))), some (.inl b), some (.inl (nI a)), o3], [], (I, tk_so J 6 0 (tk_u1 N 21 r), R)) _
    refine dn_run 3 (show tkDn tm_170 (59, [some (.inr (.inr (6, 0, 0))), some (.inl b), some (.inl (nI a)), o3], [.inl (I 6 0 0 0), .inl (nI a)], (I, tk_so J 6 0 (tk_u1 N 21 r), R)) _ from ?_)
    rw [hM]
    show tkDn tm_170 (59, [some (.inr (.inr (6, 0, 0))), some (.inl b), some (.inl (nI a)), o3], [.inl (nI (sM S)), .inl (nI a)], (I, tk_so J 6 0 (tk_u1 N 21 r), R)) _
    refine dn_if rfl rfl rfl (fun (qq : (nI (sM S)) ≤ (nI a)) => ?_) (fun (qq : ¬ (nI (sM S)) ≤ (nI a)) => ?_)
    · exact absurd qq (nI_ge (by omega) (by omega))
    · show tkDn tm_170 (62, [some (.inr (.inr (6, 0, 0))), some (.inl b), some (.inl (nI a)), o3], [], (I, tk_so J 6 0 (tk_u1 N 21 r), R)) _
      refine dn_run 2 (show tkDn tm_170 (64, [some (.inr (.inr (6, 0, 0))), some (.inl b), some (.inl (nI a)), some (.inl 0)], [], (I, tk_so J 6 0 (tk_u1 N 21 r), R)) _ from ?_)
      refine sm_ib2 hP w (e := brO S v e (sG S) a) hv (by omega) (fun r2 b2 hb2 hx2 hr2 => ?_) (sG S) 0 r b (Nat.zero_add _) hb (ex_0 hx) hr
      show tkDn tm_170 (127, [some (.inr (.inr (6, 0, 0))), some (.inl b2), some (.inl (nI a)), some (.inl (nI (sG S)))], [], (I, tk_so J 6 0 (tk_u1 N 21 r2), R)) _
      refine dn_run 2 (show tkDn tm_170 (54, [some (.inr (.inr (6, 0, 0))), some (.inl b2), some (.inl ((nI a) + 1)), some (.inl (nI (sG S)))], [], (I, tk_so J 6 0 (tk_u1 N 21 r2), R)) _ from ?_)
      rw [nI_1]
      exact ih (a + 1) r2 b2 _ (by omega) hb2 (ex_a (P := fun i => ∃ g, g < sG S ∧ v i g < (-1000000000000)) hx2) hr2
set_option maxRecDepth 8000 in
theorem sm_isBroken {I : tkI} {J : tkJ} {R : Nat → Nat} {Q : tkQ} {S : tkS} (hP : NetP (I 6 0) S) (w : WF S) {e v : tkD} {N : Nat → Nat → Int64} (he : RowP 16 (N 24) e) (hv : WRow (N 25) v) (hQ : ∀ N2 (x : Int32), (x = 0 ∨ x = 1) → (x = 1 ↔ mBad S e v) → (∀ s, s ≠ 21 → N2 s = N s) → Q (some (.inl x)) (I, tk_so J 6 0 N2, R)) : tkDn tm_170 (0, [some (.inr (.inr (6, 0, 0))), none, none, none], [], (I, tk_so J 6 0 N, R)) Q := by
  have hM16 := w.1
  have hL60 := w.2.1
  have hG6 := w.2.2.1
  have hM := hP.m
  have hG := hP.g
  refine dn_run 4 (show tkDn tm_170 (4, [some (.inr (.inr (6, 0, 0))), some (.inl 0), some (.inl 0), none], [], (I, tk_so J 6 0 N, R)) _ from ?_)
  have key := sm_ib1 (I := I) (J := J) (R := R) (Q := Q) (N := N) ?_ 256 0 0 rfl (Or.inl rfl) ⟨fun q => absurd q (by decide), fun q => by rcases q with q | ⟨j, h1, _⟩; exact q.elim; omega⟩
  · rw [cpR_0, tk_u1_id] at key; exact key
  intro b hb hx
  show tkDn tm_170 (52, [some (.inr (.inr (6, 0, 0))), some (.inl b), some (.inl (nI 256)), none], [], (I, tk_so J 6 0 (tk_u1 N 21 (cpR (N 24) (N 21) 256)), R)) _
  refine dn_run 2 (show tkDn tm_170 (54, [some (.inr (.inr (6, 0, 0))), some (.inl b), some (.inl 0), none], [], (I, tk_so J 6 0 (tk_u1 N 21 (cpR (N 24) (N 21) 256)), R)) _ from ?_)
  have hx0 : b = 1 ↔ ∃ j, j < 256 ∧ rowE e j < (-1000000000000) := by
    rw [hx]
    constructor
    · rintro (q | ⟨j, h1, h2⟩)
      · exact q.elim
      · exact ⟨j, h1, by rw [← he.eq j h1]; exact h2⟩
    · rintro ⟨j, h1, h2⟩
      exact Or.inr ⟨j, h1, by rw [he.eq j h1]; exact h2⟩
  refine sm_ib3 hP w (e := e) hv (fun r3 b3 o3 hb3 hx3 hr3 => ?_) (sM S) 0 _ b none (Nat.zero_add _) hb (ex_0 hx0) (he.cp (fun j hj => if_pos hj))
  show tkDn tm_170 (133, [some (.inr (.inr (6, 0, 0))), some (.inl b3), some (.inl (nI (sM S))), o3], [], (I, tk_so J 6 0 (tk_u1 N 21 r3), R)) _
  refine dn_run 1 (show tkDn tm_170 (134, [some (.inr (.inr (6, 0, 0))), some (.inl b3), some (.inl (nI (sM S))), o3], [.inl b3], (I, tk_so J 6 0 (tk_u1 N 21 r3), R)) _ from ?_)
  refine dn_if rfl rfl rfl (fun (c1 : ¬ b3 = 0) => ?_) (fun (c1 : b3 = 0) => ?_)
  · show tkDn tm_170 (148, [some (.inr (.inr (6, 0, 0))), some (.inl b3), some (.inl (nI (sM S))), o3], [], (I, tk_so J 6 0 (tk_u1 N 21 r3), R)) _
    refine dn_run 2 (show tkDn tm_170 (153, [some (.inr (.inr (6, 0, 0))), some (.inl b3), some (.inl (nI (sM S))), o3], [.inl 1], (I, tk_so J 6 0 (tk_u1 N 21 r3), R)) _ from ?_)
    refine dn_retb rfl rfl rfl rfl (by decide) ?_
    exact hQ _ 1 (Or.inr rfl) ⟨fun _ => Or.inl (hx3.mp (hb3.resolve_left c1)), fun _ => rfl⟩ (fun s hs => tk_u1_ne hs)
  · show tkDn tm_170 (137, [some (.inr (.inr (6, 0, 0))), some (.inl b3), some (.inl (nI (sM S))), o3], [], (I, tk_so J 6 0 (tk_u1 N 21 r3), R)) _
    refine dn_run 3 (show tkDn tm_170 (142, [some (.inr (.inr (6, 0, 0))), some (.inl b3), some (.inl (nI (sM S))), o3], [.inl (I 6 0 0 0), .inr (.inr (6, 0, 0))], (I, tk_so J 6 0 (tk_u1 N 21 r3), R)) _ from ?_)
    rw [hM]
    show tkDn tm_170 (142, [some (.inr (.inr (6, 0, 0))), some (.inl b3), some (.inl (nI (sM S))), o3], [.inl (nI (sM S)), .inr (.inr (6, 0, 0))], (I, tk_so J 6 0 (tk_u1 N 21 r3), R)) _
    have hr4 : RowP 16 (tk_so J 6 0 (tk_u1 N 21 r3) 6 0 21) (brO S v e (sG S) (sM S)) := by rw [tk_so_same, tk_u1_same]; exact hr3
    refine dn_call rfl rfl rfl rfl rfl (sm_closes (d := brO S v e (sG S) (sM S)) (M := 16) hM16 (Nat.le_refl _) hr4 (fun r5 hr5 => ?_))
    rw [tk_so_so, tk_so_same, tk_u1_u1]
    show tkDn tm_170 (145, [some (.inr (.inr (6, 0, 0))), some (.inl b3), some (.inl (nI (sM S))), o3], [.inl (if (mcF (brO S v e (sG S) (sM S)) (sM S)).1 = true then 1 else 0)], (I, tk_so J 6 0 (tk_u1 N 21 r5), R)) _
    refine dn_if rfl rfl rfl (fun (c2 : ¬ (if (mcF (brO S v e (sG S) (sM S)) (sM S)).1 = true then 1 else 0) = 0) => ?_) (fun (c2 : (if (mcF (brO S v e (sG S) (sM S)) (sM S)).1 = true then 1 else 0) = 0) => ?_)
    · show tkDn tm_170 (152, [some (.inr (.inr (6, 0, 0))), some (.inl b3), some (.inl (nI (sM S))), o3], [], (I, tk_so J 6 0 (tk_u1 N 21 r5), R)) _
      refine dn_run 1 (show tkDn tm_170 (153, [some (.inr (.inr (6, 0, 0))), some (.inl b3), some (.inl (nI (sM S))), o3], [.inl 0], (I, tk_so J 6 0 (tk_u1 N 21 r5), R)) _ from ?_)
      refine dn_retb rfl rfl rfl rfl (by decide) ?_
      refine hQ _ 0 (Or.inl rfl) ⟨fun q => absurd q (by decide), fun q => ?_⟩ (fun s hs => tk_u1_ne hs)
      rcases q with q | q
      · exact absurd (hx3.mpr q) (by rw [c1]; decide)
      · exact absurd (if_neg q) c2
    · show tkDn tm_170 (148, [some (.inr (.inr (6, 0, 0))), some (.inl b3), some (.inl (nI (sM S))), o3], [], (I, tk_so J 6 0 (tk_u1 N 21 r5), R)) _
      refine dn_run 2 (show tkDn tm_170 (153, [some (.inr (.inr (6, 0, 0))), some (.inl b3), some (.inl (nI (sM S))), o3], [.inl 1], (I, tk_so J 6 0 (tk_u1 N 21 r5), R)) _ from ?_)
      refine dn_retb rfl rfl rfl rfl (by decide) ?_
      exact hQ _ 1 (Or.inr rfl) ⟨fun _ => Or.inr (fun z => absurd (c2.symm.trans (if_pos z)) (by decide)), fun _ => rfl⟩ (fun s hs => tk_u1_ne hs)
