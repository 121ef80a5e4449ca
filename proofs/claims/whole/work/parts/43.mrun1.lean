/-! the reference: who has time -/
def TOk (T : Nat → Int32) : Prop := ∀ j, j < 16 → T j = -9 ∨ 0 ≤ T j
set_option maxRecDepth 8000 in
theorem mx_le {a y : Int64} (h : y ≤ a) : mx a y = a := by
  unfold mx
  split
  · rfl
  · rename_i q; exact Int64.le_antisymm h (Int64.not_lt.mp q)
set_option maxRecDepth 8000 in
theorem mx_gt {a y : Int64} (h : a < y) : mx a y = y := by
  unfold mx
  rw [if_neg (fun z => absurd (Int64.lt_trans h z) Int64.lt_irrefl)]
set_option maxRecDepth 8000 in
theorem mn_ge {a y : Int64} (h : a ≤ y) : mn a y = a := by
  unfold mn
  rw [if_neg (Int64.not_lt.mpr h)]
set_option maxRecDepth 8000 in
theorem mn_lt {a y : Int64} (h : y < a) : mn a y = y := by
  unfold mn
  rw [if_pos h]
def htO (S : tkS) (e v : tkD) (T : Nat → Int32) (m : Nat) : Option Int64 := (blE e T m (sM S) 0 0).bind (fun a => blW S v T m (sG S) 0 a)
set_option maxRecDepth 8000 in
theorem sm_hasCome {I : tkI} {J : tkJ} {R : Nat → Nat} {Q : tkQ} {T : Nat → Int32} (hT : ∀ j, j < 16 → I 6 0 33 j = T j) (hO : TOk T) {m : Nat} (hm : m < 16) (hQ : Q (some (.inl (if T m = -9 then 0 else 1))) (I, J, R)) : tkDn tm_179 (0, [some (.inr (.inr (6, 0, 0))), some (.inl (nI m))], [], (I, J, R)) Q := by
  refine dn_run 4 (show (vp_in (nI m) 16) ∧ tkDn tm_179 (6, [some (.inr (.inr (6, 0, 0))), some (.inl (nI m))], [.inl (I 6 0 33 ((nI m).toNatClampNeg))], (I, J, R)) _ from ⟨vp_in_nI (by omega) (by omega), ?_⟩)
  rw [nI_clamp (show m < 2 ^ 31 by omega), hT m hm]
  show tkDn tm_179 (6, [some (.inr (.inr (6, 0, 0))), some (.inl (nI m))], [.inl (T m)], (I, J, R)) _
  refine dn_if rfl rfl rfl (fun (c : (T m) < 0) => ?_) (fun (c : ¬ (T m) < 0) => ?_)
  · show tkDn tm_179 (13, [some (.inr (.inr (6, 0, 0))), some (.inl (nI m))], [], (I, J, R)) _
    refine dn_run 1 (show tkDn tm_179 (14, [some (.inr (.inr (6, 0, 0))), some (.inl (nI m))], [.inl 0], (I, J, R)) _ from ?_)
    refine dn_retb rfl rfl rfl rfl (by decide) ?_
    rw [if_pos ((hO m hm).resolve_right (fun q => absurd c (Int32.not_lt.mpr q)))] at hQ; exact hQ
  · show tkDn tm_179 (9, [some (.inr (.inr (6, 0, 0))), some (.inl (nI m))], [], (I, J, R)) _
    refine dn_run 2 (show tkDn tm_179 (14, [some (.inr (.inr (6, 0, 0))), some (.inl (nI m))], [.inl 1], (I, J, R)) _ from ?_)
    refine dn_retb rfl rfl rfl rfl (by decide) ?_
    rw [if_neg (fun q => c (by rw [q]; decide))] at hQ; exact hQ
set_option maxRecDepth 8000 in
theorem sm_lt_loop {I : tkI} {J : tkJ} {R : Nat → Nat} {Q : tkQ} {T : Nat → Int32} (hT : ∀ j, j < 16 → I 6 0 33 j = T j) (hO : TOk T) {S : tkS} (hP : NetP (I 6 0) S) (w : WF S) {t : Int32} (hQ : Q (some (.inl (if ltF S T t (sG S) 0 = true then 1 else 0))) (I, J, R)) : ∀ n c (lt : Int32), c + n = sG S → (lt = 0 ∨ lt = 1) → ((lt = 1 ∨ ltF S T t n c = true) ↔ ltF S T t (sG S) 0 = true) → tkDn tm_180 (4, [some (.inr (.inr (6, 0, 0))), some (.inl t), some (.inl lt), some (.inl (nI c))], [], (I, J, R)) Q := by
  have hM16 := w.1
  have hL60 := w.2.1
  have hG6 := w.2.2.1
  have hM := hP.m
  have hG := hP.g
  have hL := hP.l
  intro n
  induction n with
  | zero =>
    intro c lt hc hl h
    show tkDn tm_180 (4, [some (.inr (.inr (6, 0, 0))), some (.inl t), some (.inl lt), some (.inl (nI c))], [], (I, J, R)) _
    refine dn_run 3 (show tkDn tm_180 (9, [some (.inr (.inr (6, 0, 0))), some (.inl t), some (.inl lt), some (.inl (nI c))], [.inl (I 6 0 0 2), .inl (nI c)], (I, J, R)) _ from ?_)
    rw [hG]
    show tkDn tm_180 (9, [some (.inr (.inr (6, 0, 0))), some (.inl t), some (.inl lt), some (.inl (nI c))], [.inl (nI (sG S)), .inl (nI c)], (I, J, R)) _
    refine dn_if rfl rfl rfl (fun (c0 : (nI (sG S)) ≤ (nI c)) => ?_) (fun (c0 : ¬ (nI (sG S)) ≤ (nI c)) => ?_)
    · show tkDn tm_180 (78, [some (.inr (.inr (6, 0, 0))), some (.inl t), some (.inl lt), some (.inl (nI c))], [], (I, J, R)) _
      refine dn_run 1 (show tkDn tm_180 (79, [some (.inr (.inr (6, 0, 0))), some (.inl t), some (.inl lt), some (.inl (nI c))], [.inl lt], (I, J, R)) _ from ?_)
      refine dn_retb rfl rfl rfl rfl hl ?_
      rcases hl with rfl | rfl
      · rw [if_neg (fun q => (h.mpr q).elim (by decide) (fun q => by cases q))] at hQ; exact hQ
      · rw [if_pos (h.mp (Or.inl rfl))] at hQ; exact hQ
    · exact absurd (nI_le (by omega) (by omega)) c0
  | succ n ih =>
    intro c lt hc hl h
    show tkDn tm_180 (4, [some (.inr (.inr (6, 0, 0))), some (.inl t), some (.inl lt), some (.inl (nI c))], [], (I, J, R)) _
    refine dn_run 3 (show tkDn tm_180 (9, [some (.inr (.inr (6, 0, 0))), some (.inl t), some (.inl lt), some (.inl (nI c))], [.inl (I 6 0 0 2), .inl (nI c)], (I, J, R)) _ from ?_)
    rw [hG]
    show tkDn tm_180 (9, [some (.inr (.inr (6, 0, 0))), some (.inl t), some (.inl lt), some (.inl (nI c))], [.inl (nI (sG S)), .inl (nI c)], (I, J, R)) _
    refine dn_if rfl rfl rfl (fun (c0 : (nI (sG S)) ≤ (nI c)) => ?_) (fun (c0 : ¬ (nI (sG S)) ≤ (nI c)) => ?_)
    · exact absurd c0 (nI_ge (by omega) (by omega))
    · show tkDn tm_180 (12, [some (.inr (.inr (6, 0, 0))), some (.inl t), some (.inl lt), some (.inl (nI c))], [], (I, J, R)) _
      have hg : c < sG S := by omega
      have hf := w.fM (w.gl hg)
      have he_ := w.eM (w.gl hg)
      have hgl := w.gl hg
      have e9 := hP.gl w hg
      have e7 := hP.hi w hgl
      refine dn_run 1 (show tkDn tm_180 (13, [some (.inr (.inr (6, 0, 0))), some (.inl t), some (.inl lt), some (.inl (nI c))], [.inl lt], (I, J, R)) _ from ?_)
      refine dn_if rfl rfl rfl (fun (c1 : ¬ lt = 0) => ?_) (fun (c1 : lt = 0) => ?_)
      · show tkDn tm_180 (66, [some (.inr (.inr (6, 0, 0))), some (.inl t), some (.inl lt), some (.inl (nI c))], [], (I, J, R)) _
        refine dn_run 5 (show tkDn tm_180 (4, [some (.inr (.inr (6, 0, 0))), some (.inl t), some (.inl 1), some (.inl ((nI c) + 1))], [], (I, J, R)) _ from ?_)
        rw [nI_1]
        exact ih (c + 1) 1 (by omega) (Or.inr rfl) ⟨fun _ => h.mp (Or.inl (hl.resolve_left c1)), fun _ => Or.inl rfl⟩
      · show tkDn tm_180 (16, [some (.inr (.inr (6, 0, 0))), some (.inl t), some (.inl lt), some (.inl (nI c))], [], (I, J, R)) _
        refine dn_run 3 (show tkDn tm_180 (19, [some (.inr (.inr (6, 0, 0))), some (.inl t), some (.inl lt), some (.inl (nI c))], [.inl (nI c), .inr (.inr (6, 0, 0)), .inr (.inr (6, 0, 0))], (I, J, R)) _ from ?_)
        refine dn_call rfl rfl rfl rfl rfl (sm_end hP w hg ?_)
        show tkDn tm_180 (22, [some (.inr (.inr (6, 0, 0))), some (.inl t), some (.inl lt), some (.inl (nI c))], [.inl (nI (se S (sgl S c))), .inr (.inr (6, 0, 0))], (I, J, R)) _
        refine dn_call rfl rfl rfl rfl rfl (sm_hasCome hT hO (by omega) ?_)
        show tkDn tm_180 (25, [some (.inr (.inr (6, 0, 0))), some (.inl t), some (.inl lt), some (.inl (nI c))], [.inl (if T (se S (sgl S c)) = -9 then 0 else 1)], (I, J, R)) _
        refine dn_if rfl rfl rfl (fun (c2 : ¬ (if T (se S (sgl S c)) = -9 then 0 else 1) = 0) => ?_) (fun (c2 : (if T (se S (sgl S c)) = -9 then 0 else 1) = 0) => ?_)
        · show tkDn tm_180 (70, [some (.inr (.inr (6, 0, 0))), some (.inl t), some (.inl lt), some (.inl (nI c))], [], (I, J, R)) _
          refine dn_run 4 (show tkDn tm_180 (4, [some (.inr (.inr (6, 0, 0))), some (.inl t), some (.inl 0), some (.inl ((nI c) + 1))], [], (I, J, R)) _ from ?_)
          rw [nI_1]
          have z1 := (show ltF S T t (n + 1) c = ltF S T t n (c + 1) from if_neg (fun q => c2 (ite01.mpr q.1.2)))
          rw [z1] at h
          exact ih (c + 1) 0 (by omega) (Or.inl rfl) ⟨fun q => h.mp (Or.inr (q.resolve_left (by decide))), fun q => Or.inr ((h.mpr q).resolve_left (fun z => by rw [c1] at z; exact absurd z (by decide)))⟩
        · show tkDn tm_180 (28, [some (.inr (.inr (6, 0, 0))), some (.inl t), some (.inl lt), some (.inl (nI c))], [], (I, J, R)) _
          refine dn_run 3 (show tkDn tm_180 (31, [some (.inr (.inr (6, 0, 0))), some (.inl t), some (.inl lt), some (.inl (nI c))], [.inl (nI c), .inr (.inr (6, 0, 0)), .inr (.inr (6, 0, 0))], (I, J, R)) _ from ?_)
          refine dn_call rfl rfl rfl rfl rfl (sm_begin hP w hg ?_)
          show tkDn tm_180 (34, [some (.inr (.inr (6, 0, 0))), some (.inl t), some (.inl lt), some (.inl (nI c))], [.inl (nI (sf S (sgl S c))), .inr (.inr (6, 0, 0))], (I, J, R)) _
          refine dn_call rfl rfl rfl rfl rfl (sm_hasCome hT hO (by omega) ?_)
          show tkDn tm_180 (37, [some (.inr (.inr (6, 0, 0))), some (.inl t), some (.inl lt), some (.inl (nI c))], [.inl (if T (sf S (sgl S c)) = -9 then 0 else 1)], (I, J, R)) _
          refine dn_if rfl rfl rfl (fun (c3 : (if T (sf S (sgl S c)) = -9 then 0 else 1) = 0) => ?_) (fun (c3 : ¬ (if T (sf S (sgl S c)) = -9 then 0 else 1) = 0) => ?_)
          · show tkDn tm_180 (70, [some (.inr (.inr (6, 0, 0))), some (.inl t), some (.inl lt), some (.inl (nI c))], [], (I, J, R)) _
            refine dn_run 4 (show tkDn tm_180 (4, [some (.inr (.inr (6, 0, 0))), some (.inl t), some (.inl 0), some (.inl ((nI c) + 1))], [], (I, J, R)) _ from ?_)
            rw [nI_1]
            have z1 := (show ltF S T t (n + 1) c = ltF S T t n (c + 1) from if_neg (fun q => q.1.1 (ite01.mp c3)))
            rw [z1] at h
            exact ih (c + 1) 0 (by omega) (Or.inl rfl) ⟨fun q => h.mp (Or.inr (q.resolve_left (by decide))), fun q => Or.inr ((h.mpr q).resolve_left (fun z => by rw [c1] at z; exact absurd z (by decide)))⟩
          · show tkDn tm_180 (40, [some (.inr (.inr (6, 0, 0))), some (.inl t), some (.inl lt), some (.inl (nI c))], [], (I, J, R)) _
            refine dn_run 5 (show tkDn tm_180 (47, [some (.inr (.inr (6, 0, 0))), some (.inl t), some (.inl lt), some (.inl (nI c))], [.inl (nI c), .inr (.inr (6, 0, 0)), .inr (.inr (6, 0, 33)), .inl t], (I, J, R)) _ from ?_)
            refine dn_call rfl rfl rfl rfl rfl (sm_begin hP w hg ?_)
            show tkDn tm_180 (50, [some (.inr (.inr (6, 0, 0))), some (.inl t), some (.inl lt), some (.inl (nI c))], [.inl (nI (sf S (sgl S c))), .inr (.inr (6, 0, 33)), .inl t], (I, J, R)) _
            refine dn_run 9 (show (vp_in (nI (sf S (sgl S c))) 16) ∧ (vp_in (nI c) 6) ∧ (vp_in (I 6 0 9 ((nI c).toNatClampNeg)) 60) ∧ tkDn tm_180 (63, [some (.inr (.inr (6, 0, 0))), some (.inl t), some (.inl lt), some (.inl (nI c))], [.inl (I 6 0 7 ((I 6 0 9 ((nI c).toNatClampNeg)).toNatClampNeg)), .inl (t - (I 6 0 33 ((nI (sf S (sgl S c))).toNatClampNeg)))], (I, J, R)) _ from ⟨vp_in_nI (by omega) (by omega), vp_in_nI (by omega) (by omega), by rw [e9]; exact vp_in_nI (by omega) (by omega), ?_⟩)
            rw [e9, e7, nI_clamp (show sf S (sgl S c) < 2 ^ 31 by omega), hT (sf S (sgl S c)) (by omega)]
            show tkDn tm_180 (63, [some (.inr (.inr (6, 0, 0))), some (.inl t), some (.inl lt), some (.inl (nI c))], [.inl (shi S (sgl S c)), .inl (t - T (sf S (sgl S c)))], (I, J, R)) _
            refine dn_if rfl rfl rfl (fun (c4 : (t - T (sf S (sgl S c))) ≤ (shi S (sgl S c))) => ?_) (fun (c4 : ¬ (t - T (sf S (sgl S c))) ≤ (shi S (sgl S c))) => ?_)
            · show tkDn tm_180 (70, [some (.inr (.inr (6, 0, 0))), some (.inl t), some (.inl lt), some (.inl (nI c))], [], (I, J, R)) _
              refine dn_run 4 (show tkDn tm_180 (4, [some (.inr (.inr (6, 0, 0))), some (.inl t), some (.inl 0), some (.inl ((nI c) + 1))], [], (I, J, R)) _ from ?_)
              rw [nI_1]
              have z1 := (show ltF S T t (n + 1) c = ltF S T t n (c + 1) from if_neg (fun q => absurd q.2 (Int32.not_lt.mpr c4)))
              rw [z1] at h
              exact ih (c + 1) 0 (by omega) (Or.inl rfl) ⟨fun q => h.mp (Or.inr (q.resolve_left (by decide))), fun q => Or.inr ((h.mpr q).resolve_left (fun z => by rw [c1] at z; exact absurd z (by decide)))⟩
            · show tkDn tm_180 (66, [some (.inr (.inr (6, 0, 0))), some (.inl t), some (.inl lt), some (.inl (nI c))], [], (I, J, R)) _
              refine dn_run 5 (show tkDn tm_180 (4, [some (.inr (.inr (6, 0, 0))), some (.inl t), some (.inl 1), some (.inl ((nI c) + 1))], [], (I, J, R)) _ from ?_)
              rw [nI_1]
              exact ih (c + 1) 1 (by omega) (Or.inr rfl) ⟨fun _ => h.mp (Or.inr (if_pos ⟨⟨fun q => c3 (ite01.mpr q), ite01.mp c2⟩, Int32.not_le.mp c4⟩)), fun _ => Or.inl rfl⟩
set_option maxRecDepth 8000 in
theorem sm_isLate {I : tkI} {J : tkJ} {R : Nat → Nat} {Q : tkQ} {T : Nat → Int32} (hT : ∀ j, j < 16 → I 6 0 33 j = T j) (hO : TOk T) {S : tkS} (hP : NetP (I 6 0) S) (w : WF S) {t : Int32} (hQ : Q (some (.inl (if ltF S T t (sG S) 0 = true then 1 else 0))) (I, J, R)) : tkDn tm_180 (0, [some (.inr (.inr (6, 0, 0))), some (.inl t), none, none], [], (I, J, R)) Q := by
  refine dn_run 4 (show tkDn tm_180 (4, [some (.inr (.inr (6, 0, 0))), some (.inl t), some (.inl 0), some (.inl 0)], [], (I, J, R)) _ from ?_)
  exact sm_lt_loop hT hO hP w hQ (sG S) 0 0 (Nat.zero_add _) (Or.inl rfl) ⟨fun q => q.resolve_left (by decide), fun q => Or.inr q⟩
set_option maxRecDepth 8000 in
theorem sm_ht1 {I : tkI} {J : tkJ} {R : Nat → Nat} {Q : tkQ} {T : Nat → Int32} (hT : ∀ j, j < 16 → I 6 0 33 j = T j) (hO : TOk T) {S : tkS} (hP : NetP (I 6 0) S) (w : WF S) {e v : tkD} {N0 : Nat → Nat → Int64} (he : RowP (sM S) (N0 24) e) (hv : WRow (N0 25) v) {m : Nat} (hm : m < sM S) (hF : ∀ N, (∀ s, s ≠ 0 → N s = N0 s) → blE e T m (sM S) 0 0 = none → Q (some (.inl 0)) (I, tk_so J 6 0 N, R)) (hK : ∀ N E o3 o5, (∀ s, s ≠ 0 → N s = N0 s) → N 0 33 = E → N 0 34 = laF e T m (sM S) 0 4611686018427387904 → blE e T m (sM S) 0 0 = some E → tkDn tm_181 (198, [some (.inr (.inr (6, 0, 0))), some (.inl (nI m)), some (.inl (nI (sM S))), o3, none, o5, none], [], (I, tk_so J 6 0 N, R)) Q) : ∀ n c N E Lt o3 o5, c + n = sM S → (∀ s, s ≠ 0 → N s = N0 s) → N 0 33 = E → N 0 34 = Lt → blE e T m n c E = blE e T m (sM S) 0 0 → laF e T m n c Lt = laF e T m (sM S) 0 4611686018427387904 → tkDn tm_181 (32, [some (.inr (.inr (6, 0, 0))), some (.inl (nI m)), some (.inl (nI c)), o3, none, o5, none], [], (I, tk_so J 6 0 N, R)) Q := by
  have hM16 := w.1
  have hL60 := w.2.1
  have hG6 := w.2.2.1
  have hM := hP.m
  have hG := hP.g
  have hL := hP.l
  intro n
  induction n with
  | zero =>
    intro c N E Lt o3 o5 hc hN hE hLt h1 h2
    show tkDn tm_181 (32, [some (.inr (.inr (6, 0, 0))), some (.inl (nI m)), some (.inl (nI c)), o3, none, o5, none], [], (I, tk_so J 6 0 N, R)) _
    refine dn_run 3 (show tkDn tm_181 (37, [some (.inr (.inr (6, 0, 0))), some (.inl (nI m)), some (.inl (nI c)), o3, none, o5, none], [.inl (I 6 0 0 0), .inl (nI c)], (I, tk_so J 6 0 N, R)) _ from ?_)
    rw [hM]
    show tkDn tm_181 (37, [some (.inr (.inr (6, 0, 0))), some (.inl (nI m)), some (.inl (nI c)), o3, none, o5, none], [.inl (nI (sM S)), .inl (nI c)], (I, tk_so J 6 0 N, R)) _
    refine dn_if rfl rfl rfl (fun (c0 : (nI (sM S)) ≤ (nI c)) => ?_) (fun (c0 : ¬ (nI (sM S)) ≤ (nI c)) => ?_)
    · show tkDn tm_181 (198, [some (.inr (.inr (6, 0, 0))), some (.inl (nI m)), some (.inl (nI c)), o3, none, o5, none], [], (I, tk_so J 6 0 N, R)) _
      rw [show c = sM S by omega]
      exact hK N E _ _ hN hE (hLt.trans h2) h1.symm
    · exact absurd (nI_le (by omega) (by omega)) c0
  | succ n ih =>
    intro c N E Lt o3 o5 hc hN hE hLt h1 h2
    show tkDn tm_181 (32, [some (.inr (.inr (6, 0, 0))), some (.inl (nI m)), some (.inl (nI c)), o3, none, o5, none], [], (I, tk_so J 6 0 N, R)) _
    refine dn_run 3 (show tkDn tm_181 (37, [some (.inr (.inr (6, 0, 0))), some (.inl (nI m)), some (.inl (nI c)), o3, none, o5, none], [.inl (I 6 0 0 0), .inl (nI c)], (I, tk_so J 6 0 N, R)) _ from ?_)
    rw [hM]
    show tkDn tm_181 (37, [some (.inr (.inr (6, 0, 0))), some (.inl (nI m)), some (.inl (nI c)), o3, none, o5, none], [.inl (nI (sM S)), .inl (nI c)], (I, tk_so J 6 0 N, R)) _
    refine dn_if rfl rfl rfl (fun (c0 : (nI (sM S)) ≤ (nI c)) => ?_) (fun (c0 : ¬ (nI (sM S)) ≤ (nI c)) => ?_)
    · exact absurd c0 (nI_ge (by omega) (by omega))
    · show tkDn tm_181 (40, [some (.inr (.inr (6, 0, 0))), some (.inl (nI m)), some (.inl (nI c)), o3, none, o5, none], [], (I, tk_so J 6 0 N, R)) _
      have heN : RowP (sM S) (N 24) e := by rw [hN 24 (by decide)]; exact he
      refine dn_run 9 (show (vp_in ((16 * (nI m)) + (nI c)) 256) ∧ tkDn tm_181 (52, [some (.inr (.inr (6, 0, 0))), some (.inl (nI m)), some (.inl (nI c)), some (.inr (.inl (N 24 (((16 * (nI m)) + (nI c)).toNatClampNeg)))), none, o5, none], [], (I, tk_so J 6 0 N, R)) _ from ⟨by rw [ix16']; exact vp_in_nI (by omega) (by omega), ?_⟩)
      rw [ix16', heN.at hM16 (by omega) (by omega)]
      show tkDn tm_181 (52, [some (.inr (.inr (6, 0, 0))), some (.inl (nI m)), some (.inl (nI c)), some (.inr (.inl (e m c))), none, o5, none], [], (I, tk_so J 6 0 N, R)) _
      refine dn_run 11 (show (vp_in ((16 * (nI c)) + (nI m)) 256) ∧ tkDn tm_181 (67, [some (.inr (.inr (6, 0, 0))), some (.inl (nI m)), some (.inl (nI c)), some (.inr (.inl (e m c))), none, some (.inr (.inl (N 24 (((16 * (nI c)) + (nI m)).toNatClampNeg)))), none], [.inl (nI m), .inl (nI c)], (I, tk_so J 6 0 N, R)) _ from ⟨by rw [ix16']; exact vp_in_nI (by omega) (by omega), ?_⟩)
      rw [ix16', heN.at hM16 (by omega) (by omega)]
      show tkDn tm_181 (67, [some (.inr (.inr (6, 0, 0))), some (.inl (nI m)), some (.inl (nI c)), some (.inr (.inl (e m c))), none, some (.inr (.inl (e c m))), none], [.inl (nI m), .inl (nI c)], (I, tk_so J 6 0 N, R)) _
      refine dn_if rfl rfl rfl (fun (c1 : (nI c) = (nI m)) => ?_) (fun (c1 : ¬ (nI c) = (nI m)) => ?_)
      · show tkDn tm_181 (86, [some (.inr (.inr (6, 0, 0))), some (.inl (nI m)), some (.inl (nI c)), some (.inr (.inl (e m c))), none, some (.inr (.inl (e c m))), none], [], (I, tk_so J 6 0 N, R)) _
        refine dn_run 2 (show tkDn tm_181 (88, [some (.inr (.inr (6, 0, 0))), some (.inl (nI m)), some (.inl (nI c)), some (.inr (.inl (e m c))), none, some (.inr (.inl (e c m))), none], [.inl (nI m), .inl (nI c)], (I, tk_so J 6 0 N, R)) _ from ?_)
        refine dn_if rfl rfl rfl (fun (d1 : (nI c) = (nI m)) => ?_) (fun (d1 : ¬ (nI c) = (nI m)) => ?_)
        · show tkDn tm_181 (192, [some (.inr (.inr (6, 0, 0))), some (.inl (nI m)), some (.inl (nI c)), some (.inr (.inl (e m c))), none, some (.inr (.inl (e c m))), none], [], (I, tk_so J 6 0 N, R)) _
          refine dn_run 2 (show tkDn tm_181 (32, [some (.inr (.inr (6, 0, 0))), some (.inl (nI m)), some (.inl ((nI c) + 1)), some (.inr (.inl (e m c))), none, some (.inr (.inl (e c m))), none], [], (I, tk_so J 6 0 N, R)) _ from ?_)
          rw [nI_1]
          exact ih (c + 1) N E Lt _ _ (by omega) hN hE hLt ((show blE e T m (n + 1) c E = blE e T m n (c + 1) E from if_pos (Or.inl ((nI_eq (by omega) (by omega)).mp c1))).symm.trans h1) ((show laF e T m (n + 1) c Lt = laF e T m n (c + 1) Lt from if_pos (Or.inl ((nI_eq (by omega) (by omega)).mp c1))).symm.trans h2)
        · exact absurd (by rw [(nI_eq (by omega) (by omega)).mp c1]) d1
      · show tkDn tm_181 (70, [some (.inr (.inr (6, 0, 0))), some (.inl (nI m)), some (.inl (nI c)), some (.inr (.inl (e m c))), none, some (.inr (.inl (e c m))), none], [], (I, tk_so J 6 0 N, R)) _
        have cm : ¬ c = m := fun q => c1 (by rw [q])
        refine dn_run 2 (show tkDn tm_181 (72, [some (.inr (.inr (6, 0, 0))), some (.inl (nI m)), some (.inl (nI c)), some (.inr (.inl (e m c))), none, some (.inr (.inl (e c m))), none], [.inl (nI c), .inr (.inr (6, 0, 0))], (I, tk_so J 6 0 N, R)) _ from ?_)
        refine dn_call rfl rfl rfl rfl rfl (sm_hasCome hT hO (by omega) ?_)
        show tkDn tm_181 (75, [some (.inr (.inr (6, 0, 0))), some (.inl (nI m)), some (.inl (nI c)), some (.inr (.inl (e m c))), none, some (.inr (.inl (e c m))), none], [.inl (if T c = -9 then 0 else 1)], (I, tk_so J 6 0 N, R)) _
        refine dn_if rfl rfl rfl (fun (c2 : ¬ (if T c = -9 then 0 else 1) = 0) => ?_) (fun (c2 : (if T c = -9 then 0 else 1) = 0) => ?_)
        · show tkDn tm_181 (86, [some (.inr (.inr (6, 0, 0))), some (.inl (nI m)), some (.inl (nI c)), some (.inr (.inl (e m c))), none, some (.inr (.inl (e c m))), none], [], (I, tk_so J 6 0 N, R)) _
          have hh : T c = -9 → ¬ e m c < 0 := fun q => absurd (ite01.mpr q) c2
          refine dn_run 2 (show tkDn tm_181 (88, [some (.inr (.inr (6, 0, 0))), some (.inl (nI m)), some (.inl (nI c)), some (.inr (.inl (e m c))), none, some (.inr (.inl (e c m))), none], [.inl (nI m), .inl (nI c)], (I, tk_so J 6 0 N, R)) _ from ?_)
          refine dn_if rfl rfl rfl (fun (d1 : (nI c) = (nI m)) => ?_) (fun (d1 : ¬ (nI c) = (nI m)) => ?_)
          · exact absurd ((nI_eq (by omega) (by omega)).mp d1) cm
          · show tkDn tm_181 (91, [some (.inr (.inr (6, 0, 0))), some (.inl (nI m)), some (.inl (nI c)), some (.inr (.inl (e m c))), none, some (.inr (.inl (e c m))), none], [], (I, tk_so J 6 0 N, R)) _
            refine dn_run 2 (show tkDn tm_181 (93, [some (.inr (.inr (6, 0, 0))), some (.inl (nI m)), some (.inl (nI c)), some (.inr (.inl (e m c))), none, some (.inr (.inl (e c m))), none], [.inl (nI c), .inr (.inr (6, 0, 0))], (I, tk_so J 6 0 N, R)) _ from ?_)
            refine dn_call rfl rfl rfl rfl rfl (sm_hasCome hT hO (by omega) ?_)
            show tkDn tm_181 (96, [some (.inr (.inr (6, 0, 0))), some (.inl (nI m)), some (.inl (nI c)), some (.inr (.inl (e m c))), none, some (.inr (.inl (e c m))), none], [.inl (if T c = -9 then 0 else 1)], (I, tk_so J 6 0 N, R)) _
            refine dn_if rfl rfl rfl (fun (d2 : (if T c = -9 then 0 else 1) = 0) => ?_) (fun (d2 : ¬ (if T c = -9 then 0 else 1) = 0) => ?_)
            · show tkDn tm_181 (192, [some (.inr (.inr (6, 0, 0))), some (.inl (nI m)), some (.inl (nI c)), some (.inr (.inl (e m c))), none, some (.inr (.inl (e c m))), none], [], (I, tk_so J 6 0 N, R)) _
              have wE : blE e T m (n + 1) c E = blE e T m n (c + 1) E := by
                by_cases q : e m c = 4611686018427387904
                · exact if_pos (Or.inr q)
                · exact (if_neg (fun z => z.elim cm q)).trans ((if_pos (ite01.mp d2)).trans (if_neg (fun z => hh (ite01.mp d2) z)))
              refine dn_run 2 (show tkDn tm_181 (32, [some (.inr (.inr (6, 0, 0))), some (.inl (nI m)), some (.inl ((nI c) + 1)), some (.inr (.inl (e m c))), none, some (.inr (.inl (e c m))), none], [], (I, tk_so J 6 0 N, R)) _ from ?_)
              rw [nI_1]
              exact ih (c + 1) N E Lt _ _ (by omega) hN hE hLt ((show blE e T m (n + 1) c E = blE e T m n (c + 1) E from wE).symm.trans h1) ((show laF e T m (n + 1) c Lt = laF e T m n (c + 1) Lt from if_pos (Or.inr (Or.inl (ite01.mp d2)))).symm.trans h2)
            · show tkDn tm_181 (99, [some (.inr (.inr (6, 0, 0))), some (.inl (nI m)), some (.inl (nI c)), some (.inr (.inl (e m c))), none, some (.inr (.inl (e c m))), none], [], (I, tk_so J 6 0 N, R)) _
              have hcm : ¬ T c = -9 := fun q => d2 (ite01.mpr q)
              have tail : ∀ N E', (∀ s, s ≠ 0 → N s = N0 s) → N 0 33 = E' → N 0 34 = Lt → blE e T m (n + 1) c E = blE e T m n (c + 1) E' → tkDn tm_181 (144, [some (.inr (.inr (6, 0, 0))), some (.inl (nI m)), some (.inl (nI c)), some (.inr (.inl (e m c))), none, some (.inr (.inl (e c m))), none], [], (I, tk_so J 6 0 N, R)) Q := by
                intro N E' hN hE hLt hS
                show tkDn tm_181 (144, [some (.inr (.inr (6, 0, 0))), some (.inl (nI m)), some (.inl (nI c)), some (.inr (.inl (e m c))), none, some (.inr (.inl (e c m))), none], [], (I, tk_so J 6 0 N, R)) _
                refine dn_run 4 (show tkDn tm_181 (151, [some (.inr (.inr (6, 0, 0))), some (.inl (nI m)), some (.inl (nI c)), some (.inr (.inl (e m c))), none, some (.inr (.inl (e c m))), none], [.inl (lg_cmp (e c m) 4611686018427387904), .inr (.inr (6, 0, 0))], (I, tk_so J 6 0 N, R)) _ from ?_)
                refine dn_if rfl rfl rfl (fun (b1 : (lg_cmp (e c m) 4611686018427387904) = 0) => ?_) (fun (b1 : ¬ (lg_cmp (e c m) 4611686018427387904) = 0) => ?_)
                · show tkDn tm_181 (185, [some (.inr (.inr (6, 0, 0))), some (.inl (nI m)), some (.inl (nI c)), some (.inr (.inl (e m c))), none, some (.inr (.inl (e c m))), none], [.inr (.inr (6, 0, 0))], (I, tk_so J 6 0 N, R)) _
                  refine dn_run 5 (show tkDn tm_181 (32, [some (.inr (.inr (6, 0, 0))), some (.inl (nI m)), some (.inl ((nI c) + 1)), some (.inr (.inl (e m c))), none, some (.inr (.inl (e c m))), none], [], (I, tk_so (tk_so J 6 0 N) 6 0 (tk_u2 N 0 34 (N 0 34)), R)) _ from ?_)
                  rw [tk_so_so]
                  rw [nI_1, hLt]
                  exact ih (c + 1) _ E' Lt _ _ (by omega) (fun s hs => by rw [tk_u2_ne hs]; exact hN s hs) (by rw [tk_u2_0 (by decide)]; exact hE) (by rw [tk_u2_1]) (hS.symm.trans h1) ((show laF e T m (n + 1) c Lt = laF e T m n (c + 1) Lt from if_pos (Or.inr (Or.inr ((lg_cmp_eq _ _).mp b1)))).symm.trans h2)
                · show tkDn tm_181 (154, [some (.inr (.inr (6, 0, 0))), some (.inl (nI m)), some (.inl (nI c)), some (.inr (.inl (e m c))), none, some (.inr (.inl (e c m))), none], [.inr (.inr (6, 0, 0))], (I, tk_so J 6 0 N, R)) _
                  refine dn_run 10 (show (vp_in (nI c) 16) ∧ tkDn tm_181 (169, [some (.inr (.inr (6, 0, 0))), some (.inl (nI m)), some (.inl (nI c)), some (.inr (.inl (e m c))), none, some (.inr (.inl (e c m))), none], [.inl (lg_cmp ((((I 6 0 33 ((nI c).toNatClampNeg)) : Int32).toInt64) + (e c m)) (N 0 34)), .inr (.inr (6, 0, 0))], (I, tk_so J 6 0 N, R)) _ from ⟨vp_in_nI (by omega) (by omega), ?_⟩)
                  rw [nI_clamp (show c < 2 ^ 31 by omega), hT c (by omega), hLt]
                  show tkDn tm_181 (169, [some (.inr (.inr (6, 0, 0))), some (.inl (nI m)), some (.inl (nI c)), some (.inr (.inl (e m c))), none, some (.inr (.inl (e c m))), none], [.inl (lg_cmp ((T c).toInt64 + e c m) Lt), .inr (.inr (6, 0, 0))], (I, tk_so J 6 0 N, R)) _
                  refine dn_if rfl rfl rfl (fun (b2 : 0 ≤ (lg_cmp ((T c).toInt64 + e c m) Lt)) => ?_) (fun (b2 : ¬ 0 ≤ (lg_cmp ((T c).toInt64 + e c m) Lt)) => ?_)
                  · show tkDn tm_181 (185, [some (.inr (.inr (6, 0, 0))), some (.inl (nI m)), some (.inl (nI c)), some (.inr (.inl (e m c))), none, some (.inr (.inl (e c m))), none], [.inr (.inr (6, 0, 0))], (I, tk_so J 6 0 N, R)) _
                    refine dn_run 5 (show tkDn tm_181 (32, [some (.inr (.inr (6, 0, 0))), some (.inl (nI m)), some (.inl ((nI c) + 1)), some (.inr (.inl (e m c))), none, some (.inr (.inl (e c m))), none], [], (I, tk_so (tk_so J 6 0 N) 6 0 (tk_u2 N 0 34 (N 0 34)), R)) _ from ?_)
                    rw [tk_so_so]
                    rw [nI_1, hLt]
                    exact ih (c + 1) _ E' Lt _ _ (by omega) (fun s hs => by rw [tk_u2_ne hs]; exact hN s hs) (by rw [tk_u2_0 (by decide)]; exact hE) (by rw [tk_u2_1]) (hS.symm.trans h1) ((show laF e T m (n + 1) c Lt = laF e T m n (c + 1) Lt from (if_neg (fun q => q.elim cm (fun q => q.elim hcm (fun q => b1 ((lg_cmp_eq _ _).mpr q))))).trans (by rw [mn_ge ((lg_cmp_ge _ _).mp b2)])).symm.trans h2)
                  · show tkDn tm_181 (172, [some (.inr (.inr (6, 0, 0))), some (.inl (nI m)), some (.inl (nI c)), some (.inr (.inl (e m c))), none, some (.inr (.inl (e c m))), none], [.inr (.inr (6, 0, 0))], (I, tk_so J 6 0 N, R)) _
                    refine dn_run 11 (show (vp_in (nI c) 16) ∧ tkDn tm_181 (32, [some (.inr (.inr (6, 0, 0))), some (.inl (nI m)), some (.inl ((nI c) + 1)), some (.inr (.inl (e m c))), none, some (.inr (.inl (e c m))), none], [], (I, tk_so (tk_so J 6 0 N) 6 0 (tk_u2 N 0 34 ((((I 6 0 33 ((nI c).toNatClampNeg)) : Int32).toInt64) + (e c m))), R)) _ from ⟨vp_in_nI (by omega) (by omega), ?_⟩)
                    rw [tk_so_so]
                    rw [nI_1, nI_clamp (show c < 2 ^ 31 by omega), hT c (by omega)]
                    exact ih (c + 1) _ E' ((T c).toInt64 + e c m) _ _ (by omega) (fun s hs => by rw [tk_u2_ne hs]; exact hN s hs) (by rw [tk_u2_0 (by decide)]; exact hE) (by rw [tk_u2_1]) (hS.symm.trans h1) ((show laF e T m (n + 1) c Lt = laF e T m n (c + 1) ((T c).toInt64 + e c m) from (if_neg (fun q => q.elim cm (fun q => q.elim hcm (fun q => b1 ((lg_cmp_eq _ _).mpr q))))).trans (by rw [mn_lt (Int64.not_le.mp (fun q => b2 ((lg_cmp_ge _ _).mpr q)))])).symm.trans h2)
              refine dn_run 4 (show tkDn tm_181 (105, [some (.inr (.inr (6, 0, 0))), some (.inl (nI m)), some (.inl (nI c)), some (.inr (.inl (e m c))), none, some (.inr (.inl (e c m))), none], [.inl (lg_cmp (e m c) 4611686018427387904), .inr (.inr (6, 0, 0))], (I, tk_so J 6 0 N, R)) _ from ?_)
              refine dn_if rfl rfl rfl (fun (a1 : (lg_cmp (e m c) 4611686018427387904) = 0) => ?_) (fun (a1 : ¬ (lg_cmp (e m c) 4611686018427387904) = 0) => ?_)
              · show tkDn tm_181 (137, [some (.inr (.inr (6, 0, 0))), some (.inl (nI m)), some (.inl (nI c)), some (.inr (.inl (e m c))), none, some (.inr (.inl (e c m))), none], [.inr (.inr (6, 0, 0))], (I, tk_so J 6 0 N, R)) _
                refine dn_run 3 (show tkDn tm_181 (144, [some (.inr (.inr (6, 0, 0))), some (.inl (nI m)), some (.inl (nI c)), some (.inr (.inl (e m c))), none, some (.inr (.inl (e c m))), none], [], (I, tk_so (tk_so J 6 0 N) 6 0 (tk_u2 N 0 33 (N 0 33)), R)) _ from ?_)
                rw [tk_so_so]
                rw [hE]
                exact tail _ E (fun s hs => by rw [tk_u2_ne hs]; exact hN s hs) (by rw [tk_u2_1]) (by rw [tk_u2_0 (by decide)]; exact hLt) (if_pos (Or.inr ((lg_cmp_eq _ _).mp a1)))
              · show tkDn tm_181 (108, [some (.inr (.inr (6, 0, 0))), some (.inl (nI m)), some (.inl (nI c)), some (.inr (.inl (e m c))), none, some (.inr (.inl (e c m))), none], [.inr (.inr (6, 0, 0))], (I, tk_so J 6 0 N, R)) _
                refine dn_run 10 (show (vp_in (nI c) 16) ∧ tkDn tm_181 (122, [some (.inr (.inr (6, 0, 0))), some (.inl (nI m)), some (.inl (nI c)), some (.inr (.inl (e m c))), none, some (.inr (.inl (e c m))), none], [.inl (lg_cmp ((((I 6 0 33 ((nI c).toNatClampNeg)) : Int32).toInt64) - (e m c)) (N 0 33)), .inr (.inr (6, 0, 0))], (I, tk_so J 6 0 N, R)) _ from ⟨vp_in_nI (by omega) (by omega), ?_⟩)
                rw [nI_clamp (show c < 2 ^ 31 by omega), hT c (by omega), hE]
                show tkDn tm_181 (122, [some (.inr (.inr (6, 0, 0))), some (.inl (nI m)), some (.inl (nI c)), some (.inr (.inl (e m c))), none, some (.inr (.inl (e c m))), none], [.inl (lg_cmp ((T c).toInt64 - e m c) E), .inr (.inr (6, 0, 0))], (I, tk_so J 6 0 N, R)) _
                refine dn_if rfl rfl rfl (fun (a2 : (lg_cmp ((T c).toInt64 - e m c) E) ≤ 0) => ?_) (fun (a2 : ¬ (lg_cmp ((T c).toInt64 - e m c) E) ≤ 0) => ?_)
                · show tkDn tm_181 (137, [some (.inr (.inr (6, 0, 0))), some (.inl (nI m)), some (.inl (nI c)), some (.inr (.inl (e m c))), none, some (.inr (.inl (e c m))), none], [.inr (.inr (6, 0, 0))], (I, tk_so J 6 0 N, R)) _
                  refine dn_run 3 (show tkDn tm_181 (144, [some (.inr (.inr (6, 0, 0))), some (.inl (nI m)), some (.inl (nI c)), some (.inr (.inl (e m c))), none, some (.inr (.inl (e c m))), none], [], (I, tk_so (tk_so J 6 0 N) 6 0 (tk_u2 N 0 33 (N 0 33)), R)) _ from ?_)
                  rw [tk_so_so]
                  rw [hE]
                  exact tail _ E (fun s hs => by rw [tk_u2_ne hs]; exact hN s hs) (by rw [tk_u2_1]) (by rw [tk_u2_0 (by decide)]; exact hLt) ((if_neg (fun q => q.elim cm (fun q => a1 ((lg_cmp_eq _ _).mpr q)))).trans ((if_neg hcm).trans (by rw [mx_le ((lg_cmp_le _ _).mp a2)])))
                · show tkDn tm_181 (125, [some (.inr (.inr (6, 0, 0))), some (.inl (nI m)), some (.inl (nI c)), some (.inr (.inl (e m c))), none, some (.inr (.inl (e c m))), none], [.inr (.inr (6, 0, 0))], (I, tk_so J 6 0 N, R)) _
                  refine dn_run 9 (show (vp_in (nI c) 16) ∧ tkDn tm_181 (144, [some (.inr (.inr (6, 0, 0))), some (.inl (nI m)), some (.inl (nI c)), some (.inr (.inl (e m c))), none, some (.inr (.inl (e c m))), none], [], (I, tk_so (tk_so J 6 0 N) 6 0 (tk_u2 N 0 33 ((((I 6 0 33 ((nI c).toNatClampNeg)) : Int32).toInt64) - (e m c))), R)) _ from ⟨vp_in_nI (by omega) (by omega), ?_⟩)
                  rw [tk_so_so]
                  rw [nI_clamp (show c < 2 ^ 31 by omega), hT c (by omega)]
                  exact tail _ ((T c).toInt64 - e m c) (fun s hs => by rw [tk_u2_ne hs]; exact hN s hs) (by rw [tk_u2_1]) (by rw [tk_u2_0 (by decide)]; exact hLt) ((if_neg (fun q => q.elim cm (fun q => a1 ((lg_cmp_eq _ _).mpr q)))).trans ((if_neg hcm).trans (by rw [mx_gt (Int64.not_le.mp (fun q => a2 ((lg_cmp_le _ _).mpr q)))])))
        · show tkDn tm_181 (78, [some (.inr (.inr (6, 0, 0))), some (.inl (nI m)), some (.inl (nI c)), some (.inr (.inl (e m c))), none, some (.inr (.inl (e c m))), none], [], (I, tk_so J 6 0 N, R)) _
          refine dn_run 3 (show tkDn tm_181 (81, [some (.inr (.inr (6, 0, 0))), some (.inl (nI m)), some (.inl (nI c)), some (.inr (.inl (e m c))), none, some (.inr (.inl (e c m))), none], [.inl (lg_cmp (e m c) 0)], (I, tk_so J 6 0 N, R)) _ from ?_)
          refine dn_if rfl rfl rfl (fun (c3 : 0 ≤ (lg_cmp (e m c) 0)) => ?_) (fun (c3 : ¬ 0 ≤ (lg_cmp (e m c) 0)) => ?_)
          · show tkDn tm_181 (86, [some (.inr (.inr (6, 0, 0))), some (.inl (nI m)), some (.inl (nI c)), some (.inr (.inl (e m c))), none, some (.inr (.inl (e c m))), none], [], (I, tk_so J 6 0 N, R)) _
            have hh : T c = -9 → ¬ e m c < 0 := fun _ => Int64.not_lt.mpr ((lg_cmp_ge _ _).mp c3)
            refine dn_run 2 (show tkDn tm_181 (88, [some (.inr (.inr (6, 0, 0))), some (.inl (nI m)), some (.inl (nI c)), some (.inr (.inl (e m c))), none, some (.inr (.inl (e c m))), none], [.inl (nI m), .inl (nI c)], (I, tk_so J 6 0 N, R)) _ from ?_)
            refine dn_if rfl rfl rfl (fun (d1 : (nI c) = (nI m)) => ?_) (fun (d1 : ¬ (nI c) = (nI m)) => ?_)
            · exact absurd ((nI_eq (by omega) (by omega)).mp d1) cm
            · show tkDn tm_181 (91, [some (.inr (.inr (6, 0, 0))), some (.inl (nI m)), some (.inl (nI c)), some (.inr (.inl (e m c))), none, some (.inr (.inl (e c m))), none], [], (I, tk_so J 6 0 N, R)) _
              refine dn_run 2 (show tkDn tm_181 (93, [some (.inr (.inr (6, 0, 0))), some (.inl (nI m)), some (.inl (nI c)), some (.inr (.inl (e m c))), none, some (.inr (.inl (e c m))), none], [.inl (nI c), .inr (.inr (6, 0, 0))], (I, tk_so J 6 0 N, R)) _ from ?_)
              refine dn_call rfl rfl rfl rfl rfl (sm_hasCome hT hO (by omega) ?_)
              show tkDn tm_181 (96, [some (.inr (.inr (6, 0, 0))), some (.inl (nI m)), some (.inl (nI c)), some (.inr (.inl (e m c))), none, some (.inr (.inl (e c m))), none], [.inl (if T c = -9 then 0 else 1)], (I, tk_so J 6 0 N, R)) _
              refine dn_if rfl rfl rfl (fun (d2 : (if T c = -9 then 0 else 1) = 0) => ?_) (fun (d2 : ¬ (if T c = -9 then 0 else 1) = 0) => ?_)
              · show tkDn tm_181 (192, [some (.inr (.inr (6, 0, 0))), some (.inl (nI m)), some (.inl (nI c)), some (.inr (.inl (e m c))), none, some (.inr (.inl (e c m))), none], [], (I, tk_so J 6 0 N, R)) _
                have wE : blE e T m (n + 1) c E = blE e T m n (c + 1) E := by
                  by_cases q : e m c = 4611686018427387904
                  · exact if_pos (Or.inr q)
                  · exact (if_neg (fun z => z.elim cm q)).trans ((if_pos (ite01.mp d2)).trans (if_neg (fun z => hh (ite01.mp d2) z)))
                refine dn_run 2 (show tkDn tm_181 (32, [some (.inr (.inr (6, 0, 0))), some (.inl (nI m)), some (.inl ((nI c) + 1)), some (.inr (.inl (e m c))), none, some (.inr (.inl (e c m))), none], [], (I, tk_so J 6 0 N, R)) _ from ?_)
                rw [nI_1]
                exact ih (c + 1) N E Lt _ _ (by omega) hN hE hLt ((show blE e T m (n + 1) c E = blE e T m n (c + 1) E from wE).symm.trans h1) ((show laF e T m (n + 1) c Lt = laF e T m n (c + 1) Lt from if_pos (Or.inr (Or.inl (ite01.mp d2)))).symm.trans h2)
              · show tkDn tm_181 (99, [some (.inr (.inr (6, 0, 0))), some (.inl (nI m)), some (.inl (nI c)), some (.inr (.inl (e m c))), none, some (.inr (.inl (e c m))), none], [], (I, tk_so J 6 0 N, R)) _
                have hcm : ¬ T c = -9 := fun q => d2 (ite01.mpr q)
                have tail : ∀ N E', (∀ s, s ≠ 0 → N s = N0 s) → N 0 33 = E' → N 0 34 = Lt → blE e T m (n + 1) c E = blE e T m n (c + 1) E' → tkDn tm_181 (144, [some (.inr (.inr (6, 0, 0))), some (.inl (nI m)), some (.inl (nI c)), some (.inr (.inl (e m c))), none, some (.inr (.inl (e c m))), none], [], (I, tk_so J 6 0 N, R)) Q := by
                  intro N E' hN hE hLt hS
                  show tkDn tm_181 (144, [some (.inr (.inr (6, 0, 0))), some (.inl (nI m)), some (.inl (nI c)), some (.inr (.inl (e m c))), none, some (.inr (.inl (e c m))), none], [], (I, tk_so J 6 0 N, R)) _
                  refine dn_run 4 (show tkDn tm_181 (151, [some (.inr (.inr (6, 0, 0))), some (.inl (nI m)), some (.inl (nI c)), some (.inr (.inl (e m c))), none, some (.inr (.inl (e c m))), none], [.inl (lg_cmp (e c m) 4611686018427387904), .inr (.inr (6, 0, 0))], (I, tk_so J 6 0 N, R)) _ from ?_)
                  refine dn_if rfl rfl rfl (fun (b1 : (lg_cmp (e c m) 4611686018427387904) = 0) => ?_) (fun (b1 : ¬ (lg_cmp (e c m) 4611686018427387904) = 0) => ?_)
                  · show tkDn tm_181 (185, [some (.inr (.inr (6, 0, 0))), some (.inl (nI m)), some (.inl (nI c)), some (.inr (.inl (e m c))), none, some (.inr (.inl (e c m))), none], [.inr (.inr (6, 0, 0))], (I, tk_so J 6 0 N, R)) _
                    refine dn_run 5 (show tkDn tm_181 (32, [some (.inr (.inr (6, 0, 0))), some (.inl (nI m)), some (.inl ((nI c) + 1)), some (.inr (.inl (e m c))), none, some (.inr (.inl (e c m))), none], [], (I, tk_so (tk_so J 6 0 N) 6 0 (tk_u2 N 0 34 (N 0 34)), R)) _ from ?_)
                    rw [tk_so_so]
                    rw [nI_1, hLt]
                    exact ih (c + 1) _ E' Lt _ _ (by omega) (fun s hs => by rw [tk_u2_ne hs]; exact hN s hs) (by rw [tk_u2_0 (by decide)]; exact hE) (by rw [tk_u2_1]) (hS.symm.trans h1) ((show laF e T m (n + 1) c Lt = laF e T m n (c + 1) Lt from if_pos (Or.inr (Or.inr ((lg_cmp_eq _ _).mp b1)))).symm.trans h2)
                  · show tkDn tm_181 (154, [some (.inr (.inr (6, 0, 0))), some (.inl (nI m)), some (.inl (nI c)), some (.inr (.inl (e m c))), none, some (.inr (.inl (e c m))), none], [.inr (.inr (6, 0, 0))], (I, tk_so J 6 0 N, R)) _
                    refine dn_run 10 (show (vp_in (nI c) 16) ∧ tkDn tm_181 (169, [some (.inr (.inr (6, 0, 0))), some (.inl (nI m)), some (.inl (nI c)), some (.inr (.inl (e m c))), none, some (.inr (.inl (e c m))), none], [.inl (lg_cmp ((((I 6 0 33 ((nI c).toNatClampNeg)) : Int32).toInt64) + (e c m)) (N 0 34)), .inr (.inr (6, 0, 0))], (I, tk_so J 6 0 N, R)) _ from ⟨vp_in_nI (by omega) (by omega), ?_⟩)
                    rw [nI_clamp (show c < 2 ^ 31 by omega), hT c (by omega), hLt]
                    show tkDn tm_181 (169, [some (.inr (.inr (6, 0, 0))), some (.inl (nI m)), some (.inl (nI c)), some (.inr (.inl (e m c))), none, some (.inr (.inl (e c m))), none], [.inl (lg_cmp ((T c).toInt64 + e c m) Lt), .inr (.inr (6, 0, 0))], (I, tk_so J 6 0 N, R)) _
                    refine dn_if rfl rfl rfl (fun (b2 : 0 ≤ (lg_cmp ((T c).toInt64 + e c m) Lt)) => ?_) (fun (b2 : ¬ 0 ≤ (lg_cmp ((T c).toInt64 + e c m) Lt)) => ?_)
                    · show tkDn tm_181 (185, [some (.inr (.inr (6, 0, 0))), some (.inl (nI m)), some (.inl (nI c)), some (.inr (.inl (e m c))), none, some (.inr (.inl (e c m))), none], [.inr (.inr (6, 0, 0))], (I, tk_so J 6 0 N, R)) _
                      refine dn_run 5 (show tkDn tm_181 (32, [some (.inr (.inr (6, 0, 0))), some (.inl (nI m)), some (.inl ((nI c) + 1)), some (.inr (.inl (e m c))), none, some (.inr (.inl (e c m))), none], [], (I, tk_so (tk_so J 6 0 N) 6 0 (tk_u2 N 0 34 (N 0 34)), R)) _ from ?_)
                      rw [tk_so_so]
                      rw [nI_1, hLt]
                      exact ih (c + 1) _ E' Lt _ _ (by omega) (fun s hs => by rw [tk_u2_ne hs]; exact hN s hs) (by rw [tk_u2_0 (by decide)]; exact hE) (by rw [tk_u2_1]) (hS.symm.trans h1) ((show laF e T m (n + 1) c Lt = laF e T m n (c + 1) Lt from (if_neg (fun q => q.elim cm (fun q => q.elim hcm (fun q => b1 ((lg_cmp_eq _ _).mpr q))))).trans (by rw [mn_ge ((lg_cmp_ge _ _).mp b2)])).symm.trans h2)
                    · show tkDn tm_181 (172, [some (.inr (.inr (6, 0, 0))), some (.inl (nI m)), some (.inl (nI c)), some (.inr (.inl (e m c))), none, some (.inr (.inl (e c m))), none], [.inr (.inr (6, 0, 0))], (I, tk_so J 6 0 N, R)) _
                      refine dn_run 11 (show (vp_in (nI c) 16) ∧ tkDn tm_181 (32, [some (.inr (.inr (6, 0, 0))), some (.inl (nI m)), some (.inl ((nI c) + 1)), some (.inr (.inl (e m c))), none, some (.inr (.inl (e c m))), none], [], (I, tk_so (tk_so J 6 0 N) 6 0 (tk_u2 N 0 34 ((((I 6 0 33 ((nI c).toNatClampNeg)) : Int32).toInt64) + (e c m))), R)) _ from ⟨vp_in_nI (by omega) (by omega), ?_⟩)
                      rw [tk_so_so]
                      rw [nI_1, nI_clamp (show c < 2 ^ 31 by omega), hT c (by omega)]
                      exact ih (c + 1) _ E' ((T c).toInt64 + e c m) _ _ (by omega) (fun s hs => by rw [tk_u2_ne hs]; exact hN s hs) (by rw [tk_u2_0 (by decide)]; exact hE) (by rw [tk_u2_1]) (hS.symm.trans h1) ((show laF e T m (n + 1) c Lt = laF e T m n (c + 1) ((T c).toInt64 + e c m) from (if_neg (fun q => q.elim cm (fun q => q.elim hcm (fun q => b1 ((lg_cmp_eq _ _).mpr q))))).trans (by rw [mn_lt (Int64.not_le.mp (fun q => b2 ((lg_cmp_ge _ _).mpr q)))])).symm.trans h2)
                refine dn_run 4 (show tkDn tm_181 (105, [some (.inr (.inr (6, 0, 0))), some (.inl (nI m)), some (.inl (nI c)), some (.inr (.inl (e m c))), none, some (.inr (.inl (e c m))), none], [.inl (lg_cmp (e m c) 4611686018427387904), .inr (.inr (6, 0, 0))], (I, tk_so J 6 0 N, R)) _ from ?_)
                refine dn_if rfl rfl rfl (fun (a1 : (lg_cmp (e m c) 4611686018427387904) = 0) => ?_) (fun (a1 : ¬ (lg_cmp (e m c) 4611686018427387904) = 0) => ?_)
                · show tkDn tm_181 (137, [some (.inr (.inr (6, 0, 0))), some (.inl (nI m)), some (.inl (nI c)), some (.inr (.inl (e m c))), none, some (.inr (.inl (e c m))), none], [.inr (.inr (6, 0, 0))], (I, tk_so J 6 0 N, R)) _
                  refine dn_run 3 (show tkDn tm_181 (144, [some (.inr (.inr (6, 0, 0))), some (.inl (nI m)), some (.inl (nI c)), some (.inr (.inl (e m c))), none, some (.inr (.inl (e c m))), none], [], (I, tk_so (tk_so J 6 0 N) 6 0 (tk_u2 N 0 33 (N 0 33)), R)) _ from ?_)
                  rw [tk_so_so]
                  rw [hE]
                  exact tail _ E (fun s hs => by rw [tk_u2_ne hs]; exact hN s hs) (by rw [tk_u2_1]) (by rw [tk_u2_0 (by decide)]; exact hLt) (if_pos (Or.inr ((lg_cmp_eq _ _).mp a1)))
                · show tkDn tm_181 (108, [some (.inr (.inr (6, 0, 0))), some (.inl (nI m)), some (.inl (nI c)), some (.inr (.inl (e m c))), none, some (.inr (.inl (e c m))), none], [.inr (.inr (6, 0, 0))], (I, tk_so J 6 0 N, R)) _
                  refine dn_run 10 (show (vp_in (nI c) 16) ∧ tkDn tm_181 (122, [some (.inr (.inr (6, 0, 0))), some (.inl (nI m)), some (.inl (nI c)), some (.inr (.inl (e m c))), none, some (.inr (.inl (e c m))), none], [.inl (lg_cmp ((((I 6 0 33 ((nI c).toNatClampNeg)) : Int32).toInt64) - (e m c)) (N 0 33)), .inr (.inr (6, 0, 0))], (I, tk_so J 6 0 N, R)) _ from ⟨vp_in_nI (by omega) (by omega), ?_⟩)
                  rw [nI_clamp (show c < 2 ^ 31 by omega), hT c (by omega), hE]
                  show tkDn tm_181 (122, [some (.inr (.inr (6, 0, 0))), some (.inl (nI m)), some (.inl (nI c)), some (.inr (.inl (e m c))), none, some (.inr (.inl (e c m))), none], [.inl (lg_cmp ((T c).toInt64 - e m c) E), .inr (.inr (6, 0, 0))], (I, tk_so J 6 0 N, R)) _
                  refine dn_if rfl rfl rfl (fun (a2 : (lg_cmp ((T c).toInt64 - e m c) E) ≤ 0) => ?_) (fun (a2 : ¬ (lg_cmp ((T c).toInt64 - e m c) E) ≤ 0) => ?_)
                  · show tkDn tm_181 (137, [some (.inr (.inr (6, 0, 0))), some (.inl (nI m)), some (.inl (nI c)), some (.inr (.inl (e m c))), none, some (.inr (.inl (e c m))), none], [.inr (.inr (6, 0, 0))], (I, tk_so J 6 0 N, R)) _
                    refine dn_run 3 (show tkDn tm_181 (144, [some (.inr (.inr (6, 0, 0))), some (.inl (nI m)), some (.inl (nI c)), some (.inr (.inl (e m c))), none, some (.inr (.inl (e c m))), none], [], (I, tk_so (tk_so J 6 0 N) 6 0 (tk_u2 N 0 33 (N 0 33)), R)) _ from ?_)
                    rw [tk_so_so]
                    rw [hE]
                    exact tail _ E (fun s hs => by rw [tk_u2_ne hs]; exact hN s hs) (by rw [tk_u2_1]) (by rw [tk_u2_0 (by decide)]; exact hLt) ((if_neg (fun q => q.elim cm (fun q => a1 ((lg_cmp_eq _ _).mpr q)))).trans ((if_neg hcm).trans (by rw [mx_le ((lg_cmp_le _ _).mp a2)])))
                  · show tkDn tm_181 (125, [some (.inr (.inr (6, 0, 0))), some (.inl (nI m)), some (.inl (nI c)), some (.inr (.inl (e m c))), none, some (.inr (.inl (e c m))), none], [.inr (.inr (6, 0, 0))], (I, tk_so J 6 0 N, R)) _
                    refine dn_run 9 (show (vp_in (nI c) 16) ∧ tkDn tm_181 (144, [some (.inr (.inr (6, 0, 0))), some (.inl (nI m)), some (.inl (nI c)), some (.inr (.inl (e m c))), none, some (.inr (.inl (e c m))), none], [], (I, tk_so (tk_so J 6 0 N) 6 0 (tk_u2 N 0 33 ((((I 6 0 33 ((nI c).toNatClampNeg)) : Int32).toInt64) - (e m c))), R)) _ from ⟨vp_in_nI (by omega) (by omega), ?_⟩)
                    rw [tk_so_so]
                    rw [nI_clamp (show c < 2 ^ 31 by omega), hT c (by omega)]
                    exact tail _ ((T c).toInt64 - e m c) (fun s hs => by rw [tk_u2_ne hs]; exact hN s hs) (by rw [tk_u2_1]) (by rw [tk_u2_0 (by decide)]; exact hLt) ((if_neg (fun q => q.elim cm (fun q => a1 ((lg_cmp_eq _ _).mpr q)))).trans ((if_neg hcm).trans (by rw [mx_gt (Int64.not_le.mp (fun q => a2 ((lg_cmp_le _ _).mpr q)))])))
          · show tkDn tm_181 (84, [some (.inr (.inr (6, 0, 0))), some (.inl (nI m)), some (.inl (nI c)), some (.inr (.inl (e m c))), none, some (.inr (.inl (e c m))), none], [], (I, tk_so J 6 0 N, R)) _
            have neg := Int64.not_le.mp (fun q => c3 ((lg_cmp_ge _ _).mpr q))
            refine dn_run 1 (show tkDn tm_181 (85, [some (.inr (.inr (6, 0, 0))), some (.inl (nI m)), some (.inl (nI c)), some (.inr (.inl (e m c))), none, some (.inr (.inl (e c m))), none], [.inl 0], (I, tk_so J 6 0 N, R)) _ from ?_)
            refine dn_retb rfl rfl rfl rfl (by decide) ?_
            exact hF N hN (((show blE e T m (n + 1) c E = none from (if_neg (fun q => q.elim cm (fun q => by rw [q] at neg; exact absurd neg (by decide)))).trans ((if_pos (ite01.mp c2)).trans (if_pos neg)))).symm.trans h1).symm
