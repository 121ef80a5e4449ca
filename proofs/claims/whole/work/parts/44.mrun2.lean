/-! the reference: hasTime, mayCome, goOn, idle -/
set_option maxRecDepth 8000 in
theorem sm_ht2 {I : tkI} {J : tkJ} {R : Nat → Nat} {Q : tkQ} {T : Nat → Int32} (hT : ∀ j, j < 16 → I 6 0 33 j = T j) (hO : TOk T) {S : tkS} (hP : NetP (I 6 0) S) (w : WF S) {e v : tkD} {N0 : Nat → Nat → Int64} (he : RowP (sM S) (N0 24) e) (hv : WRow (N0 25) v) {m : Nat} (hm : m < sM S) {E0 Lt : Int64} (hF : ∀ N, (∀ s, s ≠ 0 → N s = N0 s) → blW S v T m (sG S) 0 E0 = none → Q (some (.inl 0)) (I, tk_so J 6 0 N, R)) (hK : ∀ N E, (∀ s, s ≠ 0 → N s = N0 s) → N 0 33 = E → N 0 34 = Lt → blW S v T m (sG S) 0 E0 = some E → Q (some (.inl 1)) (I, tk_so J 6 0 N, R)) : ∀ n c N E o3 o5, c + n = sG S → (∀ s, s ≠ 0 → N s = N0 s) → N 0 33 = E → N 0 34 = Lt → blW S v T m n c E = blW S v T m (sG S) 0 E0 → tkDn tm_181 (200, [some (.inr (.inr (6, 0, 0))), some (.inl (nI m)), some (.inl (nI c)), o3, none, o5, none], [], (I, tk_so J 6 0 N, R)) Q := by
  have hM16 := w.1
  have hL60 := w.2.1
  have hG6 := w.2.2.1
  have hM := hP.m
  have hG := hP.g
  have hL := hP.l
  intro n
  induction n with
  | zero =>
    intro c N E o3 o5 hc hN hE hLt h1
    show tkDn tm_181 (200, [some (.inr (.inr (6, 0, 0))), some (.inl (nI m)), some (.inl (nI c)), o3, none, o5, none], [], (I, tk_so J 6 0 N, R)) _
    refine dn_run 3 (show tkDn tm_181 (205, [some (.inr (.inr (6, 0, 0))), some (.inl (nI m)), some (.inl (nI c)), o3, none, o5, none], [.inl (I 6 0 0 2), .inl (nI c)], (I, tk_so J 6 0 N, R)) _ from ?_)
    rw [hG]
    show tkDn tm_181 (205, [some (.inr (.inr (6, 0, 0))), some (.inl (nI m)), some (.inl (nI c)), o3, none, o5, none], [.inl (nI (sG S)), .inl (nI c)], (I, tk_so J 6 0 N, R)) _
    refine dn_if rfl rfl rfl (fun (c0 : (nI (sG S)) ≤ (nI c)) => ?_) (fun (c0 : ¬ (nI (sG S)) ≤ (nI c)) => ?_)
    · show tkDn tm_181 (303, [some (.inr (.inr (6, 0, 0))), some (.inl (nI m)), some (.inl (nI c)), o3, none, o5, none], [], (I, tk_so J 6 0 N, R)) _
      refine dn_run 1 (show tkDn tm_181 (304, [some (.inr (.inr (6, 0, 0))), some (.inl (nI m)), some (.inl (nI c)), o3, none, o5, none], [.inl 1], (I, tk_so J 6 0 N, R)) _ from ?_)
      refine dn_retb rfl rfl rfl rfl (by decide) ?_
      exact hK N E hN hE hLt h1.symm
    · exact absurd (nI_le (by omega) (by omega)) c0
  | succ n ih =>
    intro c N E o3 o5 hc hN hE hLt h1
    show tkDn tm_181 (200, [some (.inr (.inr (6, 0, 0))), some (.inl (nI m)), some (.inl (nI c)), o3, none, o5, none], [], (I, tk_so J 6 0 N, R)) _
    refine dn_run 3 (show tkDn tm_181 (205, [some (.inr (.inr (6, 0, 0))), some (.inl (nI m)), some (.inl (nI c)), o3, none, o5, none], [.inl (I 6 0 0 2), .inl (nI c)], (I, tk_so J 6 0 N, R)) _ from ?_)
    rw [hG]
    show tkDn tm_181 (205, [some (.inr (.inr (6, 0, 0))), some (.inl (nI m)), some (.inl (nI c)), o3, none, o5, none], [.inl (nI (sG S)), .inl (nI c)], (I, tk_so J 6 0 N, R)) _
    refine dn_if rfl rfl rfl (fun (c0 : (nI (sG S)) ≤ (nI c)) => ?_) (fun (c0 : ¬ (nI (sG S)) ≤ (nI c)) => ?_)
    · exact absurd c0 (nI_ge (by omega) (by omega))
    · show tkDn tm_181 (208, [some (.inr (.inr (6, 0, 0))), some (.inl (nI m)), some (.inl (nI c)), o3, none, o5, none], [], (I, tk_so J 6 0 N, R)) _
      have hg : c < sG S := by omega
      have hf := w.fM (w.gl hg)
      have he_ := w.eM (w.gl hg)
      have hvN : WRow (N 25) v := by rw [hN 25 (by decide)]; exact hv
      refine dn_run 9 (show (vp_in ((6 * (nI m)) + (nI c)) 96) ∧ tkDn tm_181 (220, [some (.inr (.inr (6, 0, 0))), some (.inl (nI m)), some (.inl (nI c)), some (.inr (.inl (N 25 (((6 * (nI m)) + (nI c)).toNatClampNeg)))), none, o5, none], [], (I, tk_so J 6 0 N, R)) _ from ⟨by rw [ix6']; exact vp_in_nI (by omega) (by omega), ?_⟩)
      rw [ix6', hvN.at (by omega) (by omega)]
      show tkDn tm_181 (220, [some (.inr (.inr (6, 0, 0))), some (.inl (nI m)), some (.inl (nI c)), some (.inr (.inl (v m c))), none, o5, none], [], (I, tk_so J 6 0 N, R)) _
      refine dn_run 3 (show tkDn tm_181 (223, [some (.inr (.inr (6, 0, 0))), some (.inl (nI m)), some (.inl (nI c)), some (.inr (.inl (v m c))), none, o5, none], [.inl (lg_cmp (v m c) 0)], (I, tk_so J 6 0 N, R)) _ from ?_)
      refine dn_if rfl rfl rfl (fun (c1 : 0 ≤ (lg_cmp (v m c) 0)) => ?_) (fun (c1 : ¬ 0 ≤ (lg_cmp (v m c) 0)) => ?_)
      · show tkDn tm_181 (297, [some (.inr (.inr (6, 0, 0))), some (.inl (nI m)), some (.inl (nI c)), some (.inr (.inl (v m c))), none, o5, none], [], (I, tk_so J 6 0 N, R)) _
        refine dn_run 2 (show tkDn tm_181 (200, [some (.inr (.inr (6, 0, 0))), some (.inl (nI m)), some (.inl ((nI c) + 1)), some (.inr (.inl (v m c))), none, o5, none], [], (I, tk_so J 6 0 N, R)) _ from ?_)
        rw [nI_1]
        exact ih (c + 1) N E _ _ (by omega) hN hE hLt ((show blW S v T m (n + 1) c E = blW S v T m n (c + 1) E from if_pos (Or.inl ((lg_cmp_ge _ _).mp c1))).symm.trans h1)
      · show tkDn tm_181 (226, [some (.inr (.inr (6, 0, 0))), some (.inl (nI m)), some (.inl (nI c)), some (.inr (.inl (v m c))), none, o5, none], [], (I, tk_so J 6 0 N, R)) _
        refine dn_run 3 (show tkDn tm_181 (229, [some (.inr (.inr (6, 0, 0))), some (.inl (nI m)), some (.inl (nI c)), some (.inr (.inl (v m c))), none, o5, none], [.inl (nI c), .inr (.inr (6, 0, 0)), .inr (.inr (6, 0, 0))], (I, tk_so J 6 0 N, R)) _ from ?_)
        refine dn_call rfl rfl rfl rfl rfl (sm_end hP w hg ?_)
        show tkDn tm_181 (232, [some (.inr (.inr (6, 0, 0))), some (.inl (nI m)), some (.inl (nI c)), some (.inr (.inl (v m c))), none, o5, none], [.inl (nI (se S (sgl S c))), .inr (.inr (6, 0, 0))], (I, tk_so J 6 0 N, R)) _
        refine dn_call rfl rfl rfl rfl rfl (sm_hasCome hT hO (by omega) ?_)
        show tkDn tm_181 (235, [some (.inr (.inr (6, 0, 0))), some (.inl (nI m)), some (.inl (nI c)), some (.inr (.inl (v m c))), none, o5, none], [.inl (if T (se S (sgl S c)) = -9 then 0 else 1)], (I, tk_so J 6 0 N, R)) _
        refine dn_if rfl rfl rfl (fun (c2 : ¬ (if T (se S (sgl S c)) = -9 then 0 else 1) = 0) => ?_) (fun (c2 : (if T (se S (sgl S c)) = -9 then 0 else 1) = 0) => ?_)
        · show tkDn tm_181 (297, [some (.inr (.inr (6, 0, 0))), some (.inl (nI m)), some (.inl (nI c)), some (.inr (.inl (v m c))), none, o5, none], [], (I, tk_so J 6 0 N, R)) _
          refine dn_run 2 (show tkDn tm_181 (200, [some (.inr (.inr (6, 0, 0))), some (.inl (nI m)), some (.inl ((nI c) + 1)), some (.inr (.inl (v m c))), none, o5, none], [], (I, tk_so J 6 0 N, R)) _ from ?_)
          rw [nI_1]
          exact ih (c + 1) N E _ _ (by omega) hN hE hLt ((show blW S v T m (n + 1) c E = blW S v T m n (c + 1) E from if_pos (Or.inr (fun q => c2 (ite01.mpr q)))).symm.trans h1)
        · show tkDn tm_181 (238, [some (.inr (.inr (6, 0, 0))), some (.inl (nI m)), some (.inl (nI c)), some (.inr (.inl (v m c))), none, o5, none], [], (I, tk_so J 6 0 N, R)) _
          refine dn_run 3 (show tkDn tm_181 (241, [some (.inr (.inr (6, 0, 0))), some (.inl (nI m)), some (.inl (nI c)), some (.inr (.inl (v m c))), none, o5, none], [.inl (nI c), .inr (.inr (6, 0, 0)), .inr (.inr (6, 0, 0))], (I, tk_so J 6 0 N, R)) _ from ?_)
          refine dn_call rfl rfl rfl rfl rfl (sm_begin hP w hg ?_)
          show tkDn tm_181 (244, [some (.inr (.inr (6, 0, 0))), some (.inl (nI m)), some (.inl (nI c)), some (.inr (.inl (v m c))), none, o5, none], [.inl (nI (sf S (sgl S c))), .inr (.inr (6, 0, 0))], (I, tk_so J 6 0 N, R)) _
          refine dn_call rfl rfl rfl rfl rfl (sm_hasCome hT hO (by omega) ?_)
          show tkDn tm_181 (247, [some (.inr (.inr (6, 0, 0))), some (.inl (nI m)), some (.inl (nI c)), some (.inr (.inl (v m c))), none, o5, none], [.inl (if T (sf S (sgl S c)) = -9 then 0 else 1)], (I, tk_so J 6 0 N, R)) _
          refine dn_if rfl rfl rfl (fun (c3 : ¬ (if T (sf S (sgl S c)) = -9 then 0 else 1) = 0) => ?_) (fun (c3 : (if T (sf S (sgl S c)) = -9 then 0 else 1) = 0) => ?_)
          · show tkDn tm_181 (252, [some (.inr (.inr (6, 0, 0))), some (.inl (nI m)), some (.inl (nI c)), some (.inr (.inl (v m c))), none, o5, none], [], (I, tk_so J 6 0 N, R)) _
            refine dn_run 5 (show tkDn tm_181 (259, [some (.inr (.inr (6, 0, 0))), some (.inl (nI m)), some (.inl (nI c)), some (.inr (.inl (v m c))), none, o5, none], [.inl (nI c), .inr (.inr (6, 0, 0)), .inr (.inr (6, 0, 33)), .inr (.inr (6, 0, 0))], (I, tk_so J 6 0 N, R)) _ from ?_)
            refine dn_call rfl rfl rfl rfl rfl (sm_begin hP w hg ?_)
            show tkDn tm_181 (262, [some (.inr (.inr (6, 0, 0))), some (.inl (nI m)), some (.inl (nI c)), some (.inr (.inl (v m c))), none, o5, none], [.inl (nI (sf S (sgl S c))), .inr (.inr (6, 0, 33)), .inr (.inr (6, 0, 0))], (I, tk_so J 6 0 N, R)) _
            refine dn_run 7 (show (vp_in (nI (sf S (sgl S c))) 16) ∧ tkDn tm_181 (271, [some (.inr (.inr (6, 0, 0))), some (.inl (nI m)), some (.inl (nI c)), some (.inr (.inl (v m c))), none, o5, none], [.inl (lg_cmp ((((I 6 0 33 ((nI (sf S (sgl S c))).toNatClampNeg)) : Int32).toInt64) - (v m c)) (N 0 33)), .inr (.inr (6, 0, 0))], (I, tk_so J 6 0 N, R)) _ from ⟨vp_in_nI (by omega) (by omega), ?_⟩)
            rw [nI_clamp (show sf S (sgl S c) < 2 ^ 31 by omega), hT (sf S (sgl S c)) (by omega), hE]
            show tkDn tm_181 (271, [some (.inr (.inr (6, 0, 0))), some (.inl (nI m)), some (.inl (nI c)), some (.inr (.inl (v m c))), none, o5, none], [.inl (lg_cmp ((T (sf S (sgl S c))).toInt64 - v m c) E), .inr (.inr (6, 0, 0))], (I, tk_so J 6 0 N, R)) _
            refine dn_if rfl rfl rfl (fun (c4 : (lg_cmp ((T (sf S (sgl S c))).toInt64 - v m c) E) ≤ 0) => ?_) (fun (c4 : ¬ (lg_cmp ((T (sf S (sgl S c))).toInt64 - v m c) E) ≤ 0) => ?_)
            · show tkDn tm_181 (290, [some (.inr (.inr (6, 0, 0))), some (.inl (nI m)), some (.inl (nI c)), some (.inr (.inl (v m c))), none, o5, none], [.inr (.inr (6, 0, 0))], (I, tk_so J 6 0 N, R)) _
              refine dn_run 5 (show tkDn tm_181 (200, [some (.inr (.inr (6, 0, 0))), some (.inl (nI m)), some (.inl ((nI c) + 1)), some (.inr (.inl (v m c))), none, o5, none], [], (I, tk_so (tk_so J 6 0 N) 6 0 (tk_u2 N 0 33 (N 0 33)), R)) _ from ?_)
              rw [tk_so_so]
              rw [nI_1, hE]
              exact ih (c + 1) _ E _ _ (by omega) (fun s hs => by rw [tk_u2_ne hs]; exact hN s hs) (by rw [tk_u2_1]) (by rw [tk_u2_0 (by decide)]; exact hLt) ((show blW S v T m (n + 1) c E = blW S v T m n (c + 1) E from (if_neg (fun q => q.elim (fun q => c1 ((lg_cmp_ge _ _).mpr q)) (fun q => q (ite01.mp c2)))).trans ((if_neg (fun q => c3 (ite01.mpr q))).trans (by rw [mx_le ((lg_cmp_le _ _).mp c4)]))).symm.trans h1)
            · show tkDn tm_181 (274, [some (.inr (.inr (6, 0, 0))), some (.inl (nI m)), some (.inl (nI c)), some (.inr (.inl (v m c))), none, o5, none], [.inr (.inr (6, 0, 0))], (I, tk_so J 6 0 N, R)) _
              refine dn_run 4 (show tkDn tm_181 (280, [some (.inr (.inr (6, 0, 0))), some (.inl (nI m)), some (.inl (nI c)), some (.inr (.inl (v m c))), none, o5, none], [.inl (nI c), .inr (.inr (6, 0, 0)), .inr (.inr (6, 0, 33)), .inr (.inr (6, 0, 0))], (I, tk_so J 6 0 N, R)) _ from ?_)
              refine dn_call rfl rfl rfl rfl rfl (sm_begin hP w hg ?_)
              show tkDn tm_181 (283, [some (.inr (.inr (6, 0, 0))), some (.inl (nI m)), some (.inl (nI c)), some (.inr (.inl (v m c))), none, o5, none], [.inl (nI (sf S (sgl S c))), .inr (.inr (6, 0, 33)), .inr (.inr (6, 0, 0))], (I, tk_so J 6 0 N, R)) _
              refine dn_run 8 (show (vp_in (nI (sf S (sgl S c))) 16) ∧ tkDn tm_181 (200, [some (.inr (.inr (6, 0, 0))), some (.inl (nI m)), some (.inl ((nI c) + 1)), some (.inr (.inl (v m c))), none, o5, none], [], (I, tk_so (tk_so J 6 0 N) 6 0 (tk_u2 N 0 33 ((((I 6 0 33 ((nI (sf S (sgl S c))).toNatClampNeg)) : Int32).toInt64) - (v m c))), R)) _ from ⟨vp_in_nI (by omega) (by omega), ?_⟩)
              rw [tk_so_so]
              rw [nI_1, nI_clamp (show sf S (sgl S c) < 2 ^ 31 by omega), hT (sf S (sgl S c)) (by omega)]
              exact ih (c + 1) _ ((T (sf S (sgl S c))).toInt64 - v m c) _ _ (by omega) (fun s hs => by rw [tk_u2_ne hs]; exact hN s hs) (by rw [tk_u2_1]) (by rw [tk_u2_0 (by decide)]; exact hLt) ((show blW S v T m (n + 1) c E = blW S v T m n (c + 1) ((T (sf S (sgl S c))).toInt64 - v m c) from (if_neg (fun q => q.elim (fun q => c1 ((lg_cmp_ge _ _).mpr q)) (fun q => q (ite01.mp c2)))).trans ((if_neg (fun q => c3 (ite01.mpr q))).trans (by rw [mx_gt (Int64.not_le.mp (fun q => c4 ((lg_cmp_le _ _).mpr q)))]))).symm.trans h1)
          · show tkDn tm_181 (250, [some (.inr (.inr (6, 0, 0))), some (.inl (nI m)), some (.inl (nI c)), some (.inr (.inl (v m c))), none, o5, none], [], (I, tk_so J 6 0 N, R)) _
            refine dn_run 1 (show tkDn tm_181 (251, [some (.inr (.inr (6, 0, 0))), some (.inl (nI m)), some (.inl (nI c)), some (.inr (.inl (v m c))), none, o5, none], [.inl 0], (I, tk_so J 6 0 N, R)) _ from ?_)
            refine dn_retb rfl rfl rfl rfl (by decide) ?_
            exact hF N hN (((show blW S v T m (n + 1) c E = none from (if_neg (fun q => q.elim (fun q => c1 ((lg_cmp_ge _ _).mpr q)) (fun q => q (ite01.mp c2)))).trans (if_pos (ite01.mp c3))).symm.trans h1).symm)
set_option maxRecDepth 8000 in
theorem sm_hasTime {I : tkI} {J : tkJ} {R : Nat → Nat} {Q : tkQ} {T : Nat → Int32} (hT : ∀ j, j < 16 → I 6 0 33 j = T j) (hO : TOk T) {S : tkS} (hP : NetP (I 6 0) S) (w : WF S) {e v : tkD} {N0 : Nat → Nat → Int64} (he : RowP (sM S) (N0 24) e) (hv : WRow (N0 25) v) {m : Nat} (hm : m < sM S) (hQ : ∀ N (x : Int32), (∀ s, s ≠ 0 → N s = N0 s) → ((x = 0 ∧ ¬ (opn S T m ∧ ¬ htO S e v T m = none)) ∨ (x = 1 ∧ opn S T m ∧ ∃ E, htO S e v T m = some E ∧ N 0 33 = E ∧ N 0 34 = laF e T m (sM S) 0 4611686018427387904)) → Q (some (.inl x)) (I, tk_so J 6 0 N, R)) : tkDn tm_181 (0, [some (.inr (.inr (6, 0, 0))), some (.inl (nI m)), none, none, none, none, none], [], (I, tk_so J 6 0 N0, R)) Q := by
  have hM16 := w.1
  have hL60 := w.2.1
  have hG6 := w.2.2.1
  have hM := hP.m
  have hG := hP.g
  have hL := hP.l
  refine dn_run 8 (show tkDn tm_181 (14, [some (.inr (.inr (6, 0, 0))), some (.inl (nI m)), none, none, none, none, none], [.inl (nI m), .inr (.inr (6, 0, 0))], (I, tk_so (tk_so (tk_so J 6 0 N0) 6 0 (tk_u2 N0 0 33 0)) 6 0 (tk_u2 (tk_u2 N0 0 33 0) 0 34 4611686018427387904), R)) _ from ?_)
  rw [tk_so_so, tk_so_so]
  obtain ⟨N1, hN1⟩ : ∃ N1, N1 = tk_u2 (tk_u2 N0 0 33 0) 0 34 4611686018427387904 := ⟨_, rfl⟩
  rw [← hN1]
  show tkDn tm_181 (14, [some (.inr (.inr (6, 0, 0))), some (.inl (nI m)), none, none, none, none, none], [.inl (nI m), .inr (.inr (6, 0, 0))], (I, tk_so J 6 0 N1, R)) _
  have f1 : ∀ s, s ≠ 0 → N1 s = N0 s := fun s hs => by rw [hN1, tk_u2_ne hs, tk_u2_ne hs]
  refine dn_call rfl rfl rfl rfl rfl (sm_giftTo hP w (by omega) ?_)
  show tkDn tm_181 (17, [some (.inr (.inr (6, 0, 0))), some (.inl (nI m)), none, none, none, none, none], [.inl (if gt S m < sG S then nI (gt S m) else -1)], (I, tk_so J 6 0 N1, R)) _
  refine dn_if rfl rfl rfl (fun (c1 : 0 ≤ (if gt S m < sG S then nI (gt S m) else -1)) => ?_) (fun (c1 : ¬ 0 ≤ (if gt S m < sG S then nI (gt S m) else -1)) => ?_)
  · show tkDn tm_181 (28, [some (.inr (.inr (6, 0, 0))), some (.inl (nI m)), none, none, none, none, none], [], (I, tk_so J 6 0 N1, R)) _
    refine dn_run 1 (show tkDn tm_181 (29, [some (.inr (.inr (6, 0, 0))), some (.inl (nI m)), none, none, none, none, none], [.inl 0], (I, tk_so J 6 0 N1, R)) _ from ?_)
    refine dn_retb rfl rfl rfl rfl (by decide) ?_
    exact hQ N1 0 f1 (Or.inl ⟨rfl, fun q => q.1.2 (Classical.byContradiction fun t => absurd c1 (by rw [if_neg t]; decide))⟩)
  · show tkDn tm_181 (20, [some (.inr (.inr (6, 0, 0))), some (.inl (nI m)), none, none, none, none, none], [], (I, tk_so J 6 0 N1, R)) _
    have cg : ¬ gt S m < sG S := fun q => c1 (by rw [if_pos q]; exact Int32.not_lt.mp (nI_pos (by omega)))
    refine dn_run 2 (show tkDn tm_181 (22, [some (.inr (.inr (6, 0, 0))), some (.inl (nI m)), none, none, none, none, none], [.inl (nI m), .inr (.inr (6, 0, 0))], (I, tk_so J 6 0 N1, R)) _ from ?_)
    refine dn_call rfl rfl rfl rfl rfl (sm_hasCome hT hO (by omega) ?_)
    show tkDn tm_181 (25, [some (.inr (.inr (6, 0, 0))), some (.inl (nI m)), none, none, none, none, none], [.inl (if T m = -9 then 0 else 1)], (I, tk_so J 6 0 N1, R)) _
    refine dn_if rfl rfl rfl (fun (c2 : (if T m = -9 then 0 else 1) = 0) => ?_) (fun (c2 : ¬ (if T m = -9 then 0 else 1) = 0) => ?_)
    · show tkDn tm_181 (30, [some (.inr (.inr (6, 0, 0))), some (.inl (nI m)), none, none, none, none, none], [], (I, tk_so J 6 0 N1, R)) _
      have op : opn S T m := ⟨ite01.mp c2, cg⟩
      refine dn_run 2 (show tkDn tm_181 (32, [some (.inr (.inr (6, 0, 0))), some (.inl (nI m)), some (.inl 0), none, none, none, none], [], (I, tk_so J 6 0 N1, R)) _ from ?_)
      refine sm_ht1 hT hO hP w (e := e) (v := v) (N0 := N0) he hv hm (fun N2 hN2 hb => ?_) (fun N2 E o3 o5 hN2 hE hL2 hb => ?_) (sM S) 0 N1 0 4611686018427387904 none none (Nat.zero_add _) f1 (by rw [hN1, tk_u2_0 (by decide), tk_u2_1]) (by rw [hN1, tk_u2_1]) rfl rfl
      · exact hQ N2 0 hN2 (Or.inl ⟨rfl, fun q => q.2 (by unfold htO; rw [hb]; rfl)⟩)
      · show tkDn tm_181 (198, [some (.inr (.inr (6, 0, 0))), some (.inl (nI m)), some (.inl (nI (sM S))), o3, none, o5, none], [], (I, tk_so J 6 0 N2, R)) _
        refine dn_run 2 (show tkDn tm_181 (200, [some (.inr (.inr (6, 0, 0))), some (.inl (nI m)), some (.inl 0), o3, none, o5, none], [], (I, tk_so J 6 0 N2, R)) _ from ?_)
        have hh : htO S e v T m = blW S v T m (sG S) 0 E := by unfold htO; rw [hb]; rfl
        refine sm_ht2 hT hO hP w (e := e) (v := v) (N0 := N0) he hv hm (E0 := E) (Lt := laF e T m (sM S) 0 4611686018427387904) (fun N3 hN3 hb3 => ?_) (fun N3 E3 hN3 hE3 hL3 hb3 => ?_) (sG S) 0 N2 E _ _ (Nat.zero_add _) hN2 hE hL2 rfl
        · exact hQ N3 0 hN3 (Or.inl ⟨rfl, fun q => q.2 (hh.trans hb3)⟩)
        · exact hQ N3 1 hN3 (Or.inr ⟨rfl, op, E3, hh.trans hb3, hE3, hL3⟩)
    · show tkDn tm_181 (28, [some (.inr (.inr (6, 0, 0))), some (.inl (nI m)), none, none, none, none, none], [], (I, tk_so J 6 0 N1, R)) _
      refine dn_run 1 (show tkDn tm_181 (29, [some (.inr (.inr (6, 0, 0))), some (.inl (nI m)), none, none, none, none, none], [.inl 0], (I, tk_so J 6 0 N1, R)) _ from ?_)
      refine dn_retb rfl rfl rfl rfl (by decide) ?_
      exact hQ N1 0 f1 (Or.inl ⟨rfl, fun q => c2 (ite01.mpr q.1.1)⟩)
set_option maxRecDepth 8000 in
theorem sm_mayCome {I : tkI} {J : tkJ} {R : Nat → Nat} {Q : tkQ} {T : Nat → Int32} (hT : ∀ j, j < 16 → I 6 0 33 j = T j) (hO : TOk T) {S : tkS} (hP : NetP (I 6 0) S) (w : WF S) {e v : tkD} {N0 : Nat → Nat → Int64} (he : RowP (sM S) (N0 24) e) (hv : WRow (N0 25) v) {m : Nat} (hm : m < sM S) {t : Int32} (ht : I 6 0 0 31 = t) (hQ : ∀ N, (∀ s, s ≠ 0 → N s = N0 s) → Q (some (.inl (if canC S e v T t m then 1 else 0))) (I, tk_so J 6 0 N, R)) : tkDn tm_182 (0, [some (.inr (.inr (6, 0, 0))), some (.inl (nI m))], [], (I, tk_so J 6 0 N0, R)) Q := by
  refine dn_run 2 (show tkDn tm_182 (2, [some (.inr (.inr (6, 0, 0))), some (.inl (nI m))], [.inl (nI m), .inr (.inr (6, 0, 0))], (I, tk_so J 6 0 N0, R)) _ from ?_)
  refine dn_call rfl rfl rfl rfl rfl (sm_hasTime hT hO hP w he hv hm (fun N x hN h => ?_))
  show tkDn tm_182 (5, [some (.inr (.inr (6, 0, 0))), some (.inl (nI m))], [.inl x], (I, tk_so J 6 0 N, R)) _
  refine dn_if rfl rfl rfl (fun (c1 : x = 0) => ?_) (fun (c1 : ¬ x = 0) => ?_)
  · show tkDn tm_182 (38, [some (.inr (.inr (6, 0, 0))), some (.inl (nI m))], [], (I, tk_so J 6 0 N, R)) _
    refine dn_run 1 (show tkDn tm_182 (39, [some (.inr (.inr (6, 0, 0))), some (.inl (nI m))], [.inl 0], (I, tk_so J 6 0 N, R)) _ from ?_)
    refine dn_retb rfl rfl rfl rfl (by decide) ?_
    rw [if_neg (fun q => absurd ⟨q.1, fun z => by have := q.2; rw [ft_none z] at this; exact absurd (t_far t) (by rw [← this]; exact Int64.lt_irrefl)⟩ (h.resolve_right (fun z => absurd (c1.symm.trans z.1) (by decide))).2)] at hQ; exact hQ N hN
  · show tkDn tm_182 (8, [some (.inr (.inr (6, 0, 0))), some (.inl (nI m))], [], (I, tk_so J 6 0 N, R)) _
    obtain ⟨-, op, E, hE, h33, h34⟩ := h.resolve_left (fun q => c1 q.1)
    refine dn_run 6 (show tkDn tm_182 (18, [some (.inr (.inr (6, 0, 0))), some (.inl (nI m))], [.inl (lg_cmp (((I 6 0 0 31) : Int32).toInt64) (N 0 33))], (I, tk_so J 6 0 N, R)) _ from ?_)
    rw [ht, h33]
    show tkDn tm_182 (18, [some (.inr (.inr (6, 0, 0))), some (.inl (nI m))], [.inl (lg_cmp t.toInt64 E)], (I, tk_so J 6 0 N, R)) _
    refine dn_if rfl rfl rfl (fun (c2 : (lg_cmp t.toInt64 E) < 0) => ?_) (fun (c2 : ¬ (lg_cmp t.toInt64 E) < 0) => ?_)
    · show tkDn tm_182 (38, [some (.inr (.inr (6, 0, 0))), some (.inl (nI m))], [], (I, tk_so J 6 0 N, R)) _
      refine dn_run 1 (show tkDn tm_182 (39, [some (.inr (.inr (6, 0, 0))), some (.inl (nI m))], [.inl 0], (I, tk_so J 6 0 N, R)) _ from ?_)
      refine dn_retb rfl rfl rfl rfl (by decide) ?_
      rw [if_neg (fun q => absurd ((can_eq hE).mp q.2).1 (Int64.not_le.mpr ((lg_cmp_lt _ _).mp c2)))] at hQ; exact hQ N hN
    · show tkDn tm_182 (21, [some (.inr (.inr (6, 0, 0))), some (.inl (nI m))], [], (I, tk_so J 6 0 N, R)) _
      refine dn_run 6 (show tkDn tm_182 (31, [some (.inr (.inr (6, 0, 0))), some (.inl (nI m))], [.inl (lg_cmp (((I 6 0 0 31) : Int32).toInt64) (N 0 34))], (I, tk_so J 6 0 N, R)) _ from ?_)
      rw [ht, h34]
      show tkDn tm_182 (31, [some (.inr (.inr (6, 0, 0))), some (.inl (nI m))], [.inl (lg_cmp t.toInt64 (laF e T m (sM S) 0 4611686018427387904))], (I, tk_so J 6 0 N, R)) _
      refine dn_if rfl rfl rfl (fun (c3 : 0 < (lg_cmp t.toInt64 (laF e T m (sM S) 0 4611686018427387904))) => ?_) (fun (c3 : ¬ 0 < (lg_cmp t.toInt64 (laF e T m (sM S) 0 4611686018427387904))) => ?_)
      · show tkDn tm_182 (38, [some (.inr (.inr (6, 0, 0))), some (.inl (nI m))], [], (I, tk_so J 6 0 N, R)) _
        refine dn_run 1 (show tkDn tm_182 (39, [some (.inr (.inr (6, 0, 0))), some (.inl (nI m))], [.inl 0], (I, tk_so J 6 0 N, R)) _ from ?_)
        refine dn_retb rfl rfl rfl rfl (by decide) ?_
        rw [if_neg (fun q => absurd ((can_eq hE).mp q.2).2 (Int64.not_le.mpr ((lg_cmp_gt _ _).mp c3)))] at hQ; exact hQ N hN
      · show tkDn tm_182 (34, [some (.inr (.inr (6, 0, 0))), some (.inl (nI m))], [], (I, tk_so J 6 0 N, R)) _
        refine dn_run 2 (show tkDn tm_182 (39, [some (.inr (.inr (6, 0, 0))), some (.inl (nI m))], [.inl 1], (I, tk_so J 6 0 N, R)) _ from ?_)
        refine dn_retb rfl rfl rfl rfl (by decide) ?_
        rw [if_pos ⟨op, (can_eq hE).mpr ⟨Int64.not_lt.mp (fun q => c2 ((lg_cmp_lt _ _).mpr q)), Int64.not_lt.mp (fun q => c3 ((lg_cmp_gt _ _).mpr q))⟩⟩] at hQ; exact hQ N hN
/-- the reference's fields while a run goes on: T when who came -/
def mTk (X0 X : Nat → Nat → Int32) (T : Nat → Int32) : Prop := (∀ j, j < 16 → X 33 j = T j) ∧ ∀ s j, s ≠ 33 → X s j = X0 s j
set_option maxRecDepth 8000 in
theorem mTk.net {X0 X : Nat → Nat → Int32} {T : Nat → Int32} {S : tkS} (h : mTk X0 X T) (hP : NetP X0 S) : NetP X S := NetP_to hP (fun k _ => h.2 0 k (by decide)) (fun s h4 h9 => funext fun k => h.2 s k (by omega))
set_option maxRecDepth 8000 in
theorem TOk.u {T : Nat → Int32} (h : TOk T) {m : Nat} {t : Int32} (ht : 0 ≤ t) : TOk (tk_u1 T m t) := fun j hj => by
  by_cases q : j = m
  · subst q; rw [tk_u1_same]; exact Or.inr ht
  · rw [tk_u1_ne q]; exact h j hj
set_option maxRecDepth 8000 in
theorem sm_go_in {I : tkI} {J : tkJ} {R : Nat → Nat} {Q : tkQ} {S : tkS} (w : WF S) {X0 : Nat → Nat → Int32} (hP : NetP X0 S) {e v : tkD} {N0 : Nat → Nat → Int64} (he : RowP (sM S) (N0 24) e) (hv : WRow (N0 25) v) {t : Int32} (ht : X0 0 31 = t) (ht0 : 0 ≤ t) {T : Nat → Int32} (hO : TOk T) {d : Nat} (hK : lcF S e v T t (sM S) 0 = none → ∀ X N, mTk X0 X T → (∀ s, s ≠ 0 → N s = N0 s) → tkDn tm_184 (65, [some (.inr (.inr (6, 0, 0))), some (.inl (nI d)), some (.inl (nI (sM S)))], [], (tk_so I 6 0 X, tk_so J 6 0 N, R)) Q) (hC : ∀ m, lcF S e v T t (sM S) 0 = some m → ∀ X N, mTk X0 X (tk_u1 T m t) → (∀ s, s ≠ 0 → N s = N0 s) → tkDn tm_184 (25, [some (.inr (.inr (6, 0, 0))), some (.inl (nI (d + 1))), some (.inl (nI 0))], [], (tk_so I 6 0 X, tk_so J 6 0 N, R)) Q) : ∀ n c X N, c + n = sM S → lcF S e v T t n c = lcF S e v T t (sM S) 0 → mTk X0 X T → (∀ s, s ≠ 0 → N s = N0 s) → tkDn tm_184 (25, [some (.inr (.inr (6, 0, 0))), some (.inl (nI d)), some (.inl (nI c))], [], (tk_so I 6 0 X, tk_so J 6 0 N, R)) Q := by
  have hM16 := w.1
  intro n
  induction n with
  | zero =>
    intro c X N hc h hX hN
    have hPX : NetP (tk_so I 6 0 X 6 0) S := by rw [tk_so_same]; exact hX.net hP
    have hM : X 0 0 = nI (sM S) := (hX.2 0 0 (by decide)).trans hP.m
    show tkDn tm_184 (25, [some (.inr (.inr (6, 0, 0))), some (.inl (nI d)), some (.inl (nI c))], [], (tk_so I 6 0 X, tk_so J 6 0 N, R)) _
    refine dn_run 3 (show tkDn tm_184 (30, [some (.inr (.inr (6, 0, 0))), some (.inl (nI d)), some (.inl (nI c))], [.inl (X 0 0), .inl (nI c)], (tk_so I 6 0 X, tk_so J 6 0 N, R)) _ from ?_)
    rw [hM]
    show tkDn tm_184 (30, [some (.inr (.inr (6, 0, 0))), some (.inl (nI d)), some (.inl (nI c))], [.inl (nI (sM S)), .inl (nI c)], (tk_so I 6 0 X, tk_so J 6 0 N, R)) _
    refine dn_if rfl rfl rfl (fun (c0 : (nI (sM S)) ≤ (nI c)) => ?_) (fun (c0 : ¬ (nI (sM S)) ≤ (nI c)) => ?_)
    · show tkDn tm_184 (65, [some (.inr (.inr (6, 0, 0))), some (.inl (nI d)), some (.inl (nI c))], [], (tk_so I 6 0 X, tk_so J 6 0 N, R)) _
      rw [show c = sM S by omega]
      exact hK h.symm X N hX hN
    · exact absurd (nI_le (by omega) (by omega)) c0
  | succ n ih =>
    intro c X N hc h hX hN
    have hPX : NetP (tk_so I 6 0 X 6 0) S := by rw [tk_so_same]; exact hX.net hP
    have hM : X 0 0 = nI (sM S) := (hX.2 0 0 (by decide)).trans hP.m
    show tkDn tm_184 (25, [some (.inr (.inr (6, 0, 0))), some (.inl (nI d)), some (.inl (nI c))], [], (tk_so I 6 0 X, tk_so J 6 0 N, R)) _
    refine dn_run 3 (show tkDn tm_184 (30, [some (.inr (.inr (6, 0, 0))), some (.inl (nI d)), some (.inl (nI c))], [.inl (X 0 0), .inl (nI c)], (tk_so I 6 0 X, tk_so J 6 0 N, R)) _ from ?_)
    rw [hM]
    show tkDn tm_184 (30, [some (.inr (.inr (6, 0, 0))), some (.inl (nI d)), some (.inl (nI c))], [.inl (nI (sM S)), .inl (nI c)], (tk_so I 6 0 X, tk_so J 6 0 N, R)) _
    refine dn_if rfl rfl rfl (fun (c0 : (nI (sM S)) ≤ (nI c)) => ?_) (fun (c0 : ¬ (nI (sM S)) ≤ (nI c)) => ?_)
    · exact absurd c0 (nI_ge (by omega) (by omega))
    · show tkDn tm_184 (33, [some (.inr (.inr (6, 0, 0))), some (.inl (nI d)), some (.inl (nI c))], [], (tk_so I 6 0 X, tk_so J 6 0 N, R)) _
      have hTX : ∀ j, j < 16 → tk_so I 6 0 X 6 0 33 j = T j := by rw [tk_so_same]; exact hX.1
      have htX : tk_so I 6 0 X 6 0 0 31 = t := by rw [tk_so_same]; exact (hX.2 0 31 (by decide)).trans ht
      refine dn_run 2 (show tkDn tm_184 (35, [some (.inr (.inr (6, 0, 0))), some (.inl (nI d)), some (.inl (nI c))], [.inl (nI c), .inr (.inr (6, 0, 0))], (tk_so I 6 0 X, tk_so J 6 0 N, R)) _ from ?_)
      refine dn_call rfl rfl rfl rfl rfl (sm_mayCome hTX hO hPX w (e := e) (v := v) (N0 := N) (by rw [hN 24 (by decide)]; exact he) (by rw [hN 25 (by decide)]; exact hv) (by omega) htX (fun N2 hN2 => ?_))
      show tkDn tm_184 (38, [some (.inr (.inr (6, 0, 0))), some (.inl (nI d)), some (.inl (nI c))], [.inl (if canC S e v T t c then 1 else 0)], (tk_so I 6 0 X, tk_so J 6 0 N2, R)) _
      refine dn_if rfl rfl rfl (fun (c1 : (if canC S e v T t c then 1 else 0) = 0) => ?_) (fun (c1 : ¬ (if canC S e v T t c then 1 else 0) = 0) => ?_)
      · show tkDn tm_184 (59, [some (.inr (.inr (6, 0, 0))), some (.inl (nI d)), some (.inl (nI c))], [], (tk_so I 6 0 X, tk_so J 6 0 N2, R)) _
        refine dn_run 2 (show tkDn tm_184 (25, [some (.inr (.inr (6, 0, 0))), some (.inl (nI d)), some (.inl ((nI c) + 1))], [], (tk_so I 6 0 X, tk_so J 6 0 N2, R)) _ from ?_)
        rw [nI_1]
        exact ih (c + 1) X N2 (by omega) ((show lcF S e v T t (n + 1) c = lcF S e v T t n (c + 1) from if_neg (ite10.mp c1)).symm.trans h) hX (fun s hs => (hN2 s hs).trans (hN s hs))
      · show tkDn tm_184 (41, [some (.inr (.inr (6, 0, 0))), some (.inl (nI d)), some (.inl (nI c))], [], (tk_so I 6 0 X, tk_so J 6 0 N2, R)) _
        have hcan : canC S e v T t c := Classical.byContradiction fun q => c1 (ite10.mpr q)
        refine dn_run 10 (show (vp_in (nI c) 16) ∧ tkDn tm_184 (25, [some (.inr (.inr (6, 0, 0))), some (.inl ((nI d) + 1)), some (.inl 0)], [], (tk_so (tk_so I 6 0 X) 6 0 (tk_u2 X 33 ((nI c).toNatClampNeg) (X 0 31)), tk_so J 6 0 N2, R)) _ from ⟨vp_in_nI (by omega) (by omega), ?_⟩)
        rw [tk_so_so]
        rw [nI_1, nI_clamp (show c < 2 ^ 31 by omega), (hX.2 0 31 (by decide)).trans ht]
        refine hC c ((show lcF S e v T t (n + 1) c = some c from if_pos hcan).symm.trans h).symm _ N2 ⟨fun j hj => ?_, fun s j hs => by rw [tk_u2_ne hs]; exact hX.2 s j hs⟩ (fun s hs => (hN2 s hs).trans (hN s hs))
        rw [tk_u2_at]
        by_cases q : j = c
        · rw [q, tk_u1_same, tk_u1_same]
        · rw [tk_u1_ne q, tk_u1_ne q]; exact hX.1 j hj
set_option maxRecDepth 8000 in
theorem sm_go_loop {I : tkI} {J : tkJ} {R : Nat → Nat} {Q : tkQ} {S : tkS} (w : WF S) {X0 : Nat → Nat → Int32} (hP : NetP X0 S) {e v : tkD} {N0 : Nat → Nat → Int64} (he : RowP (sM S) (N0 24) e) (hv : WRow (N0 25) v) {t : Int32} (ht : X0 0 31 = t) (ht0 : 0 ≤ t) {T0 : Nat → Int32} (hK : ∀ X N, mTk X0 X (goF S e v t 16 T0).2 → (∀ s, s ≠ 0 → N s = N0 s) → tkDn tm_184 (65, [some (.inr (.inr (6, 0, 0))), some (.inl (nI (goF S e v t 16 T0).1)), some (.inl (nI (sM S)))], [], (tk_so I 6 0 X, tk_so J 6 0 N, R)) Q) : ∀ f T d X N, ncF T (sM S) ≤ f → TOk T → (d + (goF S e v t f T).1, (goF S e v t f T).2) = goF S e v t 16 T0 → mTk X0 X T → (∀ s, s ≠ 0 → N s = N0 s) → tkDn tm_184 (25, [some (.inr (.inr (6, 0, 0))), some (.inl (nI d)), some (.inl (nI 0))], [], (tk_so I 6 0 X, tk_so J 6 0 N, R)) Q := by
  have ht9 : ¬ t = -9 := fun q => by rw [q] at ht0; exact absurd ht0 (by decide)
  intro f
  induction f with
  | zero =>
    intro T d X N hn hO h hX hN
    refine sm_go_in w hP he hv ht ht0 hO (fun hl X N hX hN => ?_) (fun m hm X N hX hN => ?_) (sM S) 0 X N (Nat.zero_add _) rfl hX hN
    · have h1 : d = (goF S e v t 16 T0).1 := congrArg Prod.fst h
      have h2 : T = (goF S e v t 16 T0).2 := congrArg Prod.snd h
      rw [h1]
      rw [h2] at hX
      exact hK X N hX hN
    · have h1 := ncF_pos (lcF_can _ _ _ hm).1.1 (sM S) (by have := lcF_lt _ _ _ hm; omega)
      omega
  | succ f ih =>
    intro T d X N hn hO h hX hN
    refine sm_go_in w hP he hv ht ht0 hO (fun hl X N hX hN => ?_) (fun m hm X N hX hN => ?_) (sM S) 0 X N (Nat.zero_add _) rfl hX hN
    · rw [show goF S e v t (f + 1) T = (0, T) by rw [goF, hl]] at h
      have h1 : d = (goF S e v t 16 T0).1 := congrArg Prod.fst h
      have h2 : T = (goF S e v t 16 T0).2 := congrArg Prod.snd h
      rw [h1]
      rw [h2] at hX
      exact hK X N hX hN
    · have h1 := ncF_u (lcF_can _ _ _ hm).1.1 ht9 (sM S) (by have := lcF_lt _ _ _ hm; omega)
      rw [show goF S e v t (f + 1) T = ((goF S e v t f (tk_u1 T m t)).1 + 1, (goF S e v t f (tk_u1 T m t)).2) by rw [goF, hm]] at h
      exact ih (tk_u1 T m t) (d + 1) X N (by omega) (hO.u ht0) (by rw [← h]; exact Prod.ext (by dsimp only; omega) rfl) hX hN
set_option maxRecDepth 8000 in
theorem sm_goOn {I : tkI} {J : tkJ} {R : Nat → Nat} {Q : tkQ} {T : Nat → Int32} (hT : ∀ j, j < 16 → I 6 0 33 j = T j) (hO : TOk T) {S : tkS} (hP : NetP (I 6 0) S) (w : WF S) {e v : tkD} {on : Int32} (he : on = 1 → RowP (sM S) (J 6 0 24) e) (hv : on = 1 → WRow (J 6 0 25) v) {t : Int32} (ht : I 6 0 0 31 = t) (ht0 : 0 ≤ t) (hon : I 6 0 0 10 = on) (hb : on = 0 ∨ on = 1) (hQ0 : (¬ on = 1 ∨ ltF S T t (sG S) 0 = true) → Q (some (.inl (-13))) (I, J, R)) (hQ : on = 1 → ¬ ltF S T t (sG S) 0 = true → ∀ X N, (∀ j, j < 16 → X 33 j = (goF S e v t 16 T).2 j) → X 0 31 = t + 1 → (∀ s j, s ≠ 33 → ¬ (s = 0 ∧ j = 31) → X s j = I 6 0 s j) → (∀ s, s ≠ 0 → N s = J 6 0 s) → Q (some (.inl (nI (goF S e v t 16 T).1))) (tk_so I 6 0 X, tk_so J 6 0 N, R)) : tkDn tm_184 (0, [some (.inr (.inr (6, 0, 0))), none, none], [], (I, J, R)) Q := by
  have hM16 := w.1
  have hL60 := w.2.1
  have hG6 := w.2.2.1
  have hM := hP.m
  have hG := hP.g
  have hL := hP.l
  refine dn_run 2 (show tkDn tm_184 (4, [some (.inr (.inr (6, 0, 0))), none, none], [.inl (I 6 0 0 10)], (I, J, R)) _ from ?_)
  rw [hon]
  show tkDn tm_184 (4, [some (.inr (.inr (6, 0, 0))), none, none], [.inl on], (I, J, R)) _
  refine dn_if rfl rfl rfl (fun (c1 : on = 0) => ?_) (fun (c1 : ¬ on = 0) => ?_)
  · show tkDn tm_184 (18, [some (.inr (.inr (6, 0, 0))), none, none], [], (I, J, R)) _
    refine dn_run 1 (show tkDn tm_184 (20, [some (.inr (.inr (6, 0, 0))), none, none], [.inl (-13)], (I, J, R)) _ from ?_)
    refine dn_ret0 rfl rfl rfl rfl ?_
    exact hQ0 (Or.inl (fun q => absurd (c1.symm.trans q) (by decide)))
  · show tkDn tm_184 (7, [some (.inr (.inr (6, 0, 0))), none, none], [], (I, J, R)) _
    have on1 : on = 1 := hb.resolve_left c1
    refine dn_run 3 (show tkDn tm_184 (12, [some (.inr (.inr (6, 0, 0))), none, none], [.inl (I 6 0 0 31), .inr (.inr (6, 0, 0))], (I, J, R)) _ from ?_)
    rw [ht]
    show tkDn tm_184 (12, [some (.inr (.inr (6, 0, 0))), none, none], [.inl t, .inr (.inr (6, 0, 0))], (I, J, R)) _
    refine dn_call rfl rfl rfl rfl rfl (sm_isLate hT hO hP w ?_)
    show tkDn tm_184 (15, [some (.inr (.inr (6, 0, 0))), none, none], [.inl (if ltF S T t (sG S) 0 = true then 1 else 0)], (I, J, R)) _
    refine dn_if rfl rfl rfl (fun (c2 : (if ltF S T t (sG S) 0 = true then 1 else 0) = 0) => ?_) (fun (c2 : ¬ (if ltF S T t (sG S) 0 = true then 1 else 0) = 0) => ?_)
    · show tkDn tm_184 (21, [some (.inr (.inr (6, 0, 0))), none, none], [], (I, J, R)) _
      have nl := ite10.mp c2
      refine dn_run 4 (show tkDn tm_184 (25, [some (.inr (.inr (6, 0, 0))), some (.inl 0), some (.inl 0)], [], (I, J, R)) _ from ?_)
      have key := sm_go_loop (I := I) (J := J) (R := R) (Q := Q) w (X0 := I 6 0) hP (N0 := J 6 0) (he on1) (hv on1) ht ht0 (T0 := T) (fun X N hX hN => ?_) 16 T 0 (I 6 0) (J 6 0) (by have := ncF_le (T := T) (sM S); omega) hO (by rw [Nat.zero_add]) ⟨hT, fun _ _ _ => rfl⟩ (fun _ _ => rfl)
      · rw [tk_so_id, tk_so_id] at key; exact key
      show tkDn tm_184 (65, [some (.inr (.inr (6, 0, 0))), some (.inl (nI (goF S e v t 16 T).1)), some (.inl (nI (sM S)))], [], (tk_so I 6 0 X, tk_so J 6 0 N, R)) _
      refine dn_run 7 (show tkDn tm_184 (76, [some (.inr (.inr (6, 0, 0))), some (.inl (nI (goF S e v t 16 T).1)), some (.inl (nI (sM S)))], [.inl (nI (goF S e v t 16 T).1)], (tk_so (tk_so I 6 0 X) 6 0 (tk_u2 X 0 31 ((X 0 31) + 1)), tk_so J 6 0 N, R)) _ from ?_)
      rw [tk_so_so]
      rw [(hX.2 0 31 (by decide)).trans ht]
      refine dn_ret0 rfl rfl rfl rfl ?_
      exact hQ on1 nl _ N (fun j hj => by rw [tk_u2_ne (by decide)]; exact hX.1 j hj) (by rw [tk_u2_1]) (fun s j h1 h2 => by rw [tk_u2_0 h2]; exact hX.2 s j h1) hN
    · show tkDn tm_184 (18, [some (.inr (.inr (6, 0, 0))), none, none], [], (I, J, R)) _
      refine dn_run 1 (show tkDn tm_184 (20, [some (.inr (.inr (6, 0, 0))), none, none], [.inl (-13)], (I, J, R)) _ from ?_)
      refine dn_ret0 rfl rfl rfl rfl ?_
      exact hQ0 (Or.inr (Classical.byContradiction fun q => c2 (ite10.mpr q)))
set_option maxRecDepth 8000 in
theorem sm_id1 {I : tkI} {J : tkJ} {R : Nat → Nat} {Q : tkQ} {T : Nat → Int32} (hT : ∀ j, j < 16 → I 6 0 33 j = T j) (hO : TOk T) {S : tkS} (hP : NetP (I 6 0) S) (w : WF S) {e v : tkD} {N0 : Nat → Nat → Int64} (he : RowP (sM S) (N0 24) e) (hv : WRow (N0 25) v) {t n0 : Int32} (ht : I 6 0 0 31 = t) (hK : ∀ N o5, (∀ s, s ≠ 0 → N s = N0 s) → tkDn tm_185 (122, [some (.inr (.inr (6, 0, 0))), some (.inl n0), some (.inr (.inl (paM S e v T t (sM S) 0 (t.toInt64 + n0.toInt64)))), none, some (.inl (nI (sM S))), o5, none], [], (I, tk_so J 6 0 N, R)) Q) : ∀ n c a N o5, c + n = sM S → a ≤ 4611686018427387904 → paM S e v T t n c a = paM S e v T t (sM S) 0 (t.toInt64 + n0.toInt64) → (∀ s, s ≠ 0 → N s = N0 s) → tkDn tm_185 (47, [some (.inr (.inr (6, 0, 0))), some (.inl n0), some (.inr (.inl a)), none, some (.inl (nI c)), o5, none], [], (I, tk_so J 6 0 N, R)) Q := by
  have hM16 := w.1
  have hL60 := w.2.1
  have hG6 := w.2.2.1
  have hM := hP.m
  have hG := hP.g
  have hL := hP.l
  intro n
  induction n with
  | zero =>
    intro c a N o5 hc ha h hN
    show tkDn tm_185 (47, [some (.inr (.inr (6, 0, 0))), some (.inl n0), some (.inr (.inl a)), none, some (.inl (nI c)), o5, none], [], (I, tk_so J 6 0 N, R)) _
    refine dn_run 3 (show tkDn tm_185 (53, [some (.inr (.inr (6, 0, 0))), some (.inl n0), some (.inr (.inl a)), none, some (.inl (nI c)), o5, none], [.inl (I 6 0 0 0), .inl (nI c)], (I, tk_so J 6 0 N, R)) _ from ?_)
    rw [hM]
    show tkDn tm_185 (53, [some (.inr (.inr (6, 0, 0))), some (.inl n0), some (.inr (.inl a)), none, some (.inl (nI c)), o5, none], [.inl (nI (sM S)), .inl (nI c)], (I, tk_so J 6 0 N, R)) _
    refine dn_if rfl rfl rfl (fun (c0 : (nI (sM S)) ≤ (nI c)) => ?_) (fun (c0 : ¬ (nI (sM S)) ≤ (nI c)) => ?_)
    · show tkDn tm_185 (122, [some (.inr (.inr (6, 0, 0))), some (.inl n0), some (.inr (.inl a)), none, some (.inl (nI c)), o5, none], [], (I, tk_so J 6 0 N, R)) _
      rw [show c = sM S by omega, show a = _ from h]
      exact hK N _ hN
    · exact absurd (nI_le (by omega) (by omega)) c0
  | succ n ih =>
    intro c a N o5 hc ha h hN
    show tkDn tm_185 (47, [some (.inr (.inr (6, 0, 0))), some (.inl n0), some (.inr (.inl a)), none, some (.inl (nI c)), o5, none], [], (I, tk_so J 6 0 N, R)) _
    refine dn_run 3 (show tkDn tm_185 (53, [some (.inr (.inr (6, 0, 0))), some (.inl n0), some (.inr (.inl a)), none, some (.inl (nI c)), o5, none], [.inl (I 6 0 0 0), .inl (nI c)], (I, tk_so J 6 0 N, R)) _ from ?_)
    rw [hM]
    show tkDn tm_185 (53, [some (.inr (.inr (6, 0, 0))), some (.inl n0), some (.inr (.inl a)), none, some (.inl (nI c)), o5, none], [.inl (nI (sM S)), .inl (nI c)], (I, tk_so J 6 0 N, R)) _
    refine dn_if rfl rfl rfl (fun (c0 : (nI (sM S)) ≤ (nI c)) => ?_) (fun (c0 : ¬ (nI (sM S)) ≤ (nI c)) => ?_)
    · exact absurd c0 (nI_ge (by omega) (by omega))
    · show tkDn tm_185 (56, [some (.inr (.inr (6, 0, 0))), some (.inl n0), some (.inr (.inl a)), none, some (.inl (nI c)), o5, none], [], (I, tk_so J 6 0 N, R)) _
      refine dn_run 2 (show tkDn tm_185 (59, [some (.inr (.inr (6, 0, 0))), some (.inl n0), some (.inr (.inl a)), none, some (.inl (nI c)), o5, none], [.inl (nI c), .inr (.inr (6, 0, 0))], (I, tk_so J 6 0 N, R)) _ from ?_)
      refine dn_call rfl rfl rfl rfl rfl (sm_hasTime hT hO hP w (e := e) (v := v) (N0 := N) (by rw [hN 24 (by decide)]; exact he) (by rw [hN 25 (by decide)]; exact hv) (m := c) (by omega) (fun N2 x hN2 hx => ?_))
      show tkDn tm_185 (62, [some (.inr (.inr (6, 0, 0))), some (.inl n0), some (.inr (.inl a)), none, some (.inl (nI c)), o5, none], [.inl x], (I, tk_so J 6 0 N2, R)) _
      have hN3 : ∀ s, s ≠ 0 → N2 s = N0 s := fun s hs => (hN2 s hs).trans (hN s hs)
      refine dn_if rfl rfl rfl (fun (c1 : x = 0) => ?_) (fun (c1 : ¬ x = 0) => ?_)
      · show tkDn tm_185 (116, [some (.inr (.inr (6, 0, 0))), some (.inl n0), some (.inr (.inl a)), none, some (.inl (nI c)), o5, none], [], (I, tk_so J 6 0 N2, R)) _
        have hx := (hx.resolve_right (fun z => absurd (c1.symm.trans z.1) (by decide))).2
        have hs : paM S e v T t (n + 1) c a = paM S e v T t n (c + 1) a := by
          by_cases q : opn S T c
          · exact (if_pos q).trans (by rw [ft_none (Classical.byContradiction fun z => hx ⟨q, z⟩), mn_ge ha])
          · exact if_neg q
        refine dn_run 2 (show tkDn tm_185 (47, [some (.inr (.inr (6, 0, 0))), some (.inl n0), some (.inr (.inl a)), none, some (.inl ((nI c) + 1)), o5, none], [], (I, tk_so J 6 0 N2, R)) _ from ?_)
        rw [nI_1]
        exact ih (c + 1) a N2 _ (by omega) ha ((show paM S e v T t (n + 1) c a = paM S e v T t n (c + 1) a from hs).symm.trans h) hN3
      · show tkDn tm_185 (65, [some (.inr (.inr (6, 0, 0))), some (.inl n0), some (.inr (.inl a)), none, some (.inl (nI c)), o5, none], [], (I, tk_so J 6 0 N2, R)) _
        obtain ⟨-, op, E, hE, h33, h34⟩ := hx.resolve_left (fun q => c1 q.1)
        refine dn_run 6 (show tkDn tm_185 (75, [some (.inr (.inr (6, 0, 0))), some (.inl n0), some (.inr (.inl a)), none, some (.inl (nI c)), o5, none], [.inl (lg_cmp (N2 0 33) (((I 6 0 0 31) : Int32).toInt64))], (I, tk_so J 6 0 N2, R)) _ from ?_)
        rw [ht, h33]
        show tkDn tm_185 (75, [some (.inr (.inr (6, 0, 0))), some (.inl n0), some (.inr (.inl a)), none, some (.inl (nI c)), o5, none], [.inl (lg_cmp E t.toInt64)], (I, tk_so J 6 0 N2, R)) _
        refine dn_if rfl rfl rfl (fun (c2 : (lg_cmp E t.toInt64) ≤ 0) => ?_) (fun (c2 : ¬ (lg_cmp E t.toInt64) ≤ 0) => ?_)
        · show tkDn tm_185 (85, [some (.inr (.inr (6, 0, 0))), some (.inl n0), some (.inr (.inl a)), none, some (.inl (nI c)), o5, none], [], (I, tk_so J 6 0 N2, R)) _
          refine dn_run 8 (show tkDn tm_185 (99, [some (.inr (.inr (6, 0, 0))), some (.inl n0), some (.inr (.inl a)), none, some (.inl (nI c)), some (.inr (.inl (((I 6 0 0 31) : Int32).toInt64))), none], [.inl (lg_cmp (((I 6 0 0 31) : Int32).toInt64) (N2 0 34))], (I, tk_so J 6 0 N2, R)) _ from ?_)
          rw [ht, h34]
          rw [show t.toInt64 = ftE S e v T t c from (by rw [ft_some hE, mx_le ((lg_cmp_le _ _).mp c2)])]
          show tkDn tm_185 (99, [some (.inr (.inr (6, 0, 0))), some (.inl n0), some (.inr (.inl a)), none, some (.inl (nI c)), some (.inr (.inl (ftE S e v T t c))), none], [.inl (lg_cmp (ftE S e v T t c) (laF e T c (sM S) 0 4611686018427387904))], (I, tk_so J 6 0 N2, R)) _
          refine dn_if rfl rfl rfl (fun (c3 : 0 < (lg_cmp (ftE S e v T t c) (laF e T c (sM S) 0 4611686018427387904))) => ?_) (fun (c3 : ¬ 0 < (lg_cmp (ftE S e v T t c) (laF e T c (sM S) 0 4611686018427387904))) => ?_)
          · show tkDn tm_185 (114, [some (.inr (.inr (6, 0, 0))), some (.inl n0), some (.inr (.inl a)), none, some (.inl (nI c)), some (.inr (.inl (ftE S e v T t c))), none], [], (I, tk_so J 6 0 N2, R)) _
            refine dn_run 4 (show tkDn tm_185 (47, [some (.inr (.inr (6, 0, 0))), some (.inl n0), some (.inr (.inl a)), none, some (.inl ((nI c) + 1)), some (.inr (.inl (ftE S e v T t c))), none], [], (I, tk_so J 6 0 N2, R)) _ from ?_)
            rw [nI_1]
            exact ih (c + 1) a N2 _ (by omega) ha ((show paM S e v T t (n + 1) c a = paM S e v T t n (c + 1) a from (if_pos op).trans (by rw [show ftF S e v T t c = 4611686018427387904 from if_neg (Int64.not_le.mpr ((lg_cmp_gt _ _).mp c3)), mn_ge ha])).symm.trans h) hN3
          · show tkDn tm_185 (102, [some (.inr (.inr (6, 0, 0))), some (.inl n0), some (.inr (.inl a)), none, some (.inl (nI c)), some (.inr (.inl (ftE S e v T t c))), none], [], (I, tk_so J 6 0 N2, R)) _
            have hF : ftF S e v T t c = ftE S e v T t c := if_pos (Int64.not_lt.mp (fun q => c3 ((lg_cmp_gt _ _).mpr q)))
            refine dn_run 3 (show tkDn tm_185 (106, [some (.inr (.inr (6, 0, 0))), some (.inl n0), some (.inr (.inl a)), none, some (.inl (nI c)), some (.inr (.inl (ftE S e v T t c))), none], [.inl (lg_cmp (ftE S e v T t c) a)], (I, tk_so J 6 0 N2, R)) _ from ?_)
            refine dn_if rfl rfl rfl (fun (c4 : 0 ≤ (lg_cmp (ftE S e v T t c) a)) => ?_) (fun (c4 : ¬ 0 ≤ (lg_cmp (ftE S e v T t c) a)) => ?_)
            · show tkDn tm_185 (114, [some (.inr (.inr (6, 0, 0))), some (.inl n0), some (.inr (.inl a)), none, some (.inl (nI c)), some (.inr (.inl (ftE S e v T t c))), none], [], (I, tk_so J 6 0 N2, R)) _
              refine dn_run 4 (show tkDn tm_185 (47, [some (.inr (.inr (6, 0, 0))), some (.inl n0), some (.inr (.inl a)), none, some (.inl ((nI c) + 1)), some (.inr (.inl (ftE S e v T t c))), none], [], (I, tk_so J 6 0 N2, R)) _ from ?_)
              rw [nI_1]
              exact ih (c + 1) a N2 _ (by omega) ha ((show paM S e v T t (n + 1) c a = paM S e v T t n (c + 1) a from (if_pos op).trans (by rw [hF, mn_ge ((lg_cmp_ge _ _).mp c4)])).symm.trans h) hN3
            · show tkDn tm_185 (109, [some (.inr (.inr (6, 0, 0))), some (.inl n0), some (.inr (.inl a)), none, some (.inl (nI c)), some (.inr (.inl (ftE S e v T t c))), none], [], (I, tk_so J 6 0 N2, R)) _
              have c5 := Int64.not_le.mp (fun q => c4 ((lg_cmp_ge _ _).mpr q))
              refine dn_run 5 (show tkDn tm_185 (47, [some (.inr (.inr (6, 0, 0))), some (.inl n0), some (.inr (.inl (ftE S e v T t c))), none, some (.inl ((nI c) + 1)), some (.inr (.inl (ftE S e v T t c))), none], [], (I, tk_so J 6 0 N2, R)) _ from ?_)
              rw [nI_1]
              exact ih (c + 1) (ftE S e v T t c) N2 _ (by omega) (ll_trans (Int64.le_of_lt c5) ha) ((show paM S e v T t (n + 1) c a = paM S e v T t n (c + 1) (ftE S e v T t c) from (if_pos op).trans (by rw [hF, mn_lt c5])).symm.trans h) hN3
        · show tkDn tm_185 (78, [some (.inr (.inr (6, 0, 0))), some (.inl n0), some (.inr (.inl a)), none, some (.inl (nI c)), o5, none], [], (I, tk_so J 6 0 N2, R)) _
          refine dn_run 8 (show tkDn tm_185 (99, [some (.inr (.inr (6, 0, 0))), some (.inl n0), some (.inr (.inl a)), none, some (.inl (nI c)), some (.inr (.inl (N2 0 33))), none], [.inl (lg_cmp (N2 0 33) (N2 0 34))], (I, tk_so J 6 0 N2, R)) _ from ?_)
          rw [h33, h34]
          rw [show E = ftE S e v T t c from (by rw [ft_some hE, mx_gt (Int64.not_le.mp (fun q => c2 ((lg_cmp_le _ _).mpr q)))])]
          show tkDn tm_185 (99, [some (.inr (.inr (6, 0, 0))), some (.inl n0), some (.inr (.inl a)), none, some (.inl (nI c)), some (.inr (.inl (ftE S e v T t c))), none], [.inl (lg_cmp (ftE S e v T t c) (laF e T c (sM S) 0 4611686018427387904))], (I, tk_so J 6 0 N2, R)) _
          refine dn_if rfl rfl rfl (fun (c3 : 0 < (lg_cmp (ftE S e v T t c) (laF e T c (sM S) 0 4611686018427387904))) => ?_) (fun (c3 : ¬ 0 < (lg_cmp (ftE S e v T t c) (laF e T c (sM S) 0 4611686018427387904))) => ?_)
          · show tkDn tm_185 (114, [some (.inr (.inr (6, 0, 0))), some (.inl n0), some (.inr (.inl a)), none, some (.inl (nI c)), some (.inr (.inl (ftE S e v T t c))), none], [], (I, tk_so J 6 0 N2, R)) _
            refine dn_run 4 (show tkDn tm_185 (47, [some (.inr (.inr (6, 0, 0))), some (.inl n0), some (.inr (.inl a)), none, some (.inl ((nI c) + 1)), some (.inr (.inl (ftE S e v T t c))), none], [], (I, tk_so J 6 0 N2, R)) _ from ?_)
            rw [nI_1]
            exact ih (c + 1) a N2 _ (by omega) ha ((show paM S e v T t (n + 1) c a = paM S e v T t n (c + 1) a from (if_pos op).trans (by rw [show ftF S e v T t c = 4611686018427387904 from if_neg (Int64.not_le.mpr ((lg_cmp_gt _ _).mp c3)), mn_ge ha])).symm.trans h) hN3
          · show tkDn tm_185 (102, [some (.inr (.inr (6, 0, 0))), some (.inl n0), some (.inr (.inl a)), none, some (.inl (nI c)), some (.inr (.inl (ftE S e v T t c))), none], [], (I, tk_so J 6 0 N2, R)) _
            have hF : ftF S e v T t c = ftE S e v T t c := if_pos (Int64.not_lt.mp (fun q => c3 ((lg_cmp_gt _ _).mpr q)))
            refine dn_run 3 (show tkDn tm_185 (106, [some (.inr (.inr (6, 0, 0))), some (.inl n0), some (.inr (.inl a)), none, some (.inl (nI c)), some (.inr (.inl (ftE S e v T t c))), none], [.inl (lg_cmp (ftE S e v T t c) a)], (I, tk_so J 6 0 N2, R)) _ from ?_)
            refine dn_if rfl rfl rfl (fun (c4 : 0 ≤ (lg_cmp (ftE S e v T t c) a)) => ?_) (fun (c4 : ¬ 0 ≤ (lg_cmp (ftE S e v T t c) a)) => ?_)
            · show tkDn tm_185 (114, [some (.inr (.inr (6, 0, 0))), some (.inl n0), some (.inr (.inl a)), none, some (.inl (nI c)), some (.inr (.inl (ftE S e v T t c))), none], [], (I, tk_so J 6 0 N2, R)) _
              refine dn_run 4 (show tkDn tm_185 (47, [some (.inr (.inr (6, 0, 0))), some (.inl n0), some (.inr (.inl a)), none, some (.inl ((nI c) + 1)), some (.inr (.inl (ftE S e v T t c))), none], [], (I, tk_so J 6 0 N2, R)) _ from ?_)
              rw [nI_1]
              exact ih (c + 1) a N2 _ (by omega) ha ((show paM S e v T t (n + 1) c a = paM S e v T t n (c + 1) a from (if_pos op).trans (by rw [hF, mn_ge ((lg_cmp_ge _ _).mp c4)])).symm.trans h) hN3
            · show tkDn tm_185 (109, [some (.inr (.inr (6, 0, 0))), some (.inl n0), some (.inr (.inl a)), none, some (.inl (nI c)), some (.inr (.inl (ftE S e v T t c))), none], [], (I, tk_so J 6 0 N2, R)) _
              have c5 := Int64.not_le.mp (fun q => c4 ((lg_cmp_ge _ _).mpr q))
              refine dn_run 5 (show tkDn tm_185 (47, [some (.inr (.inr (6, 0, 0))), some (.inl n0), some (.inr (.inl (ftE S e v T t c))), none, some (.inl ((nI c) + 1)), some (.inr (.inl (ftE S e v T t c))), none], [], (I, tk_so J 6 0 N2, R)) _ from ?_)
              rw [nI_1]
              exact ih (c + 1) (ftE S e v T t c) N2 _ (by omega) (ll_trans (Int64.le_of_lt c5) ha) ((show paM S e v T t (n + 1) c a = paM S e v T t n (c + 1) (ftE S e v T t c) from (if_pos op).trans (by rw [hF, mn_lt c5])).symm.trans h) hN3
set_option maxRecDepth 8000 in
theorem sm_id2 {I : tkI} {J : tkJ} {R : Nat → Nat} {Q : tkQ} {T : Nat → Int32} (hT : ∀ j, j < 16 → I 6 0 33 j = T j) (hO : TOk T) {S : tkS} (hP : NetP (I 6 0) S) (w : WF S) {e v : tkD} {N : Nat → Nat → Int64} {t n0 : Int32} (hK : ∀ o5, tkDn tm_185 (208, [some (.inr (.inr (6, 0, 0))), some (.inl n0), some (.inr (.inl (paF S e v T t n0))), none, some (.inl (nI (sG S))), o5, none], [], (I, tk_so J 6 0 N, R)) Q) : ∀ n c a o5, c + n = sG S → paG S T n c a = paF S e v T t n0 → tkDn tm_185 (125, [some (.inr (.inr (6, 0, 0))), some (.inl n0), some (.inr (.inl a)), none, some (.inl (nI c)), o5, none], [], (I, tk_so J 6 0 N, R)) Q := by
  have hM16 := w.1
  have hL60 := w.2.1
  have hG6 := w.2.2.1
  have hM := hP.m
  have hG := hP.g
  have hL := hP.l
  intro n
  induction n with
  | zero =>
    intro c a o5 hc h
    show tkDn tm_185 (125, [some (.inr (.inr (6, 0, 0))), some (.inl n0), some (.inr (.inl a)), none, some (.inl (nI c)), o5, none], [], (I, tk_so J 6 0 N, R)) _
    refine dn_run 3 (show tkDn tm_185 (131, [some (.inr (.inr (6, 0, 0))), some (.inl n0), some (.inr (.inl a)), none, some (.inl (nI c)), o5, none], [.inl (I 6 0 0 2), .inl (nI c)], (I, tk_so J 6 0 N, R)) _ from ?_)
    rw [hG]
    show tkDn tm_185 (131, [some (.inr (.inr (6, 0, 0))), some (.inl n0), some (.inr (.inl a)), none, some (.inl (nI c)), o5, none], [.inl (nI (sG S)), .inl (nI c)], (I, tk_so J 6 0 N, R)) _
    refine dn_if rfl rfl rfl (fun (c0 : (nI (sG S)) ≤ (nI c)) => ?_) (fun (c0 : ¬ (nI (sG S)) ≤ (nI c)) => ?_)
    · show tkDn tm_185 (208, [some (.inr (.inr (6, 0, 0))), some (.inl n0), some (.inr (.inl a)), none, some (.inl (nI c)), o5, none], [], (I, tk_so J 6 0 N, R)) _
      rw [show c = sG S by omega, show a = _ from h]
      exact hK _
    · exact absurd (nI_le (by omega) (by omega)) c0
  | succ n ih =>
    intro c a o5 hc h
    show tkDn tm_185 (125, [some (.inr (.inr (6, 0, 0))), some (.inl n0), some (.inr (.inl a)), none, some (.inl (nI c)), o5, none], [], (I, tk_so J 6 0 N, R)) _
    refine dn_run 3 (show tkDn tm_185 (131, [some (.inr (.inr (6, 0, 0))), some (.inl n0), some (.inr (.inl a)), none, some (.inl (nI c)), o5, none], [.inl (I 6 0 0 2), .inl (nI c)], (I, tk_so J 6 0 N, R)) _ from ?_)
    rw [hG]
    show tkDn tm_185 (131, [some (.inr (.inr (6, 0, 0))), some (.inl n0), some (.inr (.inl a)), none, some (.inl (nI c)), o5, none], [.inl (nI (sG S)), .inl (nI c)], (I, tk_so J 6 0 N, R)) _
    refine dn_if rfl rfl rfl (fun (c0 : (nI (sG S)) ≤ (nI c)) => ?_) (fun (c0 : ¬ (nI (sG S)) ≤ (nI c)) => ?_)
    · exact absurd c0 (nI_ge (by omega) (by omega))
    · show tkDn tm_185 (134, [some (.inr (.inr (6, 0, 0))), some (.inl n0), some (.inr (.inl a)), none, some (.inl (nI c)), o5, none], [], (I, tk_so J 6 0 N, R)) _
      have hg : c < sG S := by omega
      have hf := w.fM (w.gl hg)
      have he_ := w.eM (w.gl hg)
      have hgl := w.gl hg
      have e9 := hP.gl w hg
      have e7 := hP.hi w hgl
      refine dn_run 3 (show tkDn tm_185 (138, [some (.inr (.inr (6, 0, 0))), some (.inl n0), some (.inr (.inl a)), none, some (.inl (nI c)), o5, none], [.inl (nI c), .inr (.inr (6, 0, 0)), .inr (.inr (6, 0, 0))], (I, tk_so J 6 0 N, R)) _ from ?_)
      refine dn_call rfl rfl rfl rfl rfl (sm_end hP w hg ?_)
      show tkDn tm_185 (141, [some (.inr (.inr (6, 0, 0))), some (.inl n0), some (.inr (.inl a)), none, some (.inl (nI c)), o5, none], [.inl (nI (se S (sgl S c))), .inr (.inr (6, 0, 0))], (I, tk_so J 6 0 N, R)) _
      refine dn_call rfl rfl rfl rfl rfl (sm_hasCome hT hO (by omega) ?_)
      show tkDn tm_185 (144, [some (.inr (.inr (6, 0, 0))), some (.inl n0), some (.inr (.inl a)), none, some (.inl (nI c)), o5, none], [.inl (if T (se S (sgl S c)) = -9 then 0 else 1)], (I, tk_so J 6 0 N, R)) _
      refine dn_if rfl rfl rfl (fun (c1 : ¬ (if T (se S (sgl S c)) = -9 then 0 else 1) = 0) => ?_) (fun (c1 : (if T (se S (sgl S c)) = -9 then 0 else 1) = 0) => ?_)
      · show tkDn tm_185 (202, [some (.inr (.inr (6, 0, 0))), some (.inl n0), some (.inr (.inl a)), none, some (.inl (nI c)), o5, none], [], (I, tk_so J 6 0 N, R)) _
        refine dn_run 2 (show tkDn tm_185 (125, [some (.inr (.inr (6, 0, 0))), some (.inl n0), some (.inr (.inl a)), none, some (.inl ((nI c) + 1)), o5, none], [], (I, tk_so J 6 0 N, R)) _ from ?_)
        rw [nI_1]
        exact ih (c + 1) a _ (by omega) ((show paG S T (n + 1) c a = paG S T n (c + 1) a from if_neg (fun q => c1 (ite01.mpr q.2))).symm.trans h)
      · show tkDn tm_185 (147, [some (.inr (.inr (6, 0, 0))), some (.inl n0), some (.inr (.inl a)), none, some (.inl (nI c)), o5, none], [], (I, tk_so J 6 0 N, R)) _
        refine dn_run 3 (show tkDn tm_185 (151, [some (.inr (.inr (6, 0, 0))), some (.inl n0), some (.inr (.inl a)), none, some (.inl (nI c)), o5, none], [.inl (nI c), .inr (.inr (6, 0, 0)), .inr (.inr (6, 0, 0))], (I, tk_so J 6 0 N, R)) _ from ?_)
        refine dn_call rfl rfl rfl rfl rfl (sm_begin hP w hg ?_)
        show tkDn tm_185 (154, [some (.inr (.inr (6, 0, 0))), some (.inl n0), some (.inr (.inl a)), none, some (.inl (nI c)), o5, none], [.inl (nI (sf S (sgl S c))), .inr (.inr (6, 0, 0))], (I, tk_so J 6 0 N, R)) _
        refine dn_call rfl rfl rfl rfl rfl (sm_hasCome hT hO (by omega) ?_)
        show tkDn tm_185 (157, [some (.inr (.inr (6, 0, 0))), some (.inl n0), some (.inr (.inl a)), none, some (.inl (nI c)), o5, none], [.inl (if T (sf S (sgl S c)) = -9 then 0 else 1)], (I, tk_so J 6 0 N, R)) _
        refine dn_if rfl rfl rfl (fun (c2 : (if T (sf S (sgl S c)) = -9 then 0 else 1) = 0) => ?_) (fun (c2 : ¬ (if T (sf S (sgl S c)) = -9 then 0 else 1) = 0) => ?_)
        · show tkDn tm_185 (202, [some (.inr (.inr (6, 0, 0))), some (.inl n0), some (.inr (.inl a)), none, some (.inl (nI c)), o5, none], [], (I, tk_so J 6 0 N, R)) _
          refine dn_run 2 (show tkDn tm_185 (125, [some (.inr (.inr (6, 0, 0))), some (.inl n0), some (.inr (.inl a)), none, some (.inl ((nI c) + 1)), o5, none], [], (I, tk_so J 6 0 N, R)) _ from ?_)
          rw [nI_1]
          exact ih (c + 1) a _ (by omega) ((show paG S T (n + 1) c a = paG S T n (c + 1) a from if_neg (fun q => q.1 (ite01.mp c2))).symm.trans h)
        · show tkDn tm_185 (160, [some (.inr (.inr (6, 0, 0))), some (.inl n0), some (.inr (.inl a)), none, some (.inl (nI c)), o5, none], [], (I, tk_so J 6 0 N, R)) _
          refine dn_run 4 (show tkDn tm_185 (167, [some (.inr (.inr (6, 0, 0))), some (.inl n0), some (.inr (.inl a)), none, some (.inl (nI c)), o5, none], [.inl (nI c), .inr (.inr (6, 0, 0)), .inr (.inr (6, 0, 33))], (I, tk_so J 6 0 N, R)) _ from ?_)
          refine dn_call rfl rfl rfl rfl rfl (sm_begin hP w hg ?_)
          show tkDn tm_185 (170, [some (.inr (.inr (6, 0, 0))), some (.inl n0), some (.inr (.inl a)), none, some (.inl (nI c)), o5, none], [.inl (nI (sf S (sgl S c))), .inr (.inr (6, 0, 33))], (I, tk_so J 6 0 N, R)) _
          refine dn_run 15 (show (vp_in (nI (sf S (sgl S c))) 16) ∧ (vp_in (nI c) 6) ∧ (vp_in (I 6 0 9 ((nI c).toNatClampNeg)) 60) ∧ tkDn tm_185 (192, [some (.inr (.inr (6, 0, 0))), some (.inl n0), some (.inr (.inl a)), none, some (.inl (nI c)), some (.inr (.inl ((((I 6 0 33 ((nI (sf S (sgl S c))).toNatClampNeg)) : Int32).toInt64) + (((I 6 0 7 ((I 6 0 9 ((nI c).toNatClampNeg)).toNatClampNeg)) : Int32).toInt64)))), none], [.inl (lg_cmp ((((I 6 0 33 ((nI (sf S (sgl S c))).toNatClampNeg)) : Int32).toInt64) + (((I 6 0 7 ((I 6 0 9 ((nI c).toNatClampNeg)).toNatClampNeg)) : Int32).toInt64)) a)], (I, tk_so J 6 0 N, R)) _ from ⟨vp_in_nI (by omega) (by omega), vp_in_nI (by omega) (by omega), by rw [e9]; exact vp_in_nI (by omega) (by omega), ?_⟩)
          rw [e9, e7, nI_clamp (show sf S (sgl S c) < 2 ^ 31 by omega), hT (sf S (sgl S c)) (by omega)]
          show tkDn tm_185 (192, [some (.inr (.inr (6, 0, 0))), some (.inl n0), some (.inr (.inl a)), none, some (.inl (nI c)), some (.inr (.inl ((T (sf S (sgl S c))).toInt64 + (shi S (sgl S c)).toInt64))), none], [.inl (lg_cmp ((T (sf S (sgl S c))).toInt64 + (shi S (sgl S c)).toInt64) a)], (I, tk_so J 6 0 N, R)) _
          refine dn_if rfl rfl rfl (fun (c3 : 0 ≤ (lg_cmp ((T (sf S (sgl S c))).toInt64 + (shi S (sgl S c)).toInt64) a)) => ?_) (fun (c3 : ¬ 0 ≤ (lg_cmp ((T (sf S (sgl S c))).toInt64 + (shi S (sgl S c)).toInt64) a)) => ?_)
          · show tkDn tm_185 (200, [some (.inr (.inr (6, 0, 0))), some (.inl n0), some (.inr (.inl a)), none, some (.inl (nI c)), some (.inr (.inl ((T (sf S (sgl S c))).toInt64 + (shi S (sgl S c)).toInt64))), none], [], (I, tk_so J 6 0 N, R)) _
            refine dn_run 4 (show tkDn tm_185 (125, [some (.inr (.inr (6, 0, 0))), some (.inl n0), some (.inr (.inl a)), none, some (.inl ((nI c) + 1)), some (.inr (.inl ((T (sf S (sgl S c))).toInt64 + (shi S (sgl S c)).toInt64))), none], [], (I, tk_so J 6 0 N, R)) _ from ?_)
            rw [nI_1]
            exact ih (c + 1) a _ (by omega) ((show paG S T (n + 1) c a = paG S T n (c + 1) a from (if_pos ⟨fun q => c2 (ite01.mpr q), ite01.mp c1⟩).trans (by rw [mn_ge ((lg_cmp_ge _ _).mp c3)])).symm.trans h)
          · show tkDn tm_185 (195, [some (.inr (.inr (6, 0, 0))), some (.inl n0), some (.inr (.inl a)), none, some (.inl (nI c)), some (.inr (.inl ((T (sf S (sgl S c))).toInt64 + (shi S (sgl S c)).toInt64))), none], [], (I, tk_so J 6 0 N, R)) _
            refine dn_run 5 (show tkDn tm_185 (125, [some (.inr (.inr (6, 0, 0))), some (.inl n0), some (.inr (.inl ((T (sf S (sgl S c))).toInt64 + (shi S (sgl S c)).toInt64))), none, some (.inl ((nI c) + 1)), some (.inr (.inl ((T (sf S (sgl S c))).toInt64 + (shi S (sgl S c)).toInt64))), none], [], (I, tk_so J 6 0 N, R)) _ from ?_)
            rw [nI_1]
            exact ih (c + 1) ((T (sf S (sgl S c))).toInt64 + (shi S (sgl S c)).toInt64) _ (by omega) ((show paG S T (n + 1) c a = paG S T n (c + 1) ((T (sf S (sgl S c))).toInt64 + (shi S (sgl S c)).toInt64) from (if_pos ⟨fun q => c2 (ite01.mpr q), ite01.mp c1⟩).trans (by rw [mn_lt (Int64.not_le.mp (fun q => c3 ((lg_cmp_ge _ _).mpr q)))])).symm.trans h)
set_option maxRecDepth 8000 in
theorem tn_far (t n : Int32) : t.toInt64 + n.toInt64 ≤ 4611686018427387904 := by
  rw [Int64.le_iff_toInt_le, Int64.toInt_add, i64_toInt, i64_toInt]
  have h1 := Int32.toInt_lt t
  have h2 := Int32.toInt_lt n
  have h3 := Int32.le_toInt t
  have h4 := Int32.le_toInt n
  have : (4611686018427387904 : Int64).toInt = 4611686018427387904 := by decide
  rw [Int.bmod_eq_of_le (by omega) (by omega)]
  omega
set_option maxRecDepth 8000 in
theorem sm_idle {I : tkI} {J : tkJ} {R : Nat → Nat} {Q : tkQ} {T : Nat → Int32} (hT : ∀ j, j < 16 → I 6 0 33 j = T j) (hO : TOk T) {S : tkS} (hP : NetP (I 6 0) S) (w : WF S) {e v : tkD} {on : Int32} (he : on = 1 → RowP (sM S) (J 6 0 24) e) (hv : on = 1 → WRow (J 6 0 25) v) {t : Int32} (ht : I 6 0 0 31 = t) (ht0 : 0 ≤ t) (hon : I 6 0 0 10 = on) (hb : on = 0 ∨ on = 1) {n0 : Int32} (hQn : ¬ (0 ≤ n0 ∧ n0 ≤ 200000) → Q (some (.inl (-12))) (I, J, R)) (hQ0 : (¬ on = 1 ∨ ltF S T t (sG S) 0 = true) → Q (some (.inl (-13))) (I, J, R)) (hQ : (0 ≤ n0 ∧ n0 ≤ 200000) → on = 1 → ¬ ltF S T t (sG S) 0 = true → ∀ N, (∀ s, s ≠ 0 → N s = J 6 0 s) → Q (some (.inl (paF S e v T t n0 - t.toInt64).toInt32)) (tk_so I 6 0 (tk_u2 (I 6 0) 0 31 (paF S e v T t n0).toInt32), tk_so J 6 0 N, R)) : tkDn tm_185 (0, [some (.inr (.inr (6, 0, 0))), some (.inl n0), none, none, none, none, none], [], (I, J, R)) Q := by
  have hM16 := w.1
  have hL60 := w.2.1
  have hG6 := w.2.2.1
  have hM := hP.m
  have hG := hP.g
  have hL := hP.l
  refine dn_run 3 (show tkDn tm_185 (5, [some (.inr (.inr (6, 0, 0))), some (.inl n0), none, none, none, none, none], [.inl 200000, .inl 0, .inl n0], (I, J, R)) _ from ?_)
  refine dn_call rfl rfl rfl rfl rfl (sm_in ?_)
  show tkDn tm_185 (8, [some (.inr (.inr (6, 0, 0))), some (.inl n0), none, none, none, none, none], [.inl (if 0 ≤ n0 ∧ n0 ≤ 200000 then 1 else 0)], (I, J, R)) _
  refine dn_if rfl rfl rfl (fun (c0 : ¬ (if 0 ≤ n0 ∧ n0 ≤ 200000 then 1 else 0) = 0) => ?_) (fun (c0 : (if 0 ≤ n0 ∧ n0 ≤ 200000 then 1 else 0) = 0) => ?_)
  · show tkDn tm_185 (14, [some (.inr (.inr (6, 0, 0))), some (.inl n0), none, none, none, none, none], [], (I, J, R)) _
    have hn0 : 0 ≤ n0 ∧ n0 ≤ 200000 := Classical.byContradiction fun q => c0 (if_neg q)
    refine dn_run 2 (show tkDn tm_185 (18, [some (.inr (.inr (6, 0, 0))), some (.inl n0), none, none, none, none, none], [.inl (I 6 0 0 10)], (I, J, R)) _ from ?_)
    rw [hon]
    show tkDn tm_185 (18, [some (.inr (.inr (6, 0, 0))), some (.inl n0), none, none, none, none, none], [.inl on], (I, J, R)) _
    refine dn_if rfl rfl rfl (fun (c1 : on = 0) => ?_) (fun (c1 : ¬ on = 0) => ?_)
    · show tkDn tm_185 (32, [some (.inr (.inr (6, 0, 0))), some (.inl n0), none, none, none, none, none], [], (I, J, R)) _
      refine dn_run 1 (show tkDn tm_185 (34, [some (.inr (.inr (6, 0, 0))), some (.inl n0), none, none, none, none, none], [.inl (-13)], (I, J, R)) _ from ?_)
      refine dn_ret0 rfl rfl rfl rfl ?_
      exact hQ0 (Or.inl (fun q => absurd (c1.symm.trans q) (by decide)))
    · show tkDn tm_185 (21, [some (.inr (.inr (6, 0, 0))), some (.inl n0), none, none, none, none, none], [], (I, J, R)) _
      have on1 : on = 1 := hb.resolve_left c1
      refine dn_run 3 (show tkDn tm_185 (26, [some (.inr (.inr (6, 0, 0))), some (.inl n0), none, none, none, none, none], [.inl (I 6 0 0 31), .inr (.inr (6, 0, 0))], (I, J, R)) _ from ?_)
      rw [ht]
      show tkDn tm_185 (26, [some (.inr (.inr (6, 0, 0))), some (.inl n0), none, none, none, none, none], [.inl t, .inr (.inr (6, 0, 0))], (I, J, R)) _
      refine dn_call rfl rfl rfl rfl rfl (sm_isLate hT hO hP w ?_)
      show tkDn tm_185 (29, [some (.inr (.inr (6, 0, 0))), some (.inl n0), none, none, none, none, none], [.inl (if ltF S T t (sG S) 0 = true then 1 else 0)], (I, J, R)) _
      refine dn_if rfl rfl rfl (fun (c2 : (if ltF S T t (sG S) 0 = true then 1 else 0) = 0) => ?_) (fun (c2 : ¬ (if ltF S T t (sG S) 0 = true then 1 else 0) = 0) => ?_)
      · show tkDn tm_185 (35, [some (.inr (.inr (6, 0, 0))), some (.inl n0), none, none, none, none, none], [], (I, J, R)) _
        have nl := ite10.mp c2
        refine dn_run 9 (show tkDn tm_185 (47, [some (.inr (.inr (6, 0, 0))), some (.inl n0), some (.inr (.inl ((((I 6 0 0 31) : Int32).toInt64) + ((n0 : Int32).toInt64)))), none, some (.inl 0), none, none], [], (I, J, R)) _ from ?_)
        rw [ht]
        have key := sm_id1 (J := J) (R := R) (Q := Q) (n0 := n0) hT hO hP w (N0 := J 6 0) (he on1) (hv on1) ht (fun N o5 hN => ?_) (sM S) 0 _ (J 6 0) none (Nat.zero_add _) (tn_far t n0) rfl (fun _ _ => rfl)
        · rw [tk_so_id] at key; exact key
        show tkDn tm_185 (122, [some (.inr (.inr (6, 0, 0))), some (.inl n0), some (.inr (.inl (paM S e v T t (sM S) 0 (t.toInt64 + n0.toInt64)))), none, some (.inl (nI (sM S))), o5, none], [], (I, tk_so J 6 0 N, R)) _
        refine dn_run 2 (show tkDn tm_185 (125, [some (.inr (.inr (6, 0, 0))), some (.inl n0), some (.inr (.inl (paM S e v T t (sM S) 0 (t.toInt64 + n0.toInt64)))), none, some (.inl 0), o5, none], [], (I, tk_so J 6 0 N, R)) _ from ?_)
        refine sm_id2 (e := e) (v := v) (t := t) (n0 := n0) hT hO hP w (fun o5 => ?_) (sG S) 0 _ _ (Nat.zero_add _) rfl
        show tkDn tm_185 (208, [some (.inr (.inr (6, 0, 0))), some (.inl n0), some (.inr (.inl (paF S e v T t n0))), none, some (.inl (nI (sG S))), o5, none], [], (I, tk_so J 6 0 N, R)) _
        refine dn_run 12 (show tkDn tm_185 (226, [some (.inr (.inr (6, 0, 0))), some (.inl n0), some (.inr (.inl (paF S e v T t n0))), none, some (.inl ((((paF S e v T t n0) - (((I 6 0 0 31) : Int32).toInt64)) : Int64).toInt32)), o5, none], [.inl ((((paF S e v T t n0) - (((I 6 0 0 31) : Int32).toInt64)) : Int64).toInt32)], (tk_so I 6 0 (tk_u2 (I 6 0) 0 31 (((paF S e v T t n0) : Int64).toInt32)), tk_so J 6 0 N, R)) _ from ?_)
        rw [ht]
        refine dn_ret0 rfl rfl rfl rfl ?_
        exact hQ hn0 on1 nl N hN
      · show tkDn tm_185 (32, [some (.inr (.inr (6, 0, 0))), some (.inl n0), none, none, none, none, none], [], (I, J, R)) _
        refine dn_run 1 (show tkDn tm_185 (34, [some (.inr (.inr (6, 0, 0))), some (.inl n0), none, none, none, none, none], [.inl (-13)], (I, J, R)) _ from ?_)
        refine dn_ret0 rfl rfl rfl rfl ?_
        exact hQ0 (Or.inr (Classical.byContradiction fun q => c2 (ite10.mpr q)))
  · show tkDn tm_185 (11, [some (.inr (.inr (6, 0, 0))), some (.inl n0), none, none, none, none, none], [], (I, J, R)) _
    refine dn_run 1 (show tkDn tm_185 (13, [some (.inr (.inr (6, 0, 0))), some (.inl n0), none, none, none, none, none], [.inl (-12)], (I, J, R)) _ from ?_)
    refine dn_ret0 rfl rfl rfl rfl ?_
    exact hQn (fun q => absurd (c0.symm.trans (if_pos q)) (by decide))
