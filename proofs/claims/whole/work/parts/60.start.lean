/-! the law: its loop, and its beginning -/
set_option maxHeartbeats 4000000 in
set_option maxRecDepth 100000 in
theorem law_step {p : Program} {l : Launch} {e : Env} {s : State} {m : MethodId} {below : List Frame} {meth : Method} {c : Code} {D : va_G} {cA : Nat → ClassId} {ad : tkAd} {b L : Nat} {xs : Nat → Int32} (hL : L ≤ 3072) (C0 : lw_At p s m meth c b L xs) (hK : va_K D tk_cls (tk_tyl cA) s) (hij : ∀ t ∈ tk_ix, ∀ t' ∈ tk_ix, ad t = ad t' → t = t') (hA : ∀ t ∈ tk_ix, (fun q : Nat => s.heap.size ≤ q) (ad t)) {cn : Nat} {x3 : Int32} (hx3 : x3 = nI (6 * cn)) (hc3 : 6 * cn ≤ 3600) {w : tkW} (hI : LawI cn w) (hw : tk_wok w) {H : Heap} {locs : List Loc} (hP : va_P D tk_cls (tk_wl ad cA w) H) (hS : va_S (fun q : Nat => s.heap.size ≤ q) s.heap H locs) {ls : Array Slot} (hl : lv_has ls 4 [(0, .ref b), (1, .ref (ad (5, 0, 0))), (2, .ref (ad (6, 0, 0))), (3, .int x3)]) (hN : 6 * cn + 6 ≤ L → ∀ (u : tkW) (H : Heap) (locs : List Loc) (ls : Array Slot), LawI (cn + 1) u → tk_wok u → va_P D tk_cls (tk_wl ad cA u) H → va_S (fun q : Nat => s.heap.size ≤ q) s.heap H locs → lv_has ls 4 [(0, .ref b), (1, .ref (ad (5, 0, 0))), (2, .ref (ad (6, 0, 0))), (3, .int x3)] → W p l e room_1 s m #[Value.ref b] below meth c H locs 47 5982 (lw_Z below #[Value.ref b] s) (F0 m 830 ls [])) : W p l e room_1 s m #[Value.ref b] below meth c H locs 47 5982 (lw_Z below #[Value.ref b] s) (F0 m 18 ls []) := by
  obtain ⟨hx, hb, hr, hml, hown, hts0, hX, hbl, hlocks, hgv⟩ := id C0
  have hbA : ¬ (fun q : Nat => s.heap.size ≤ q) b := Nat.not_le.mpr hbl
  refine lv_iload_n hx hb dl_18 rfl (lv_at hl 3 rfl) ?_
  refine lv_aload_n hx hb dl_19 rfl (lv_at hl 0 rfl) ?_
  refine va_slen hx hb hX hbl hbA hS dl_20 ?_
  refine lv_bipush (v := 6) hx hb dl_21 (by decide) ?_
  refine lv_isub hx hb dl_23 ?_
  refine lv_icmp_gt (tgt := 836) hx hb dl_24 (by decide) (fun c1 => ?_) (fun c1 => ?_)
  · refine lv_iconst (v := 1) hx hb dl_836 (by decide) ?_
    refine va_forget (fun q hq => hS.2.2 q hq) ?_
    exact lw_ret hx hb hr hlocks dl_837
  · have h6 : 6 * cn + 6 ≤ L := by
      have c2 : ¬ (nI L - nI 6 < x3) := c1
      rw [hx3, Int32.lt_iff_toInt_lt, pk_sub_toInt (by omega) (by omega), nI_toInt (by omega)] at c2
      omega
    have hN := hN h6
    have hv : ∀ k, k < 6 → vp_in (x3 + nI k) L := fun k hk => by rw [hx3, nI_add]; exact vp_in_nI (by omega) (by omega)
    refine lv_aload_n hx hb dl_27 rfl (lv_at hl 0 rfl) ?_
    refine lv_iload_n hx hb dl_28 rfl (lv_at hl 3 rfl) ?_
    refine va_sld hx hb hX hbl hbA hS (by rw [hx3]; exact vp_in_nI (by omega) (by omega)) dl_29 ?_
    refine lv_bipush (v := 31) hx hb dl_30 (by decide) ?_
    refine lv_iand hx hb dl_32 ?_
    obtain ⟨j, hj, ej⟩ := pk_andE (xs x3.toNatClampNeg) (m := 31) 5 (by decide)
    rw [ej]
    by_cases j0 : j = 0
    · subst j0
      exact lv_tableIn (tgt := 156) (off := 123) hx hb dl_33 (by decide) (by decide) rfl (by decide) (lc_moments C0 hK hij hA (by omega) hv hI hw hP hS hl hN)
    by_cases j1 : j = 1
    · subst j1
      exact lv_tableIn (tgt := 179) (off := 146) hx hb dl_33 (by decide) (by decide) rfl (by decide) (lc_wish C0 hK hij hA (by omega) hv hI hw hP hS hl hN)
    by_cases j2 : j = 2
    · subst j2
      exact lv_tableIn (tgt := 232) (off := 199) hx hb dl_33 (by decide) (by decide) rfl (by decide) (lc_gift C0 hK hij hA (by omega) hv hI hw hP hS hl hN)
    by_cases j3 : j = 3
    · subst j3
      exact lv_tableIn (tgt := 285) (off := 252) hx hb dl_33 (by decide) (by decide) rfl (by decide) (lc_undo C0 hK hij hA (by omega) hv hI hw hP hS hl hN)
    by_cases j4 : j = 4
    · subst j4
      exact lv_tableIn (tgt := 298) (off := 265) hx hb dl_33 (by decide) (by decide) rfl (by decide) (lc_tighten C0 hK hij hA (by omega) hv hI hw hP hS hl hN)
    by_cases j5 : j = 5
    · subst j5
      exact lv_tableIn (tgt := 341) (off := 308) hx hb dl_33 (by decide) (by decide) rfl (by decide) (lc_link C0 hK hij hA (by omega) hv hI hw hP hS hl hN)
    by_cases j6 : j = 6
    · subst j6
      exact lv_tableIn (tgt := 374) (off := 341) hx hb dl_33 (by decide) (by decide) rfl (by decide) (lc_feed C0 hK hij hA (by omega) hv hI hw hP hS hl hN)
    by_cases j7 : j = 7
    · subst j7
      exact lv_tableIn (tgt := 437) (off := 404) hx hb dl_33 (by decide) (by decide) rfl (by decide) (lc_trim C0 hK hij hA (by omega) hv hI hw hP hS hl hN)
    by_cases j8 : j = 8
    · subst j8
      exact lv_tableIn (tgt := 460) (off := 427) hx hb dl_33 (by decide) (by decide) rfl (by decide) (lc_read C0 hK hij hA (by omega) hv hI hw hP hS hl hN)
    by_cases j9 : j = 9
    · subst j9
      exact lv_tableIn (tgt := 473) (off := 440) hx hb dl_33 (by decide) (by decide) rfl (by decide) (lc_together C0 hK hij hA (by omega) hv hI hw hP hS hl hN)
    by_cases j10 : j = 10
    · subst j10
      exact lv_tableIn (tgt := 486) (off := 453) hx hb dl_33 (by decide) (by decide) rfl (by decide) (lc_distance C0 hK hij hA (by omega) hv hI hw hP hS hl hN)
    by_cases j11 : j = 11
    · subst j11
      exact lv_tableIn (tgt := 520) (off := 487) hx hb dl_33 (by decide) (by decide) rfl (by decide) (lc_strong C0 hK hij hA (by omega) hv hI hw hP hS hl hN)
    by_cases j12 : j = 12
    · subst j12
      exact lv_tableIn (tgt := 533) (off := 500) hx hb dl_33 (by decide) (by decide) rfl (by decide) (lc_weak C0 hK hij hA (by omega) hv hI hw hP hS hl hN)
    by_cases j13 : j = 13
    · subst j13
      exact lv_tableIn (tgt := 546) (off := 513) hx hb dl_33 (by decide) (by decide) rfl (by decide) (lc_spoiler C0 hK hij hA (by omega) hv hI hw hP hS hl hN)
    by_cases j14 : j = 14
    · subst j14
      exact lv_tableIn (tgt := 569) (off := 536) hx hb dl_33 (by decide) (by decide) rfl (by decide) (lc_lively C0 hK hij hA (by omega) hv hI hw hP hS hl hN)
    by_cases j15 : j = 15
    · subst j15
      exact lv_tableIn (tgt := 582) (off := 549) hx hb dl_33 (by decide) (by decide) rfl (by decide) (lc_rounds C0 hK hij hA (by omega) hv hI hw hP hS hl hN)
    by_cases j16 : j = 16
    · subst j16
      exact lv_tableIn (tgt := 595) (off := 562) hx hb dl_33 (by decide) (by decide) rfl (by decide) (lc_edge C0 hK hij hA (by omega) hv hI hw hP hS hl hN)
    by_cases j17 : j = 17
    · subst j17
      exact lv_tableIn (tgt := 629) (off := 596) hx hb dl_33 (by decide) (by decide) rfl (by decide) (lc_wait C0 hK hij hA (by omega) hv hI hw hP hS hl hN)
    by_cases j18 : j = 18
    · subst j18
      exact lv_tableIn (tgt := 663) (off := 630) hx hb dl_33 (by decide) (by decide) rfl (by decide) (lc_start C0 hK hij hA (by omega) hv hI hw hP hS hl hN)
    by_cases j19 : j = 19
    · subst j19
      exact lv_tableIn (tgt := 676) (off := 643) hx hb dl_33 (by decide) (by decide) rfl (by decide) (lc_happen C0 hK hij hA (by omega) hv hI hw hP hS hl hN)
    by_cases j20 : j = 20
    · subst j20
      exact lv_tableIn (tgt := 699) (off := 666) hx hb dl_33 (by decide) (by decide) rfl (by decide) (lc_goOn C0 hK hij hA (by omega) hv hI hw hP hS hl hN)
    by_cases j21 : j = 21
    · subst j21
      exact lv_tableIn (tgt := 712) (off := 679) hx hb dl_33 (by decide) (by decide) rfl (by decide) (lc_idle C0 hK hij hA (by omega) hv hI hw hP hS hl hN)
    by_cases j22 : j = 22
    · subst j22
      exact lv_tableIn (tgt := 735) (off := 702) hx hb dl_33 (by decide) (by decide) rfl (by decide) (lc_came C0 hK hij hA (by omega) hv hI hw hP hS hl hN)
    by_cases j23 : j = 23
    · subst j23
      exact lv_tableIn (tgt := 758) (off := 725) hx hb dl_33 (by decide) (by decide) rfl (by decide) (lc_may C0 hK hij hA (by omega) hv hI hw hP hS hl hN)
    by_cases j24 : j = 24
    · subst j24
      exact lv_tableIn (tgt := 781) (off := 748) hx hb dl_33 (by decide) (by decide) rfl (by decide) (lc_now C0 hK hij hA (by omega) hv hI hw hP hS hl hN)
    by_cases j25 : j = 25
    · subst j25
      exact lv_tableIn (tgt := 794) (off := 761) hx hb dl_33 (by decide) (by decide) rfl (by decide) (lc_check C0 hK hij hA (by omega) hv hI hw hP hS hl hN)
    by_cases j26 : j = 26
    · subst j26
      exact lv_tableIn (tgt := 807) (off := 774) hx hb dl_33 (by decide) (by decide) rfl (by decide) (lc_told C0 hK hij hA (by omega) hv hI hw hP hS hl hN)
    refine lv_tableOut (tgt := 830) hx hb dl_33 (Or.inr (by rw [nI_toInt (by omega)]; omega)) (by decide) ?_
    refine hN w H locs ls ?_ hw hP hS hl
    obtain ⟨S, z, B, on, T, t, a1, a2, a3⟩ := hI
    exact ⟨S, z, B, on, T, t, a1.c, a2, a3⟩
set_option maxHeartbeats 4000000 in
set_option maxRecDepth 100000 in
theorem law_loop {p : Program} {l : Launch} {e : Env} {s : State} {m : MethodId} {below : List Frame} {meth : Method} {c : Code} {D : va_G} {cA : Nat → ClassId} {ad : tkAd} {b L : Nat} {xs : Nat → Int32} (hL : L ≤ 3072) (C0 : lw_At p s m meth c b L xs) (hK : va_K D tk_cls (tk_tyl cA) s) (hij : ∀ t ∈ tk_ix, ∀ t' ∈ tk_ix, ad t = ad t' → t = t') (hA : ∀ t ∈ tk_ix, (fun q : Nat => s.heap.size ≤ q) (ad t)) : ∀ (n cn : Nat) (x3 : Int32), L + 1 ≤ 6 * cn + n → 6 * cn ≤ 3600 → x3 = nI (6 * cn) → ∀ (w : tkW) (H : Heap) (locs : List Loc) (ls : Array Slot), LawI cn w → tk_wok w → va_P D tk_cls (tk_wl ad cA w) H → va_S (fun q : Nat => s.heap.size ≤ q) s.heap H locs → lv_has ls 4 [(0, .ref b), (1, .ref (ad (5, 0, 0))), (2, .ref (ad (6, 0, 0))), (3, .int x3)] → W p l e room_1 s m #[Value.ref b] below meth c H locs 47 5982 (lw_Z below #[Value.ref b] s) (F0 m 18 ls []) := by
  have C1 := C0
  obtain ⟨hx, hb, hr, hml, hown, hts0, hX, hbl, hlocks, hgv⟩ := C1
  intro n
  induction n with
  | zero =>
    intro cn x3 hn hc hx3 w H locs ls hI hw hP hS hl
    exact law_step hL C0 hK hij hA hx3 hc hI hw hP hS hl (fun h6 => absurd h6 (by omega))
  | succ n ih =>
    intro cn x3 hn hc hx3 w H locs ls hI hw hP hS hl
    refine law_step hL C0 hK hij hA hx3 hc hI hw hP hS hl (fun h6 u H locs ls hI hw hP hS hl => ?_)
    obtain ⟨x4, ex4⟩ : ∃ y : Int32, y = x3 + 6 := ⟨_, rfl⟩
    refine lv_iinc (v := x4) (lv' := [(3, .int x4), (0, .ref b), (1, .ref (ad (5, 0, 0))), (2, .ref (ad (6, 0, 0)))]) hx hb dl_830 hl (k := 3) rfl (by rw [ex4]; rfl) (by decide) rfl (fun ls hl => ?_)
    refine lv_goto (tgt := 18) hx hb dl_833 (by decide) ?_
    exact ih (cn + 1) x4 (by omega) (by omega) (by rw [ex4, hx3, show (6 : Int32) = nI 6 from rfl, nI_add, show 6 * (cn + 1) = 6 * cn + 6 by omega]) u H locs ls hI hw hP hS (lv_sub hl [1, 2, 3, 0] rfl)
def tk_lkp : List (Nat × Nat × Nat) → List Nat → Nat × Nat × Nat → Nat
  | t' :: r, a :: s, t => match Nat.beq t'.1 t.1 && (Nat.beq t'.2.1 t.2.1 && Nat.beq t'.2.2 t.2.2) with
    | true => a
    | false => tk_lkp r s t
  | _, _, _ => 0
def tk_w0 : tkW := (fun _ _ _ _ => 0, fun _ _ _ _ => 0, fun k => k)
theorem tk_wl_inj {ad : tkAd} {cA : Nat → ClassId} {w : tkW} {A : Nat → Prop} (hD : va_D A (tk_wl ad cA w)) : (∀ t ∈ tk_ix, ∀ t' ∈ tk_ix, ad t = ad t' → t = t') ∧ ∀ t ∈ tk_ix, A (ad t) := by
  refine ⟨fun t ht t' ht' e => ?_, fun t ht => ?_⟩
  · obtain ⟨i, hi⟩ := List.getElem?_of_mem ht
    obtain ⟨j, hj⟩ := List.getElem?_of_mem ht'
    have := hD.1 i j _ _ (by unfold tk_wl; rw [List.getElem?_map, hi]; rfl) (by unfold tk_wl; rw [List.getElem?_map, hj]; rfl) e
    subst this
    exact Option.some.inj (hi.symm.trans hj)
  · obtain ⟨i, hi⟩ := List.getElem?_of_mem ht
    exact hD.2 i (ad t, tk_cell ad cA w t) (by unfold tk_wl; rw [List.getElem?_map, hi]; rfl)
theorem tk_wok0 : tk_wok tk_w0 := fun k hk => by
  rcases (show k = 0 ∨ k = 1 by omega) with rfl | rfl
  · show (1, 0, 0) ∈ tk_ix; decide
  · show (1, 1, 0) ∈ tk_ix; decide
theorem law_0 : LawI 0 tk_w0 := by
  refine ⟨(0, 0, 0, fun _ => 0, fun _ => 0, fun _ => 0, fun _ => 0, fun _ => 0, fun _ => 0), 0, fun _ => 0, 0, fun _ => 0, 0, ⟨WF_0 (S := (0, 0, 0, fun _ => 0, fun _ => 0, fun _ => 0, fun _ => 0, fun _ => 0, fun _ => 0)), Nat.zero_le _, Or.inl rfl, fun _ _ => Or.inr (Int32.le_refl _), fun q => absurd q (by decide)⟩, ⟨⟨by decide, by decide, by decide⟩, ⟨rfl, rfl, rfl, fun j hj => absurd hj (Nat.not_lt_zero _), fun j hj => absurd hj (Nat.not_lt_zero _)⟩, ⟨rfl, fun j hj => absurd hj (Nat.not_lt_zero _)⟩, fun q => absurd rfl q, fun q => absurd rfl q, rfl, fun q => absurd q (by decide)⟩, ⟨rfl, rfl, rfl, fun j hj => absurd hj (Nat.not_lt_zero _), fun j hj => absurd hj (Nat.not_lt_zero _)⟩, ⟨rfl, fun j hj => absurd hj (Nat.not_lt_zero _)⟩, Or.inl rfl, fun q => absurd (show (0 : Int32) = 1 from q) (by decide), rfl, fun _ _ => rfl, rfl, fun q => absurd q (by decide)⟩
theorem tk_arrK {s : State} {args : Array Value} {ty : FieldType} (h : (Cond.arrayClass ty).before args s = true) : ∃ cA : ClassId, s.vm.findClass ("[" ++ ty.toString) = some cA ∧ ArrOfT s cA ty := by
  obtain ⟨cA, kA, comp, h1, h2, h3⟩ := Cond.arrayClass_spec h
  exact ⟨cA, h1, fun n z => ⟨fun k h => (by cases h), kA, h2, comp, h3⟩⟩
set_option maxHeartbeats 8000000 in
set_option maxRecDepth 100000 in
/-- THE LAW, from its entry -/
theorem whole_start {p : Program} {e : Env} {s : State} {m : MethodId} {below : List Frame} {meth : Method} {c : Code} (l : Launch) {b L : Nat} {xs : Nat → Int32} (hL : L ≤ 3072) (C0 : lw_At p s m meth c b L xs) : W p l e room_1 s m #[Value.ref b] below meth c s.heap [] 0 0 (lw_Z below #[Value.ref b] s) (entryFrame m ([Value.ref b] : List Value).toArray 4) := by
  obtain ⟨hx, hb, hr, hml, hown, hts0, hX, hbl, hlocks, hgv⟩ := id C0
  have hts : ∀ w ∈ tk_TB, w.before #[Value.ref b] s = true := fun w hw => hts0 w (List.mem_filter.mp hw).1
  have hA : ∀ q : Nat, s.heap.size ≤ q → (fun q : Nat => s.heap.size ≤ q) q := fun _ h => h
  have hbA : ¬ (fun q : Nat => s.heap.size ≤ q) b := Nat.not_le.mpr hbl
  obtain ⟨c0, iS0, hKn0⟩ := u_known (C := tk_cn 0) (T := tk_T 0) (N := 3) (n := 3) hts0 tk_in_0 (hts _ tk_in2_0)
  obtain ⟨c1, iS1, hKn1⟩ := u_known (C := tk_cn 1) (T := tk_T 1) (N := 9) (n := 9) hts0 tk_in_1 (hts _ tk_in2_1)
  obtain ⟨c2, iS2, hKn2⟩ := u_known (C := tk_cn 2) (T := tk_T 2) (N := 4) (n := 4) hts0 tk_in_2 (hts _ tk_in2_2)
  obtain ⟨c3, iS3, hKn3⟩ := u_known (C := tk_cn 3) (T := tk_T 3) (N := 5) (n := 5) hts0 tk_in_3 (hts _ tk_in2_3)
  obtain ⟨c4, iS4, hKn4⟩ := u_known (C := tk_cn 4) (T := tk_T 4) (N := 9) (n := 9) hts0 tk_in_4 (hts _ tk_in2_4)
  obtain ⟨c5, iS5, hKn5⟩ := u_known (C := tk_cn 5) (T := tk_T 5) (N := 6) (n := 6) hts0 tk_in_5 (hts _ tk_in2_5)
  obtain ⟨c6, iS6, hKn6⟩ := u_known (C := tk_cn 6) (T := tk_T 6) (N := 35) (n := 35) hts0 tk_in_6 (hts _ tk_in2_6)
  obtain ⟨D, hKc⟩ : ∃ D : va_G, ∀ (k : Nat) (q : vw_C), tk_cls[k]? = some q → u_Kn s q.1 q.2.1 q.2.2 (D.1 k) (D.2 k) := by
    refine ⟨(fun k => [c0, c1, c2, c3, c4, c5, c6].getD k c0, fun k => [iS0, iS1, iS2, iS3, iS4, iS5, iS6].getD k iS0), ?_⟩
    intro k q hq
    match k, hq with
    | 0, hq => cases hq; exact hKn0
    | 1, hq => cases hq; exact hKn1
    | 2, hq => cases hq; exact hKn2
    | 3, hq => cases hq; exact hKn3
    | 4, hq => cases hq; exact hKn4
    | 5, hq => cases hq; exact hKn5
    | 6, hq => cases hq; exact hKn6
    | k + 7, hq => exact absurd hq (by simp [tk_cls])
  obtain ⟨r0, rf0, ra0⟩ := tk_arrK (ty := .int) (hts _ tk_arr3.1)
  obtain ⟨r1, rf1, ra1⟩ := tk_arrK (ty := .long) (hts _ tk_arr3.2.1)
  obtain ⟨r2, rf2, ra2⟩ := tk_arrK (ty := .byte) (hts _ tk_arr3.2.2)
  obtain ⟨cA, hcA⟩ : ∃ cA : Nat → ClassId, cA = fun k => [r0, r1, r2].getD k r0 := ⟨_, rfl⟩
  have hS : va_S (fun q : Nat => s.heap.size ≤ q) s.heap s.heap [] := va_S.rf
  have hK : va_K D tk_cls (tk_tyl cA) s := by
    refine ⟨hKc, fun k q h => ?_⟩
    rw [hcA] at h
    match k, h with
    | 0, h => cases h; exact ⟨ra0, rf0⟩
    | 1, h => cases h; exact ⟨ra1, rf1⟩
    | 2, h => cases h; exact ⟨ra2, rf2⟩
    | k + 3, h => exact absurd h (by simp [tk_tyl])
  clear hcA rf0 rf1 rf2 ra0 ra1 ra2
  have hP : va_P D tk_cls [] s.heap := fun k q h => by simp at h
  have hD : va_D (fun q : Nat => s.heap.size ≤ q) [] := ⟨fun i j p q h => by simp at h, fun k q h => by simp at h⟩
  have hl := lv_entry ([.ref b]) (n := 4) (Nat.le_of_ble_eq_true rfl)
  rw [lg_entry_eq]
  generalize (lg_sl ([.ref b]) ++ List.replicate (4 - (lg_sl ([.ref b])).length) Slot.unset).toArray = ls at hl ⊢
  have hl : lv_has ls 4 [(0, .ref b)] := hl
  refine va_new (ci := 5) (fs := [.null, .null, .null, .null, .null, .null]) (C := tk_cn 5) (T := tk_T 5) (N := 6) hx hb hts (tk_in_ws 5 (by decide)) (tk_ty 5) (tk_tyok 5 (by decide)) hown (hts (.classLink R_law 7 (tk_cn 5)) (tkm 73 (by decide +kernel) rfl)) (hts _ tk_in2_5) (hts _ tk_ii_5) hK hP hD hS hA rfl (by decide +kernel) (Nat.le_of_ble_eq_true rfl) (Nat.le_of_ble_eq_true rfl) dl_0 (fun qt H hP hD hS => ?_)
  have hP : va_P D tk_cls [(qt, .inr (5, [.null, .null, .null, .null, .null, .null]))] H := hP
  have hD : va_D (fun q : Nat => s.heap.size ≤ q) [(qt, .inr (5, [.null, .null, .null, .null, .null, .null]))] := hD
  refine W.widen (k := 1) (n := 6) (Nat.le_of_ble_eq_true rfl) (Nat.le_of_ble_eq_true rfl) ?_
  refine lv_dup hx hb dl_3 rfl ?_
  have hPc := hP.sub (ws' := [(qt, .inr (5, [.null, .null, .null, .null, .null, .null]))]) [0] rfl
  have hDc := hD.sub (ws' := [(qt, .inr (5, [.null, .null, .null, .null, .null, .null]))]) [0] (by decide) rfl
  have hFc := va_free (wc := [(qt, .inr (5, [.null, .null, .null, .null, .null, .null]))]) hD hS hA [0] rfl
  refine va_callv (va_runI (As := []) (rest := [.ref qt]) ⟨hx, hb, hml, hown, hts⟩ (ci_5 l D cA qt H.size) (cwI 0 hts tk_gi_5 rfl rfl rfl (hts _ tk_ii_5) (hts (.methodLink R_law 9 yi_5) (tkm 75 (by decide +kernel) rfl)) (hts _ tk_im_5) rfl (by decide +kernel) ⟨Nat.le_of_ble_eq_true rfl, Nat.le_of_ble_eq_true rfl⟩) ⟨fun a U g mk q => by obtain ⟨q0, q1, qP, qK, qD, n1, n2, n3, n4, n5⟩ := q; exact ⟨q0, q1, qP, va_K.moved (u := U) (U := U.calling g mk a) (Vm.Alike.refl U.vm) qK, qD, va_Nw.same rfl rfl n1, va_Nw.same rfl rfl n2, va_Nw.same rfl rfl n3, va_Nw.same rfl rfl n4, va_Nw.same rfl rfl n5⟩, fun U hU hW => ⟨rfl, by rw [hU], by rw [hU]; exact hPc, va_K.moved hW.alike hK, hDc.weaken (fun _ _ _ _ => trivial), va_Nw.warmM hW (va_Nw.of rfl (hts0 _ (List.mem_of_getElem? (i := 83) (by decide +kernel)))), va_Nw.warmM hW (va_Nw.of rfl (hts0 _ (List.mem_of_getElem? (i := 118) (by decide +kernel)))), va_Nw.warmM hW (va_Nw.of rfl (hts0 _ (List.mem_of_getElem? (i := 141) (by decide +kernel)))), va_Nw.warmM hW (va_Nw.of rfl (hts0 _ (List.mem_of_getElem? (i := 158) (by decide +kernel)))), va_Nw.warmM hW (va_Nw.of rfl (hts0 _ (List.mem_of_getElem? (i := 192) (by decide +kernel))))⟩⟩ rfl rfl hl.1 rfl (lv_room (Nat.le_of_ble_eq_true rfl)) dl_4 ⟨Nat.le_of_ble_eq_true rfl, Nat.le_of_ble_eq_true rfl⟩) hS (fun q _ h => hFc q h) hFc (fun u t H1 locs ht hvm hw hB hz1 hk1 hS => ?_)
  obtain ⟨hP1, -, hD1⟩ := hB
  rw [ht] at hP1
  generalize u.getD 0 0 = a0 at hP1 hD1
  generalize u.getD 1 0 = a1 at hP1 hD1
  generalize u.getD 2 0 = a2 at hP1 hD1
  generalize u.getD 3 0 = a3 at hP1 hD1
  generalize u.getD 4 0 = a4 at hP1 hD1
  generalize u.getD 5 0 = a5 at hP1 hD1
  generalize u.getD 6 0 = a6 at hP1 hD1
  generalize u.getD 7 0 = a7 at hP1 hD1
  generalize u.getD 8 0 = a8 at hP1 hD1
  generalize u.getD 9 0 = a9 at hP1 hD1
  generalize u.getD 10 0 = a10 at hP1 hD1
  generalize u.getD 11 0 = a11 at hP1 hD1
  generalize u.getD 12 0 = a12 at hP1 hD1
  generalize u.getD 13 0 = a13 at hP1 hD1
  generalize u.getD 14 0 = a14 at hP1 hD1
  generalize u.getD 15 0 = a15 at hP1 hD1
  generalize u.getD 16 0 = a16 at hP1 hD1
  generalize u.getD 17 0 = a17 at hP1 hD1
  generalize u.getD 18 0 = a18 at hP1 hD1
  generalize u.getD 19 0 = a19 at hP1 hD1
  generalize u.getD 20 0 = a20 at hP1 hD1
  generalize u.getD 21 0 = a21 at hP1 hD1
  generalize u.getD 22 0 = a22 at hP1 hD1
  generalize u.getD 23 0 = a23 at hP1 hD1
  generalize u.getD 24 0 = a24 at hP1 hD1
  generalize u.getD 25 0 = a25 at hP1 hD1
  generalize u.getD 26 0 = a26 at hP1 hD1
  generalize u.getD 27 0 = a27 at hP1 hD1
  obtain ⟨hP, hD⟩ := va_join (wr := []) (w1 := [(qt, .inr (5, [.ref a0, .ref a7, .ref a14, .ref a17, .ref a19, .ref a26])), (a0, .inr (1, [.int 0, .int 0, .int 0, .ref a1, .ref a2, .ref a3, .ref a4, .ref a5, .ref a6])), (a1, .inl (cA 0, (60, .inl (fun _ => 0)))), (a2, .inl (cA 0, (60, .inl (fun _ => 0)))), (a3, .inl (cA 0, (60, .inl (fun _ => 0)))), (a4, .inl (cA 0, (60, .inl (fun _ => 0)))), (a5, .inl (cA 0, (60, .inl (fun _ => 0)))), (a6, .inl (cA 0, (6, .inl (fun _ => 0)))), (a7, .inr (1, [.int 0, .int 0, .int 0, .ref a8, .ref a9, .ref a10, .ref a11, .ref a12, .ref a13])), (a8, .inl (cA 0, (60, .inl (fun _ => 0)))), (a9, .inl (cA 0, (60, .inl (fun _ => 0)))), (a10, .inl (cA 0, (60, .inl (fun _ => 0)))), (a11, .inl (cA 0, (60, .inl (fun _ => 0)))), (a12, .inl (cA 0, (60, .inl (fun _ => 0)))), (a13, .inl (cA 0, (6, .inl (fun _ => 0)))), (a14, .inr (3, [.ref a15, .ref a16, .int 0, .int 0, .int 0])), (a15, .inl (cA 2, (1000, .inl (fun _ => 0)))), (a16, .inl (cA 0, (4, .inl (fun _ => 0)))), (a17, .inr (0, [.ref a18, .int 0, .int 0])), (a18, .inl (cA 1, (256, .inr (.inl (fun _ => 0))))), (a19, .inr (4, [.ref a20, .ref a21, .ref a22, .ref a23, .ref a24, .ref a25, .int 0, .int 0, .int 0])), (a20, .inl (cA 1, (256, .inr (.inl (fun _ => 0))))), (a21, .inl (cA 1, (256, .inr (.inl (fun _ => 0))))), (a22, .inl (cA 1, (256, .inr (.inl (fun _ => 0))))), (a23, .inl (cA 1, (96, .inr (.inl (fun _ => 0))))), (a24, .inl (cA 1, (96, .inr (.inl (fun _ => 0))))), (a25, .inl (cA 1, (96, .inr (.inl (fun _ => 0))))), (a26, .inr (2, [.ref a27, .int 0, .int 0, .int 0])), (a27, .inl (cA 0, (16, .inl (fun _ => 0))))]) hP hD [0] [] rfl rfl (by decide) (by decide) hk1 hFc hP1 hD1
  generalize H1 = H at hP hS ⊢
  have hP : va_P D tk_cls [(qt, .inr (5, [.ref a0, .ref a7, .ref a14, .ref a17, .ref a19, .ref a26])), (a0, .inr (1, [.int 0, .int 0, .int 0, .ref a1, .ref a2, .ref a3, .ref a4, .ref a5, .ref a6])), (a1, .inl (cA 0, (60, .inl (fun _ => 0)))), (a2, .inl (cA 0, (60, .inl (fun _ => 0)))), (a3, .inl (cA 0, (60, .inl (fun _ => 0)))), (a4, .inl (cA 0, (60, .inl (fun _ => 0)))), (a5, .inl (cA 0, (60, .inl (fun _ => 0)))), (a6, .inl (cA 0, (6, .inl (fun _ => 0)))), (a7, .inr (1, [.int 0, .int 0, .int 0, .ref a8, .ref a9, .ref a10, .ref a11, .ref a12, .ref a13])), (a8, .inl (cA 0, (60, .inl (fun _ => 0)))), (a9, .inl (cA 0, (60, .inl (fun _ => 0)))), (a10, .inl (cA 0, (60, .inl (fun _ => 0)))), (a11, .inl (cA 0, (60, .inl (fun _ => 0)))), (a12, .inl (cA 0, (60, .inl (fun _ => 0)))), (a13, .inl (cA 0, (6, .inl (fun _ => 0)))), (a14, .inr (3, [.ref a15, .ref a16, .int 0, .int 0, .int 0])), (a15, .inl (cA 2, (1000, .inl (fun _ => 0)))), (a16, .inl (cA 0, (4, .inl (fun _ => 0)))), (a17, .inr (0, [.ref a18, .int 0, .int 0])), (a18, .inl (cA 1, (256, .inr (.inl (fun _ => 0))))), (a19, .inr (4, [.ref a20, .ref a21, .ref a22, .ref a23, .ref a24, .ref a25, .int 0, .int 0, .int 0])), (a20, .inl (cA 1, (256, .inr (.inl (fun _ => 0))))), (a21, .inl (cA 1, (256, .inr (.inl (fun _ => 0))))), (a22, .inl (cA 1, (256, .inr (.inl (fun _ => 0))))), (a23, .inl (cA 1, (96, .inr (.inl (fun _ => 0))))), (a24, .inl (cA 1, (96, .inr (.inl (fun _ => 0))))), (a25, .inl (cA 1, (96, .inr (.inl (fun _ => 0))))), (a26, .inr (2, [.ref a27, .int 0, .int 0, .int 0])), (a27, .inl (cA 0, (16, .inl (fun _ => 0))))] H := hP
  have hD : va_D (fun q : Nat => s.heap.size ≤ q) [(qt, .inr (5, [.ref a0, .ref a7, .ref a14, .ref a17, .ref a19, .ref a26])), (a0, .inr (1, [.int 0, .int 0, .int 0, .ref a1, .ref a2, .ref a3, .ref a4, .ref a5, .ref a6])), (a1, .inl (cA 0, (60, .inl (fun _ => 0)))), (a2, .inl (cA 0, (60, .inl (fun _ => 0)))), (a3, .inl (cA 0, (60, .inl (fun _ => 0)))), (a4, .inl (cA 0, (60, .inl (fun _ => 0)))), (a5, .inl (cA 0, (60, .inl (fun _ => 0)))), (a6, .inl (cA 0, (6, .inl (fun _ => 0)))), (a7, .inr (1, [.int 0, .int 0, .int 0, .ref a8, .ref a9, .ref a10, .ref a11, .ref a12, .ref a13])), (a8, .inl (cA 0, (60, .inl (fun _ => 0)))), (a9, .inl (cA 0, (60, .inl (fun _ => 0)))), (a10, .inl (cA 0, (60, .inl (fun _ => 0)))), (a11, .inl (cA 0, (60, .inl (fun _ => 0)))), (a12, .inl (cA 0, (60, .inl (fun _ => 0)))), (a13, .inl (cA 0, (6, .inl (fun _ => 0)))), (a14, .inr (3, [.ref a15, .ref a16, .int 0, .int 0, .int 0])), (a15, .inl (cA 2, (1000, .inl (fun _ => 0)))), (a16, .inl (cA 0, (4, .inl (fun _ => 0)))), (a17, .inr (0, [.ref a18, .int 0, .int 0])), (a18, .inl (cA 1, (256, .inr (.inl (fun _ => 0))))), (a19, .inr (4, [.ref a20, .ref a21, .ref a22, .ref a23, .ref a24, .ref a25, .int 0, .int 0, .int 0])), (a20, .inl (cA 1, (256, .inr (.inl (fun _ => 0))))), (a21, .inl (cA 1, (256, .inr (.inl (fun _ => 0))))), (a22, .inl (cA 1, (256, .inr (.inl (fun _ => 0))))), (a23, .inl (cA 1, (96, .inr (.inl (fun _ => 0))))), (a24, .inl (cA 1, (96, .inr (.inl (fun _ => 0))))), (a25, .inl (cA 1, (96, .inr (.inl (fun _ => 0))))), (a26, .inr (2, [.ref a27, .int 0, .int 0, .int 0])), (a27, .inl (cA 0, (16, .inl (fun _ => 0))))] := hD
  refine W.widen (k := 29) (n := 2989) (Nat.le_of_ble_eq_true rfl) (Nat.le_of_ble_eq_true rfl) ?_
  refine lv_astore_n (lv' := [(1, .ref qt), (0, .ref b)]) hx hb dl_7 rfl hl (by decide) rfl (fun ls hl => ?_)
  refine va_new (ci := 6) (fs := [.int 0, .int 0, .int 0, .null, .null, .null, .null, .null, .null, .null, .int 0, .int 0, .null, .int 0, .int 0, .int 0, .int 0, .int 0, .int 0, .null, .null, .int 0, .int 0, .null, .null, .null, .null, .null, .null, .int 0, .int 0, .int 0, .null, .long 0, .long 0]) (C := tk_cn 6) (T := tk_T 6) (N := 35) hx hb hts (tk_in_ws 6 (by decide)) (tk_ty 6) (tk_tyok 6 (by decide)) hown (hts (.classLink R_law 10 (tk_cn 6)) (tkm 788 (by decide +kernel) rfl)) (hts _ tk_in2_6) (hts _ tk_ii_6) hK hP hD hS hA rfl (by decide +kernel) (Nat.le_of_ble_eq_true rfl) (Nat.le_of_ble_eq_true rfl) dl_8 (fun qm H hP hD hS => ?_)
  have hP : va_P D tk_cls [(qt, .inr (5, [.ref a0, .ref a7, .ref a14, .ref a17, .ref a19, .ref a26])), (a0, .inr (1, [.int 0, .int 0, .int 0, .ref a1, .ref a2, .ref a3, .ref a4, .ref a5, .ref a6])), (a1, .inl (cA 0, (60, .inl (fun _ => 0)))), (a2, .inl (cA 0, (60, .inl (fun _ => 0)))), (a3, .inl (cA 0, (60, .inl (fun _ => 0)))), (a4, .inl (cA 0, (60, .inl (fun _ => 0)))), (a5, .inl (cA 0, (60, .inl (fun _ => 0)))), (a6, .inl (cA 0, (6, .inl (fun _ => 0)))), (a7, .inr (1, [.int 0, .int 0, .int 0, .ref a8, .ref a9, .ref a10, .ref a11, .ref a12, .ref a13])), (a8, .inl (cA 0, (60, .inl (fun _ => 0)))), (a9, .inl (cA 0, (60, .inl (fun _ => 0)))), (a10, .inl (cA 0, (60, .inl (fun _ => 0)))), (a11, .inl (cA 0, (60, .inl (fun _ => 0)))), (a12, .inl (cA 0, (60, .inl (fun _ => 0)))), (a13, .inl (cA 0, (6, .inl (fun _ => 0)))), (a14, .inr (3, [.ref a15, .ref a16, .int 0, .int 0, .int 0])), (a15, .inl (cA 2, (1000, .inl (fun _ => 0)))), (a16, .inl (cA 0, (4, .inl (fun _ => 0)))), (a17, .inr (0, [.ref a18, .int 0, .int 0])), (a18, .inl (cA 1, (256, .inr (.inl (fun _ => 0))))), (a19, .inr (4, [.ref a20, .ref a21, .ref a22, .ref a23, .ref a24, .ref a25, .int 0, .int 0, .int 0])), (a20, .inl (cA 1, (256, .inr (.inl (fun _ => 0))))), (a21, .inl (cA 1, (256, .inr (.inl (fun _ => 0))))), (a22, .inl (cA 1, (256, .inr (.inl (fun _ => 0))))), (a23, .inl (cA 1, (96, .inr (.inl (fun _ => 0))))), (a24, .inl (cA 1, (96, .inr (.inl (fun _ => 0))))), (a25, .inl (cA 1, (96, .inr (.inl (fun _ => 0))))), (a26, .inr (2, [.ref a27, .int 0, .int 0, .int 0])), (a27, .inl (cA 0, (16, .inl (fun _ => 0)))), (qm, .inr (6, [.int 0, .int 0, .int 0, .null, .null, .null, .null, .null, .null, .null, .int 0, .int 0, .null, .int 0, .int 0, .int 0, .int 0, .int 0, .int 0, .null, .null, .int 0, .int 0, .null, .null, .null, .null, .null, .null, .int 0, .int 0, .int 0, .null, .long 0, .long 0]))] H := hP
  have hD : va_D (fun q : Nat => s.heap.size ≤ q) [(qt, .inr (5, [.ref a0, .ref a7, .ref a14, .ref a17, .ref a19, .ref a26])), (a0, .inr (1, [.int 0, .int 0, .int 0, .ref a1, .ref a2, .ref a3, .ref a4, .ref a5, .ref a6])), (a1, .inl (cA 0, (60, .inl (fun _ => 0)))), (a2, .inl (cA 0, (60, .inl (fun _ => 0)))), (a3, .inl (cA 0, (60, .inl (fun _ => 0)))), (a4, .inl (cA 0, (60, .inl (fun _ => 0)))), (a5, .inl (cA 0, (60, .inl (fun _ => 0)))), (a6, .inl (cA 0, (6, .inl (fun _ => 0)))), (a7, .inr (1, [.int 0, .int 0, .int 0, .ref a8, .ref a9, .ref a10, .ref a11, .ref a12, .ref a13])), (a8, .inl (cA 0, (60, .inl (fun _ => 0)))), (a9, .inl (cA 0, (60, .inl (fun _ => 0)))), (a10, .inl (cA 0, (60, .inl (fun _ => 0)))), (a11, .inl (cA 0, (60, .inl (fun _ => 0)))), (a12, .inl (cA 0, (60, .inl (fun _ => 0)))), (a13, .inl (cA 0, (6, .inl (fun _ => 0)))), (a14, .inr (3, [.ref a15, .ref a16, .int 0, .int 0, .int 0])), (a15, .inl (cA 2, (1000, .inl (fun _ => 0)))), (a16, .inl (cA 0, (4, .inl (fun _ => 0)))), (a17, .inr (0, [.ref a18, .int 0, .int 0])), (a18, .inl (cA 1, (256, .inr (.inl (fun _ => 0))))), (a19, .inr (4, [.ref a20, .ref a21, .ref a22, .ref a23, .ref a24, .ref a25, .int 0, .int 0, .int 0])), (a20, .inl (cA 1, (256, .inr (.inl (fun _ => 0))))), (a21, .inl (cA 1, (256, .inr (.inl (fun _ => 0))))), (a22, .inl (cA 1, (256, .inr (.inl (fun _ => 0))))), (a23, .inl (cA 1, (96, .inr (.inl (fun _ => 0))))), (a24, .inl (cA 1, (96, .inr (.inl (fun _ => 0))))), (a25, .inl (cA 1, (96, .inr (.inl (fun _ => 0))))), (a26, .inr (2, [.ref a27, .int 0, .int 0, .int 0])), (a27, .inl (cA 0, (16, .inl (fun _ => 0)))), (qm, .inr (6, [.int 0, .int 0, .int 0, .null, .null, .null, .null, .null, .null, .null, .int 0, .int 0, .null, .int 0, .int 0, .int 0, .int 0, .int 0, .int 0, .null, .null, .int 0, .int 0, .null, .null, .null, .null, .null, .null, .int 0, .int 0, .int 0, .null, .long 0, .long 0]))] := hD
  refine W.widen (k := 30) (n := 3024) (Nat.le_of_ble_eq_true rfl) (Nat.le_of_ble_eq_true rfl) ?_
  refine lv_dup hx hb dl_11 rfl ?_
  have hPc := hP.sub (ws' := [(qm, .inr (6, [.int 0, .int 0, .int 0, .null, .null, .null, .null, .null, .null, .null, .int 0, .int 0, .null, .int 0, .int 0, .int 0, .int 0, .int 0, .int 0, .null, .null, .int 0, .int 0, .null, .null, .null, .null, .null, .null, .int 0, .int 0, .int 0, .null, .long 0, .long 0]))]) [29] rfl
  have hDc := hD.sub (ws' := [(qm, .inr (6, [.int 0, .int 0, .int 0, .null, .null, .null, .null, .null, .null, .null, .int 0, .int 0, .null, .int 0, .int 0, .int 0, .int 0, .int 0, .int 0, .null, .null, .int 0, .int 0, .null, .null, .null, .null, .null, .null, .int 0, .int 0, .int 0, .null, .long 0, .long 0]))]) [29] (by decide) rfl
  have hFc := va_free (wc := [(qm, .inr (6, [.int 0, .int 0, .int 0, .null, .null, .null, .null, .null, .null, .null, .int 0, .int 0, .null, .int 0, .int 0, .int 0, .int 0, .int 0, .int 0, .null, .null, .int 0, .int 0, .null, .null, .null, .null, .null, .null, .int 0, .int 0, .int 0, .null, .long 0, .long 0]))]) hD hS hA [29] rfl
  refine va_callv (va_runI (As := []) (rest := [.ref qm]) ⟨hx, hb, hml, hown, hts⟩ (ci_6 l D cA qm H.size) (cwI 0 hts tk_gi_6 rfl rfl rfl (hts _ tk_ii_6) (hts (.methodLink R_law 12 yi_6) (tkm 790 (by decide +kernel) rfl)) (hts _ tk_im_6) rfl (by decide +kernel) ⟨Nat.le_of_ble_eq_true rfl, Nat.le_of_ble_eq_true rfl⟩) ⟨fun a U g mk q => by obtain ⟨q0, q1, qP, qK, qD⟩ := q; exact ⟨q0, q1, qP, va_K.moved (u := U) (U := U.calling g mk a) (Vm.Alike.refl U.vm) qK, qD⟩, fun U hU hW => ⟨rfl, by rw [hU], by rw [hU]; exact hPc, va_K.moved hW.alike hK, hDc.weaken (fun _ _ _ _ => trivial)⟩⟩ rfl rfl hl.1 rfl (lv_room (Nat.le_of_ble_eq_true rfl)) dl_12 ⟨Nat.le_of_ble_eq_true rfl, Nat.le_of_ble_eq_true rfl⟩) hS (fun q _ h => hFc q h) hFc (fun u t H1 locs ht hvm hw hB hz1 hk1 hS => ?_)
  obtain ⟨hP1, -, hD1⟩ := hB
  rw [ht] at hP1
  generalize u.getD 0 0 = b0 at hP1 hD1
  generalize u.getD 1 0 = b1 at hP1 hD1
  generalize u.getD 2 0 = b2 at hP1 hD1
  generalize u.getD 3 0 = b3 at hP1 hD1
  generalize u.getD 4 0 = b4 at hP1 hD1
  generalize u.getD 5 0 = b5 at hP1 hD1
  generalize u.getD 6 0 = b6 at hP1 hD1
  generalize u.getD 7 0 = b7 at hP1 hD1
  generalize u.getD 8 0 = b8 at hP1 hD1
  generalize u.getD 9 0 = b9 at hP1 hD1
  generalize u.getD 10 0 = b10 at hP1 hD1
  generalize u.getD 11 0 = b11 at hP1 hD1
  generalize u.getD 12 0 = b12 at hP1 hD1
  generalize u.getD 13 0 = b13 at hP1 hD1
  generalize u.getD 14 0 = b14 at hP1 hD1
  generalize u.getD 15 0 = b15 at hP1 hD1
  generalize u.getD 16 0 = b16 at hP1 hD1
  obtain ⟨hP, hD⟩ := va_join (wr := [(qt, .inr (5, [.ref a0, .ref a7, .ref a14, .ref a17, .ref a19, .ref a26])), (a0, .inr (1, [.int 0, .int 0, .int 0, .ref a1, .ref a2, .ref a3, .ref a4, .ref a5, .ref a6])), (a1, .inl (cA 0, (60, .inl (fun _ => 0)))), (a2, .inl (cA 0, (60, .inl (fun _ => 0)))), (a3, .inl (cA 0, (60, .inl (fun _ => 0)))), (a4, .inl (cA 0, (60, .inl (fun _ => 0)))), (a5, .inl (cA 0, (60, .inl (fun _ => 0)))), (a6, .inl (cA 0, (6, .inl (fun _ => 0)))), (a7, .inr (1, [.int 0, .int 0, .int 0, .ref a8, .ref a9, .ref a10, .ref a11, .ref a12, .ref a13])), (a8, .inl (cA 0, (60, .inl (fun _ => 0)))), (a9, .inl (cA 0, (60, .inl (fun _ => 0)))), (a10, .inl (cA 0, (60, .inl (fun _ => 0)))), (a11, .inl (cA 0, (60, .inl (fun _ => 0)))), (a12, .inl (cA 0, (60, .inl (fun _ => 0)))), (a13, .inl (cA 0, (6, .inl (fun _ => 0)))), (a14, .inr (3, [.ref a15, .ref a16, .int 0, .int 0, .int 0])), (a15, .inl (cA 2, (1000, .inl (fun _ => 0)))), (a16, .inl (cA 0, (4, .inl (fun _ => 0)))), (a17, .inr (0, [.ref a18, .int 0, .int 0])), (a18, .inl (cA 1, (256, .inr (.inl (fun _ => 0))))), (a19, .inr (4, [.ref a20, .ref a21, .ref a22, .ref a23, .ref a24, .ref a25, .int 0, .int 0, .int 0])), (a20, .inl (cA 1, (256, .inr (.inl (fun _ => 0))))), (a21, .inl (cA 1, (256, .inr (.inl (fun _ => 0))))), (a22, .inl (cA 1, (256, .inr (.inl (fun _ => 0))))), (a23, .inl (cA 1, (96, .inr (.inl (fun _ => 0))))), (a24, .inl (cA 1, (96, .inr (.inl (fun _ => 0))))), (a25, .inl (cA 1, (96, .inr (.inl (fun _ => 0))))), (a26, .inr (2, [.ref a27, .int 0, .int 0, .int 0])), (a27, .inl (cA 0, (16, .inl (fun _ => 0))))]) (w1 := [(qm, .inr (6, [.int 0, .int 0, .int 0, .ref b0, .ref b1, .ref b2, .ref b3, .ref b4, .ref b5, .ref b6, .int 0, .int 0, .ref b7, .int 0, .int 0, .int 0, .int 0, .int 0, .int 0, .ref b8, .ref b9, .int 0, .int 0, .ref b10, .ref b11, .ref b12, .ref b13, .ref b14, .ref b15, .int 0, .int 0, .int 0, .ref b16, .long 0, .long 0])), (b0, .inl (cA 0, (60, .inl (fun _ => 0)))), (b1, .inl (cA 0, (60, .inl (fun _ => 0)))), (b2, .inl (cA 0, (60, .inl (fun _ => 0)))), (b3, .inl (cA 0, (60, .inl (fun _ => 0)))), (b4, .inl (cA 0, (60, .inl (fun _ => 0)))), (b5, .inl (cA 0, (6, .inl (fun _ => 0)))), (b6, .inl (cA 0, (320, .inl (fun _ => 0)))), (b7, .inl (cA 2, (1000, .inl (fun _ => 0)))), (b8, .inl (cA 0, (4, .inl (fun _ => 0)))), (b9, .inl (cA 1, (256, .inr (.inl (fun _ => 0))))), (b10, .inl (cA 1, (256, .inr (.inl (fun _ => 0))))), (b11, .inl (cA 1, (96, .inr (.inl (fun _ => 0))))), (b12, .inl (cA 1, (256, .inr (.inl (fun _ => 0))))), (b13, .inl (cA 1, (96, .inr (.inl (fun _ => 0))))), (b14, .inl (cA 1, (256, .inr (.inl (fun _ => 0))))), (b15, .inl (cA 1, (96, .inr (.inl (fun _ => 0))))), (b16, .inl (cA 0, (16, .inl (fun _ => 0))))]) hP hD [29] [0, 1, 2, 3, 4, 5, 6, 7, 8, 9, 10, 11, 12, 13, 14, 15, 16, 17, 18, 19, 20, 21, 22, 23, 24, 25, 26, 27, 28] rfl rfl (by decide) (by decide) hk1 hFc hP1 hD1
  generalize H1 = H at hP hS ⊢
  have hP : va_P D tk_cls [(qt, .inr (5, [.ref a0, .ref a7, .ref a14, .ref a17, .ref a19, .ref a26])), (a0, .inr (1, [.int 0, .int 0, .int 0, .ref a1, .ref a2, .ref a3, .ref a4, .ref a5, .ref a6])), (a1, .inl (cA 0, (60, .inl (fun _ => 0)))), (a2, .inl (cA 0, (60, .inl (fun _ => 0)))), (a3, .inl (cA 0, (60, .inl (fun _ => 0)))), (a4, .inl (cA 0, (60, .inl (fun _ => 0)))), (a5, .inl (cA 0, (60, .inl (fun _ => 0)))), (a6, .inl (cA 0, (6, .inl (fun _ => 0)))), (a7, .inr (1, [.int 0, .int 0, .int 0, .ref a8, .ref a9, .ref a10, .ref a11, .ref a12, .ref a13])), (a8, .inl (cA 0, (60, .inl (fun _ => 0)))), (a9, .inl (cA 0, (60, .inl (fun _ => 0)))), (a10, .inl (cA 0, (60, .inl (fun _ => 0)))), (a11, .inl (cA 0, (60, .inl (fun _ => 0)))), (a12, .inl (cA 0, (60, .inl (fun _ => 0)))), (a13, .inl (cA 0, (6, .inl (fun _ => 0)))), (a14, .inr (3, [.ref a15, .ref a16, .int 0, .int 0, .int 0])), (a15, .inl (cA 2, (1000, .inl (fun _ => 0)))), (a16, .inl (cA 0, (4, .inl (fun _ => 0)))), (a17, .inr (0, [.ref a18, .int 0, .int 0])), (a18, .inl (cA 1, (256, .inr (.inl (fun _ => 0))))), (a19, .inr (4, [.ref a20, .ref a21, .ref a22, .ref a23, .ref a24, .ref a25, .int 0, .int 0, .int 0])), (a20, .inl (cA 1, (256, .inr (.inl (fun _ => 0))))), (a21, .inl (cA 1, (256, .inr (.inl (fun _ => 0))))), (a22, .inl (cA 1, (256, .inr (.inl (fun _ => 0))))), (a23, .inl (cA 1, (96, .inr (.inl (fun _ => 0))))), (a24, .inl (cA 1, (96, .inr (.inl (fun _ => 0))))), (a25, .inl (cA 1, (96, .inr (.inl (fun _ => 0))))), (a26, .inr (2, [.ref a27, .int 0, .int 0, .int 0])), (a27, .inl (cA 0, (16, .inl (fun _ => 0)))), (qm, .inr (6, [.int 0, .int 0, .int 0, .ref b0, .ref b1, .ref b2, .ref b3, .ref b4, .ref b5, .ref b6, .int 0, .int 0, .ref b7, .int 0, .int 0, .int 0, .int 0, .int 0, .int 0, .ref b8, .ref b9, .int 0, .int 0, .ref b10, .ref b11, .ref b12, .ref b13, .ref b14, .ref b15, .int 0, .int 0, .int 0, .ref b16, .long 0, .long 0])), (b0, .inl (cA 0, (60, .inl (fun _ => 0)))), (b1, .inl (cA 0, (60, .inl (fun _ => 0)))), (b2, .inl (cA 0, (60, .inl (fun _ => 0)))), (b3, .inl (cA 0, (60, .inl (fun _ => 0)))), (b4, .inl (cA 0, (60, .inl (fun _ => 0)))), (b5, .inl (cA 0, (6, .inl (fun _ => 0)))), (b6, .inl (cA 0, (320, .inl (fun _ => 0)))), (b7, .inl (cA 2, (1000, .inl (fun _ => 0)))), (b8, .inl (cA 0, (4, .inl (fun _ => 0)))), (b9, .inl (cA 1, (256, .inr (.inl (fun _ => 0))))), (b10, .inl (cA 1, (256, .inr (.inl (fun _ => 0))))), (b11, .inl (cA 1, (96, .inr (.inl (fun _ => 0))))), (b12, .inl (cA 1, (256, .inr (.inl (fun _ => 0))))), (b13, .inl (cA 1, (96, .inr (.inl (fun _ => 0))))), (b14, .inl (cA 1, (256, .inr (.inl (fun _ => 0))))), (b15, .inl (cA 1, (96, .inr (.inl (fun _ => 0))))), (b16, .inl (cA 0, (16, .inl (fun _ => 0))))] H := hP
  have hD : va_D (fun q : Nat => s.heap.size ≤ q) [(qt, .inr (5, [.ref a0, .ref a7, .ref a14, .ref a17, .ref a19, .ref a26])), (a0, .inr (1, [.int 0, .int 0, .int 0, .ref a1, .ref a2, .ref a3, .ref a4, .ref a5, .ref a6])), (a1, .inl (cA 0, (60, .inl (fun _ => 0)))), (a2, .inl (cA 0, (60, .inl (fun _ => 0)))), (a3, .inl (cA 0, (60, .inl (fun _ => 0)))), (a4, .inl (cA 0, (60, .inl (fun _ => 0)))), (a5, .inl (cA 0, (60, .inl (fun _ => 0)))), (a6, .inl (cA 0, (6, .inl (fun _ => 0)))), (a7, .inr (1, [.int 0, .int 0, .int 0, .ref a8, .ref a9, .ref a10, .ref a11, .ref a12, .ref a13])), (a8, .inl (cA 0, (60, .inl (fun _ => 0)))), (a9, .inl (cA 0, (60, .inl (fun _ => 0)))), (a10, .inl (cA 0, (60, .inl (fun _ => 0)))), (a11, .inl (cA 0, (60, .inl (fun _ => 0)))), (a12, .inl (cA 0, (60, .inl (fun _ => 0)))), (a13, .inl (cA 0, (6, .inl (fun _ => 0)))), (a14, .inr (3, [.ref a15, .ref a16, .int 0, .int 0, .int 0])), (a15, .inl (cA 2, (1000, .inl (fun _ => 0)))), (a16, .inl (cA 0, (4, .inl (fun _ => 0)))), (a17, .inr (0, [.ref a18, .int 0, .int 0])), (a18, .inl (cA 1, (256, .inr (.inl (fun _ => 0))))), (a19, .inr (4, [.ref a20, .ref a21, .ref a22, .ref a23, .ref a24, .ref a25, .int 0, .int 0, .int 0])), (a20, .inl (cA 1, (256, .inr (.inl (fun _ => 0))))), (a21, .inl (cA 1, (256, .inr (.inl (fun _ => 0))))), (a22, .inl (cA 1, (256, .inr (.inl (fun _ => 0))))), (a23, .inl (cA 1, (96, .inr (.inl (fun _ => 0))))), (a24, .inl (cA 1, (96, .inr (.inl (fun _ => 0))))), (a25, .inl (cA 1, (96, .inr (.inl (fun _ => 0))))), (a26, .inr (2, [.ref a27, .int 0, .int 0, .int 0])), (a27, .inl (cA 0, (16, .inl (fun _ => 0)))), (qm, .inr (6, [.int 0, .int 0, .int 0, .ref b0, .ref b1, .ref b2, .ref b3, .ref b4, .ref b5, .ref b6, .int 0, .int 0, .ref b7, .int 0, .int 0, .int 0, .int 0, .int 0, .int 0, .ref b8, .ref b9, .int 0, .int 0, .ref b10, .ref b11, .ref b12, .ref b13, .ref b14, .ref b15, .int 0, .int 0, .int 0, .ref b16, .long 0, .long 0])), (b0, .inl (cA 0, (60, .inl (fun _ => 0)))), (b1, .inl (cA 0, (60, .inl (fun _ => 0)))), (b2, .inl (cA 0, (60, .inl (fun _ => 0)))), (b3, .inl (cA 0, (60, .inl (fun _ => 0)))), (b4, .inl (cA 0, (60, .inl (fun _ => 0)))), (b5, .inl (cA 0, (6, .inl (fun _ => 0)))), (b6, .inl (cA 0, (320, .inl (fun _ => 0)))), (b7, .inl (cA 2, (1000, .inl (fun _ => 0)))), (b8, .inl (cA 0, (4, .inl (fun _ => 0)))), (b9, .inl (cA 1, (256, .inr (.inl (fun _ => 0))))), (b10, .inl (cA 1, (256, .inr (.inl (fun _ => 0))))), (b11, .inl (cA 1, (96, .inr (.inl (fun _ => 0))))), (b12, .inl (cA 1, (256, .inr (.inl (fun _ => 0))))), (b13, .inl (cA 1, (96, .inr (.inl (fun _ => 0))))), (b14, .inl (cA 1, (256, .inr (.inl (fun _ => 0))))), (b15, .inl (cA 1, (96, .inr (.inl (fun _ => 0))))), (b16, .inl (cA 0, (16, .inl (fun _ => 0))))] := hD
  refine W.widen (k := 47) (n := 5982) (Nat.le_of_ble_eq_true rfl) (Nat.le_of_ble_eq_true rfl) ?_
  refine lv_astore_n (lv' := [(2, .ref qm), (1, .ref qt), (0, .ref b)]) hx hb dl_15 rfl hl (by decide) rfl (fun ls hl => ?_)
  refine lv_iconst (v := 0) hx hb dl_16 (by decide) ?_
  refine lv_istore_n (lv' := [(3, .int 0), (2, .ref qm), (1, .ref qt), (0, .ref b)]) hx hb dl_17 rfl hl (by decide) rfl (fun ls hl => ?_)
  obtain ⟨ad, had⟩ : ∃ ad : tkAd, ad = tk_lkp tk_ix [a17, a18, a0, a1, a2, a3, a4, a5, a6, a7, a8, a9, a10, a11, a12, a13, a26, a27, a14, a15, a16, a19, a20, a21, a22, a23, a24, a25, qt, qm, b0, b1, b2, b3, b4, b5, b6, b7, b8, b9, b10, b11, b12, b13, b14, b15, b16] := ⟨_, rfl⟩
  have ewl : tk_wl ad cA tk_w0 = [(a17, .inr (0, [.ref a18, .int 0, .int 0])), (a18, .inl (cA 1, (256, .inr (.inl (fun _ => 0))))), (a0, .inr (1, [.int 0, .int 0, .int 0, .ref a1, .ref a2, .ref a3, .ref a4, .ref a5, .ref a6])), (a1, .inl (cA 0, (60, .inl (fun _ => 0)))), (a2, .inl (cA 0, (60, .inl (fun _ => 0)))), (a3, .inl (cA 0, (60, .inl (fun _ => 0)))), (a4, .inl (cA 0, (60, .inl (fun _ => 0)))), (a5, .inl (cA 0, (60, .inl (fun _ => 0)))), (a6, .inl (cA 0, (6, .inl (fun _ => 0)))), (a7, .inr (1, [.int 0, .int 0, .int 0, .ref a8, .ref a9, .ref a10, .ref a11, .ref a12, .ref a13])), (a8, .inl (cA 0, (60, .inl (fun _ => 0)))), (a9, .inl (cA 0, (60, .inl (fun _ => 0)))), (a10, .inl (cA 0, (60, .inl (fun _ => 0)))), (a11, .inl (cA 0, (60, .inl (fun _ => 0)))), (a12, .inl (cA 0, (60, .inl (fun _ => 0)))), (a13, .inl (cA 0, (6, .inl (fun _ => 0)))), (a26, .inr (2, [.ref a27, .int 0, .int 0, .int 0])), (a27, .inl (cA 0, (16, .inl (fun _ => 0)))), (a14, .inr (3, [.ref a15, .ref a16, .int 0, .int 0, .int 0])), (a15, .inl (cA 2, (1000, .inl (fun _ => 0)))), (a16, .inl (cA 0, (4, .inl (fun _ => 0)))), (a19, .inr (4, [.ref a20, .ref a21, .ref a22, .ref a23, .ref a24, .ref a25, .int 0, .int 0, .int 0])), (a20, .inl (cA 1, (256, .inr (.inl (fun _ => 0))))), (a21, .inl (cA 1, (256, .inr (.inl (fun _ => 0))))), (a22, .inl (cA 1, (256, .inr (.inl (fun _ => 0))))), (a23, .inl (cA 1, (96, .inr (.inl (fun _ => 0))))), (a24, .inl (cA 1, (96, .inr (.inl (fun _ => 0))))), (a25, .inl (cA 1, (96, .inr (.inl (fun _ => 0))))), (qt, .inr (5, [.ref a0, .ref a7, .ref a14, .ref a17, .ref a19, .ref a26])), (qm, .inr (6, [.int 0, .int 0, .int 0, .ref b0, .ref b1, .ref b2, .ref b3, .ref b4, .ref b5, .ref b6, .int 0, .int 0, .ref b7, .int 0, .int 0, .int 0, .int 0, .int 0, .int 0, .ref b8, .ref b9, .int 0, .int 0, .ref b10, .ref b11, .ref b12, .ref b13, .ref b14, .ref b15, .int 0, .int 0, .int 0, .ref b16, .long 0, .long 0])), (b0, .inl (cA 0, (60, .inl (fun _ => 0)))), (b1, .inl (cA 0, (60, .inl (fun _ => 0)))), (b2, .inl (cA 0, (60, .inl (fun _ => 0)))), (b3, .inl (cA 0, (60, .inl (fun _ => 0)))), (b4, .inl (cA 0, (60, .inl (fun _ => 0)))), (b5, .inl (cA 0, (6, .inl (fun _ => 0)))), (b6, .inl (cA 0, (320, .inl (fun _ => 0)))), (b7, .inl (cA 2, (1000, .inl (fun _ => 0)))), (b8, .inl (cA 0, (4, .inl (fun _ => 0)))), (b9, .inl (cA 1, (256, .inr (.inl (fun _ => 0))))), (b10, .inl (cA 1, (256, .inr (.inl (fun _ => 0))))), (b11, .inl (cA 1, (96, .inr (.inl (fun _ => 0))))), (b12, .inl (cA 1, (256, .inr (.inl (fun _ => 0))))), (b13, .inl (cA 1, (96, .inr (.inl (fun _ => 0))))), (b14, .inl (cA 1, (256, .inr (.inl (fun _ => 0))))), (b15, .inl (cA 1, (96, .inr (.inl (fun _ => 0))))), (b16, .inl (cA 0, (16, .inl (fun _ => 0))))] := by rw [had]; rfl
  have hPw : va_P D tk_cls (tk_wl ad cA tk_w0) H := by rw [ewl]; exact hP.sub [18, 19, 1, 2, 3, 4, 5, 6, 7, 8, 9, 10, 11, 12, 13, 14, 27, 28, 15, 16, 17, 20, 21, 22, 23, 24, 25, 26, 0, 29, 30, 31, 32, 33, 34, 35, 36, 37, 38, 39, 40, 41, 42, 43, 44, 45, 46] rfl
  have hDw : va_D (fun q : Nat => s.heap.size ≤ q) (tk_wl ad cA tk_w0) := by rw [ewl]; exact hD.sub [18, 19, 1, 2, 3, 4, 5, 6, 7, 8, 9, 10, 11, 12, 13, 14, 27, 28, 15, 16, 17, 20, 21, 22, 23, 24, 25, 26, 0, 29, 30, 31, 32, 33, 34, 35, 36, 37, 38, 39, 40, 41, 42, 43, 44, 45, 46] (by decide) rfl
  obtain ⟨hij, hAd⟩ := tk_wl_inj hDw
  have e5 : ad (5, 0, 0) = qt := by rw [had]; rfl
  have e6 : ad (6, 0, 0) = qm := by rw [had]; rfl
  refine law_loop hL C0 hK hij hAd (L + 1) 0 0 (by omega) (by omega) rfl tk_w0 H _ ls law_0 tk_wok0 hPw hS ?_
  rw [e5, e6]
  exact lv_sub hl [3, 2, 1, 0] rfl
