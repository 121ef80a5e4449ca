/-! the law: a call of each, one case after the other -/
def LawI (c : Nat) (w : tkW) : Prop := ∃ S z B on T t, AInv c S z on T t ∧ CInv S z B on T t w.1 w.2.1 w.2.2 ∧ MInv S z B on T t w.1 w.2.1
theorem vok5 (l : List Int32) : ∀ v ∈ (.inr (.inr (5, 0, 0)) :: l.map .inl : List tkV), tk_vok v := by
  intro v hv
  rcases List.mem_cons.mp hv with rfl | hv
  · show (5, 0, 0) ∈ tk_ix; decide
  · obtain ⟨x, -, rfl⟩ := List.mem_map.mp hv; trivial
theorem vok6 (l : List Int32) : ∀ v ∈ (.inr (.inr (6, 0, 0)) :: l.map .inl : List tkV), tk_vok v := by
  intro v hv
  rcases List.mem_cons.mp hv with rfl | hv
  · show (6, 0, 0) ∈ tk_ix; decide
  · obtain ⟨x, -, rfl⟩ := List.mem_map.mp hv; trivial
theorem lwm_98 : te_98 ∈ tk_all := List.mem_of_getElem? (i := 98) rfl
theorem lwl_98 : Cond.methodLink R_law 13 te_98.1 ∈ tk_TB := tkm 228 (by decide +kernel) rfl
theorem lwi_98 : Cond.instanceMethod te_98.1 ∈ tk_TB := tk_tb (tk_w1s (tk_w1 te_98) (List.mem_map.mpr ⟨te_98, lwm_98, rfl⟩)) rfl
theorem lws_98 : Cond.selects te_98.1.cls te_98.1 te_98.1 ∈ tk_TB := tk_tb (tk_w2s (tk_w2 te_98) (List.mem_map.mpr ⟨te_98, lwm_98, rfl⟩)) rfl
theorem lwm_130 : te_130 ∈ tk_all := List.mem_of_getElem? (i := 130) rfl
theorem lwl_130 : Cond.methodLink R_law 17 te_130.1 ∈ tk_TB := tkm 900 (by decide +kernel) rfl
theorem lwi_130 : Cond.instanceMethod te_130.1 ∈ tk_TB := tk_tb (tk_w1s (tk_w1 te_130) (List.mem_map.mpr ⟨te_130, lwm_130, rfl⟩)) rfl
theorem lws_130 : Cond.selects te_130.1.cls te_130.1 te_130.1 ∈ tk_TB := tk_tb (tk_w2s (tk_w2 te_130) (List.mem_map.mpr ⟨te_130, lwm_130, rfl⟩)) rfl
set_option maxHeartbeats 4000000 in
set_option maxRecDepth 100000 in
theorem lc_moments {p : Program} {l : Launch} {e : Env} {s : State} {m : MethodId} {below : List Frame} {meth : Method} {c : Code} {D : va_G} {cA : Nat → ClassId} {ad : tkAd} {b L : Nat} {xs : Nat → Int32} (C0 : lw_At p s m meth c b L xs) (hK : va_K D tk_cls (tk_tyl cA) s) (hij : ∀ t ∈ tk_ix, ∀ t' ∈ tk_ix, ad t = ad t' → t = t') (hA : ∀ t ∈ tk_ix, (fun q : Nat => s.heap.size ≤ q) (ad t)) {cn : Nat} (hcn : cn ≤ 600) {x3 : Int32} (hv : ∀ k, k < 6 → vp_in (x3 + nI k) L) {w : tkW} (hI : LawI cn w) (hw : tk_wok w) {H : Heap} {locs : List Loc} (hP : va_P D tk_cls (tk_wl ad cA w) H) (hS : va_S (fun q : Nat => s.heap.size ≤ q) s.heap H locs) {ls : Array Slot} (hl : lv_has ls 4 [(0, .ref b), (1, .ref (ad (5, 0, 0))), (2, .ref (ad (6, 0, 0))), (3, .int x3)]) (hN : ∀ (u : tkW) (H : Heap) (locs : List Loc) (ls : Array Slot), LawI (cn + 1) u → tk_wok u → va_P D tk_cls (tk_wl ad cA u) H → va_S (fun q : Nat => s.heap.size ≤ q) s.heap H locs → lv_has ls 4 [(0, .ref b), (1, .ref (ad (5, 0, 0))), (2, .ref (ad (6, 0, 0))), (3, .int x3)] → W p l e room_1 s m #[Value.ref b] below meth c H locs 47 5982 (lw_Z below #[Value.ref b] s) (F0 m 830 ls [])) : W p l e room_1 s m #[Value.ref b] below meth c H locs 47 5982 (lw_Z below #[Value.ref b] s) (F0 m 156 ls []) := by
  obtain ⟨hx, hb, hr, hml, hown, hts0, hX, hbl, hlocks, hgv⟩ := C0
  have hts : ∀ w ∈ tk_TB, w.before #[Value.ref b] s = true := fun w hw => hts0 w (List.mem_filter.mp hw).1
  have hbA : ¬ (fun q : Nat => s.heap.size ≤ q) b := Nat.not_le.mpr hbl
  obtain ⟨S, z, B, on, T, t, hA1, hC1, hM1⟩ := hI
  obtain ⟨I, J, R⟩ := w
  refine lv_aload_n hx hb dl_156 rfl (lv_at hl 1 rfl) ?_
  refine lv_aload_n hx hb dl_157 rfl (lv_at hl 0 rfl) ?_
  refine lv_iload_n hx hb dl_158 rfl (lv_at hl 3 rfl) ?_
  refine lv_iconst (v := 1) hx hb dl_159 (by decide) ?_
  refine lv_iadd hx hb dl_160 ?_
  refine va_sld hx hb hX hbl hbA hS (show vp_in (x3 + 1) L from hv 1 (by decide)) dl_161 ?_
  have hM5 : Met l te_98.1 (Cond.code te_98.1 te_98.2.1 te_98.2.2.1 te_98.2.2.2.1 :: tk_TB) ({ frames := te_98.2.2.2.2.2.2.2.2.1, cells := 0, slots := 0, locals := te_98.2.2.2.2.2.2.2.2.2.1 }) (va_Pc (.ref (ad (5, 0, 0)) :: [.int (xs (x3 + 1).toNatClampNeg)]) (fun U => va_P D tk_cls (tk_wl ad cA (I, J, R)) U.heap ∧ va_K D tk_cls (tk_tyl cA) U)) (va_Qi (fun (ra : Int32) (u : tkW) => tkDn tm_130 (0, [some (.inr (.inr (6, 0, 0))), some (.inl (xs (x3 + 1).toNatClampNeg))], [], u) (Fin cn (some (.inl ra)))) (fun u t => va_P D tk_cls (tk_wl ad cA u) t.heap ∧ tk_wok u) (fun q : Nat => s.heap.size ≤ q)) 0 0 (fun q : Nat => s.heap.size ≤ q) :=
    tk_contract (l := l) (E := te_98) lwm_98 (as := [.inr (.inr (5, 0, 0)), .inl (xs (x3 + 1).toNatClampNeg)]) (w := (I, J, R)) (Q := fun ra u => tkDn tm_130 (0, [some (.inr (.inr (6, 0, 0))), some (.inl (xs (x3 + 1).toNatClampNeg))], [], u) (Fin cn (ra))) (pr_moments hA1 hC1 hM1) (Nat.le_of_ble_eq_true rfl) (vok5 [xs (x3 + 1).toNatClampNeg]) hw (D := D) (cA := cA) (ad := ad) (A := (fun q : Nat => s.heap.size ≤ q)) hij hA
  refine va_calli (va_runV (C := te_98.1.cls) (As := [.int (xs (x3 + 1).toNatClampNeg)]) (rest := []) (bytes := te_98.2.1) (maxL := te_98.2.2.1) (ret := te_98.2.2.2.1) (n := 1) ⟨hx, hb, hml, hown, hts⟩ hM5 ⟨callB_of _ hts (tk_good_in lwm_98) rfl rfl rfl (hts _ tk_ii_5) (hts _ lwl_98) (by decide +kernel) ⟨Nat.le_of_ble_eq_true rfl, Nat.le_of_ble_eq_true rfl⟩, hts _ lwi_98, hts _ lws_98⟩ ⟨fun a U g mk q => by obtain ⟨q0, qP, qK⟩ := q; exact ⟨q0, qP, va_K.moved (u := U) (U := U.calling g mk a) (Vm.Alike.refl U.vm) qK⟩, va_recv hK hP (ci := 5) (q0 := 28) rfl rfl, fun U hU hW => ⟨rfl, by rw [hU]; exact hP, va_K.moved hW.alike hK⟩⟩ rfl rfl hl.1 rfl (lv_room (Nat.le_of_ble_eq_true rfl)) dl_162 ⟨Nat.le_of_ble_eq_true rfl, Nat.le_of_ble_eq_true rfl⟩) hS (fun _ _ h => h) (fun _ h => h) (fun r u tr H locs ht hvm hr hB hz1 hk1 hS => ?_)
  obtain ⟨hP, hw⟩ := hB
  rw [ht] at hP
  refine lv_aload_n hx hb dl_165 rfl (lv_at hl 2 rfl) ?_
  refine lv_aload_n hx hb dl_166 rfl (lv_at hl 0 rfl) ?_
  refine lv_iload_n hx hb dl_167 rfl (lv_at hl 3 rfl) ?_
  refine lv_iconst (v := 1) hx hb dl_168 (by decide) ?_
  refine lv_iadd hx hb dl_169 ?_
  refine va_sld hx hb hX hbl hbA hS (show vp_in (x3 + 1) L from hv 1 (by decide)) dl_170 ?_
  have hM6 : Met l te_130.1 (Cond.code te_130.1 te_130.2.1 te_130.2.2.1 te_130.2.2.2.1 :: tk_TB) ({ frames := te_130.2.2.2.2.2.2.2.2.1, cells := 0, slots := 0, locals := te_130.2.2.2.2.2.2.2.2.2.1 }) (va_Pc (.ref (ad (6, 0, 0)) :: [.int (xs (x3 + 1).toNatClampNeg)]) (fun U => va_P D tk_cls (tk_wl ad cA u) U.heap ∧ va_K D tk_cls (tk_tyl cA) U)) (va_Qi (fun (ra : Int32) (u : tkW) => Fin cn (some (.inl r)) (some (.inl ra)) u) (fun u t => va_P D tk_cls (tk_wl ad cA u) t.heap ∧ tk_wok u) (fun q : Nat => s.heap.size ≤ q)) 0 0 (fun q : Nat => s.heap.size ≤ q) :=
    tk_contract (l := l) (E := te_130) lwm_130 (as := [.inr (.inr (6, 0, 0)), .inl (xs (x3 + 1).toNatClampNeg)]) (w := u) (Q := fun ra u => Fin cn (some (.inl r)) (ra) u) (hr) (Nat.le_of_ble_eq_true rfl) (vok6 [xs (x3 + 1).toNatClampNeg]) hw (D := D) (cA := cA) (ad := ad) (A := (fun q : Nat => s.heap.size ≤ q)) hij hA
  refine va_calli (va_runV (C := te_130.1.cls) (As := [.int (xs (x3 + 1).toNatClampNeg)]) (rest := [.int r]) (bytes := te_130.2.1) (maxL := te_130.2.2.1) (ret := te_130.2.2.2.1) (n := 1) ⟨hx, hb, hml, hown, hts⟩ hM6 ⟨callB_of _ hts (tk_good_in lwm_130) rfl rfl rfl (hts _ tk_ii_6) (hts _ lwl_130) (by decide +kernel) ⟨Nat.le_of_ble_eq_true rfl, Nat.le_of_ble_eq_true rfl⟩, hts _ lwi_130, hts _ lws_130⟩ ⟨fun a U g mk q => by obtain ⟨q0, qP, qK⟩ := q; exact ⟨q0, qP, va_K.moved (u := U) (U := U.calling g mk a) (Vm.Alike.refl U.vm) qK⟩, va_recv hK hP (ci := 6) (q0 := 29) rfl rfl, fun U hU hW => ⟨rfl, by rw [hU]; exact hP, va_K.moved hW.alike hK⟩⟩ rfl rfl hl.1 rfl (lv_room (Nat.le_of_ble_eq_true rfl)) dl_171 ⟨Nat.le_of_ble_eq_true rfl, Nat.le_of_ble_eq_true rfl⟩) hS (fun _ _ h => h) (fun _ h => h) (fun r2 u2 tr2 H locs ht hvm hr2 hB hz1 hk1 hS => ?_)
  obtain ⟨hP, hw⟩ := hB
  rw [ht] at hP
  obtain ⟨he, hI2⟩ := hr2
  have he : r2 = r := by cases he; rfl
  refine lv_icmp_eq (tgt := 830) hx hb dl_174 (by decide) (fun cc => ?_) (fun cc => ?_)
  · exact hN u2 _ _ ls hI2 hw hP hS hl
  · exact absurd he.symm cc
theorem lwm_99 : te_99 ∈ tk_all := List.mem_of_getElem? (i := 99) rfl
theorem lwl_99 : Cond.methodLink R_law 18 te_99.1 ∈ tk_TB := tkm 252 (by decide +kernel) rfl
theorem lwi_99 : Cond.instanceMethod te_99.1 ∈ tk_TB := tk_tb (tk_w1s (tk_w1 te_99) (List.mem_map.mpr ⟨te_99, lwm_99, rfl⟩)) rfl
theorem lws_99 : Cond.selects te_99.1.cls te_99.1 te_99.1 ∈ tk_TB := tk_tb (tk_w2s (tk_w2 te_99) (List.mem_map.mpr ⟨te_99, lwm_99, rfl⟩)) rfl
theorem lwm_133 : te_133 ∈ tk_all := List.mem_of_getElem? (i := 133) rfl
theorem lwl_133 : Cond.methodLink R_law 22 te_133.1 ∈ tk_TB := tkm 911 (by decide +kernel) rfl
theorem lwi_133 : Cond.instanceMethod te_133.1 ∈ tk_TB := tk_tb (tk_w1s (tk_w1 te_133) (List.mem_map.mpr ⟨te_133, lwm_133, rfl⟩)) rfl
theorem lws_133 : Cond.selects te_133.1.cls te_133.1 te_133.1 ∈ tk_TB := tk_tb (tk_w2s (tk_w2 te_133) (List.mem_map.mpr ⟨te_133, lwm_133, rfl⟩)) rfl
set_option maxHeartbeats 4000000 in
set_option maxRecDepth 100000 in
theorem lc_wish {p : Program} {l : Launch} {e : Env} {s : State} {m : MethodId} {below : List Frame} {meth : Method} {c : Code} {D : va_G} {cA : Nat → ClassId} {ad : tkAd} {b L : Nat} {xs : Nat → Int32} (C0 : lw_At p s m meth c b L xs) (hK : va_K D tk_cls (tk_tyl cA) s) (hij : ∀ t ∈ tk_ix, ∀ t' ∈ tk_ix, ad t = ad t' → t = t') (hA : ∀ t ∈ tk_ix, (fun q : Nat => s.heap.size ≤ q) (ad t)) {cn : Nat} (hcn : cn ≤ 600) {x3 : Int32} (hv : ∀ k, k < 6 → vp_in (x3 + nI k) L) {w : tkW} (hI : LawI cn w) (hw : tk_wok w) {H : Heap} {locs : List Loc} (hP : va_P D tk_cls (tk_wl ad cA w) H) (hS : va_S (fun q : Nat => s.heap.size ≤ q) s.heap H locs) {ls : Array Slot} (hl : lv_has ls 4 [(0, .ref b), (1, .ref (ad (5, 0, 0))), (2, .ref (ad (6, 0, 0))), (3, .int x3)]) (hN : ∀ (u : tkW) (H : Heap) (locs : List Loc) (ls : Array Slot), LawI (cn + 1) u → tk_wok u → va_P D tk_cls (tk_wl ad cA u) H → va_S (fun q : Nat => s.heap.size ≤ q) s.heap H locs → lv_has ls 4 [(0, .ref b), (1, .ref (ad (5, 0, 0))), (2, .ref (ad (6, 0, 0))), (3, .int x3)] → W p l e room_1 s m #[Value.ref b] below meth c H locs 47 5982 (lw_Z below #[Value.ref b] s) (F0 m 830 ls [])) : W p l e room_1 s m #[Value.ref b] below meth c H locs 47 5982 (lw_Z below #[Value.ref b] s) (F0 m 179 ls []) := by
  obtain ⟨hx, hb, hr, hml, hown, hts0, hX, hbl, hlocks, hgv⟩ := C0
  have hts : ∀ w ∈ tk_TB, w.before #[Value.ref b] s = true := fun w hw => hts0 w (List.mem_filter.mp hw).1
  have hbA : ¬ (fun q : Nat => s.heap.size ≤ q) b := Nat.not_le.mpr hbl
  obtain ⟨S, z, B, on, T, t, hA1, hC1, hM1⟩ := hI
  obtain ⟨I, J, R⟩ := w
  refine lv_aload_n hx hb dl_179 rfl (lv_at hl 1 rfl) ?_
  refine lv_aload_n hx hb dl_180 rfl (lv_at hl 0 rfl) ?_
  refine lv_iload_n hx hb dl_181 rfl (lv_at hl 3 rfl) ?_
  refine lv_iconst (v := 1) hx hb dl_182 (by decide) ?_
  refine lv_iadd hx hb dl_183 ?_
  refine va_sld hx hb hX hbl hbA hS (show vp_in (x3 + 1) L from hv 1 (by decide)) dl_184 ?_
  refine lv_aload_n hx hb dl_185 rfl (lv_at hl 0 rfl) ?_
  refine lv_iload_n hx hb dl_186 rfl (lv_at hl 3 rfl) ?_
  refine lv_iconst (v := 2) hx hb dl_187 (by decide) ?_
  refine lv_iadd hx hb dl_188 ?_
  refine va_sld hx hb hX hbl hbA hS (show vp_in (x3 + 2) L from hv 2 (by decide)) dl_189 ?_
  refine lv_aload_n hx hb dl_190 rfl (lv_at hl 0 rfl) ?_
  refine lv_iload_n hx hb dl_191 rfl (lv_at hl 3 rfl) ?_
  refine lv_iconst (v := 3) hx hb dl_192 (by decide) ?_
  refine lv_iadd hx hb dl_193 ?_
  refine va_sld hx hb hX hbl hbA hS (show vp_in (x3 + 3) L from hv 3 (by decide)) dl_194 ?_
  refine lv_aload_n hx hb dl_195 rfl (lv_at hl 0 rfl) ?_
  refine lv_iload_n hx hb dl_196 rfl (lv_at hl 3 rfl) ?_
  refine lv_iconst (v := 4) hx hb dl_197 (by decide) ?_
  refine lv_iadd hx hb dl_198 ?_
  refine va_sld hx hb hX hbl hbA hS (show vp_in (x3 + 4) L from hv 4 (by decide)) dl_199 ?_
  have hM5 : Met l te_99.1 (Cond.code te_99.1 te_99.2.1 te_99.2.2.1 te_99.2.2.2.1 :: tk_TB) ({ frames := te_99.2.2.2.2.2.2.2.2.1, cells := 0, slots := 0, locals := te_99.2.2.2.2.2.2.2.2.2.1 }) (va_Pc (.ref (ad (5, 0, 0)) :: [.int (xs (x3 + 1).toNatClampNeg), .int (xs (x3 + 2).toNatClampNeg), .int (xs (x3 + 3).toNatClampNeg), .int (xs (x3 + 4).toNatClampNeg)]) (fun U => va_P D tk_cls (tk_wl ad cA (I, J, R)) U.heap ∧ va_K D tk_cls (tk_tyl cA) U)) (va_Qi (fun (ra : Int32) (u : tkW) => tkDn tm_133 (0, [some (.inr (.inr (6, 0, 0))), some (.inl (xs (x3 + 1).toNatClampNeg)), some (.inl (xs (x3 + 2).toNatClampNeg)), some (.inl (xs (x3 + 3).toNatClampNeg)), some (.inl (xs (x3 + 4).toNatClampNeg))], [], u) (Fin cn (some (.inl ra)))) (fun u t => va_P D tk_cls (tk_wl ad cA u) t.heap ∧ tk_wok u) (fun q : Nat => s.heap.size ≤ q)) 0 0 (fun q : Nat => s.heap.size ≤ q) :=
    tk_contract (l := l) (E := te_99) lwm_99 (as := [.inr (.inr (5, 0, 0)), .inl (xs (x3 + 1).toNatClampNeg), .inl (xs (x3 + 2).toNatClampNeg), .inl (xs (x3 + 3).toNatClampNeg), .inl (xs (x3 + 4).toNatClampNeg)]) (w := (I, J, R)) (Q := fun ra u => tkDn tm_133 (0, [some (.inr (.inr (6, 0, 0))), some (.inl (xs (x3 + 1).toNatClampNeg)), some (.inl (xs (x3 + 2).toNatClampNeg)), some (.inl (xs (x3 + 3).toNatClampNeg)), some (.inl (xs (x3 + 4).toNatClampNeg))], [], u) (Fin cn (ra))) (pr_wish hA1 hC1 hM1) (Nat.le_of_ble_eq_true rfl) (vok5 [xs (x3 + 1).toNatClampNeg, xs (x3 + 2).toNatClampNeg, xs (x3 + 3).toNatClampNeg, xs (x3 + 4).toNatClampNeg]) hw (D := D) (cA := cA) (ad := ad) (A := (fun q : Nat => s.heap.size ≤ q)) hij hA
  refine va_calli (va_runV (C := te_99.1.cls) (As := [.int (xs (x3 + 1).toNatClampNeg), .int (xs (x3 + 2).toNatClampNeg), .int (xs (x3 + 3).toNatClampNeg), .int (xs (x3 + 4).toNatClampNeg)]) (rest := []) (bytes := te_99.2.1) (maxL := te_99.2.2.1) (ret := te_99.2.2.2.1) (n := 4) ⟨hx, hb, hml, hown, hts⟩ hM5 ⟨callB_of _ hts (tk_good_in lwm_99) rfl rfl rfl (hts _ tk_ii_5) (hts _ lwl_99) (by decide +kernel) ⟨Nat.le_of_ble_eq_true rfl, Nat.le_of_ble_eq_true rfl⟩, hts _ lwi_99, hts _ lws_99⟩ ⟨fun a U g mk q => by obtain ⟨q0, qP, qK⟩ := q; exact ⟨q0, qP, va_K.moved (u := U) (U := U.calling g mk a) (Vm.Alike.refl U.vm) qK⟩, va_recv hK hP (ci := 5) (q0 := 28) rfl rfl, fun U hU hW => ⟨rfl, by rw [hU]; exact hP, va_K.moved hW.alike hK⟩⟩ rfl rfl hl.1 rfl (lv_room (Nat.le_of_ble_eq_true rfl)) dl_200 ⟨Nat.le_of_ble_eq_true rfl, Nat.le_of_ble_eq_true rfl⟩) hS (fun _ _ h => h) (fun _ h => h) (fun r u tr H locs ht hvm hr hB hz1 hk1 hS => ?_)
  obtain ⟨hP, hw⟩ := hB
  rw [ht] at hP
  refine lv_aload_n hx hb dl_203 rfl (lv_at hl 2 rfl) ?_
  refine lv_aload_n hx hb dl_204 rfl (lv_at hl 0 rfl) ?_
  refine lv_iload_n hx hb dl_205 rfl (lv_at hl 3 rfl) ?_
  refine lv_iconst (v := 1) hx hb dl_206 (by decide) ?_
  refine lv_iadd hx hb dl_207 ?_
  refine va_sld hx hb hX hbl hbA hS (show vp_in (x3 + 1) L from hv 1 (by decide)) dl_208 ?_
  refine lv_aload_n hx hb dl_209 rfl (lv_at hl 0 rfl) ?_
  refine lv_iload_n hx hb dl_210 rfl (lv_at hl 3 rfl) ?_
  refine lv_iconst (v := 2) hx hb dl_211 (by decide) ?_
  refine lv_iadd hx hb dl_212 ?_
  refine va_sld hx hb hX hbl hbA hS (show vp_in (x3 + 2) L from hv 2 (by decide)) dl_213 ?_
  refine lv_aload_n hx hb dl_214 rfl (lv_at hl 0 rfl) ?_
  refine lv_iload_n hx hb dl_215 rfl (lv_at hl 3 rfl) ?_
  refine lv_iconst (v := 3) hx hb dl_216 (by decide) ?_
  refine lv_iadd hx hb dl_217 ?_
  refine va_sld hx hb hX hbl hbA hS (show vp_in (x3 + 3) L from hv 3 (by decide)) dl_218 ?_
  refine lv_aload_n hx hb dl_219 rfl (lv_at hl 0 rfl) ?_
  refine lv_iload_n hx hb dl_220 rfl (lv_at hl 3 rfl) ?_
  refine lv_iconst (v := 4) hx hb dl_221 (by decide) ?_
  refine lv_iadd hx hb dl_222 ?_
  refine va_sld hx hb hX hbl hbA hS (show vp_in (x3 + 4) L from hv 4 (by decide)) dl_223 ?_
  have hM6 : Met l te_133.1 (Cond.code te_133.1 te_133.2.1 te_133.2.2.1 te_133.2.2.2.1 :: tk_TB) ({ frames := te_133.2.2.2.2.2.2.2.2.1, cells := 0, slots := 0, locals := te_133.2.2.2.2.2.2.2.2.2.1 }) (va_Pc (.ref (ad (6, 0, 0)) :: [.int (xs (x3 + 1).toNatClampNeg), .int (xs (x3 + 2).toNatClampNeg), .int (xs (x3 + 3).toNatClampNeg), .int (xs (x3 + 4).toNatClampNeg)]) (fun U => va_P D tk_cls (tk_wl ad cA u) U.heap ∧ va_K D tk_cls (tk_tyl cA) U)) (va_Qi (fun (ra : Int32) (u : tkW) => Fin cn (some (.inl r)) (some (.inl ra)) u) (fun u t => va_P D tk_cls (tk_wl ad cA u) t.heap ∧ tk_wok u) (fun q : Nat => s.heap.size ≤ q)) 0 0 (fun q : Nat => s.heap.size ≤ q) :=
    tk_contract (l := l) (E := te_133) lwm_133 (as := [.inr (.inr (6, 0, 0)), .inl (xs (x3 + 1).toNatClampNeg), .inl (xs (x3 + 2).toNatClampNeg), .inl (xs (x3 + 3).toNatClampNeg), .inl (xs (x3 + 4).toNatClampNeg)]) (w := u) (Q := fun ra u => Fin cn (some (.inl r)) (ra) u) (hr) (Nat.le_of_ble_eq_true rfl) (vok6 [xs (x3 + 1).toNatClampNeg, xs (x3 + 2).toNatClampNeg, xs (x3 + 3).toNatClampNeg, xs (x3 + 4).toNatClampNeg]) hw (D := D) (cA := cA) (ad := ad) (A := (fun q : Nat => s.heap.size ≤ q)) hij hA
  refine va_calli (va_runV (C := te_133.1.cls) (As := [.int (xs (x3 + 1).toNatClampNeg), .int (xs (x3 + 2).toNatClampNeg), .int (xs (x3 + 3).toNatClampNeg), .int (xs (x3 + 4).toNatClampNeg)]) (rest := [.int r]) (bytes := te_133.2.1) (maxL := te_133.2.2.1) (ret := te_133.2.2.2.1) (n := 4) ⟨hx, hb, hml, hown, hts⟩ hM6 ⟨callB_of _ hts (tk_good_in lwm_133) rfl rfl rfl (hts _ tk_ii_6) (hts _ lwl_133) (by decide +kernel) ⟨Nat.le_of_ble_eq_true rfl, Nat.le_of_ble_eq_true rfl⟩, hts _ lwi_133, hts _ lws_133⟩ ⟨fun a U g mk q => by obtain ⟨q0, qP, qK⟩ := q; exact ⟨q0, qP, va_K.moved (u := U) (U := U.calling g mk a) (Vm.Alike.refl U.vm) qK⟩, va_recv hK hP (ci := 6) (q0 := 29) rfl rfl, fun U hU hW => ⟨rfl, by rw [hU]; exact hP, va_K.moved hW.alike hK⟩⟩ rfl rfl hl.1 rfl (lv_room (Nat.le_of_ble_eq_true rfl)) dl_224 ⟨Nat.le_of_ble_eq_true rfl, Nat.le_of_ble_eq_true rfl⟩) hS (fun _ _ h => h) (fun _ h => h) (fun r2 u2 tr2 H locs ht hvm hr2 hB hz1 hk1 hS => ?_)
  obtain ⟨hP, hw⟩ := hB
  rw [ht] at hP
  obtain ⟨he, hI2⟩ := hr2
  have he : r2 = r := by cases he; rfl
  refine lv_icmp_eq (tgt := 830) hx hb dl_227 (by decide) (fun cc => ?_) (fun cc => ?_)
  · exact hN u2 _ _ ls hI2 hw hP hS hl
  · exact absurd he.symm cc
theorem lwm_100 : te_100 ∈ tk_all := List.mem_of_getElem? (i := 100) rfl
theorem lwl_100 : Cond.methodLink R_law 23 te_100.1 ∈ tk_TB := tkm 277 (by decide +kernel) rfl
theorem lwi_100 : Cond.instanceMethod te_100.1 ∈ tk_TB := tk_tb (tk_w1s (tk_w1 te_100) (List.mem_map.mpr ⟨te_100, lwm_100, rfl⟩)) rfl
theorem lws_100 : Cond.selects te_100.1.cls te_100.1 te_100.1 ∈ tk_TB := tk_tb (tk_w2s (tk_w2 te_100) (List.mem_map.mpr ⟨te_100, lwm_100, rfl⟩)) rfl
theorem lwm_135 : te_135 ∈ tk_all := List.mem_of_getElem? (i := 135) rfl
theorem lwl_135 : Cond.methodLink R_law 26 te_135.1 ∈ tk_TB := tkm 928 (by decide +kernel) rfl
theorem lwi_135 : Cond.instanceMethod te_135.1 ∈ tk_TB := tk_tb (tk_w1s (tk_w1 te_135) (List.mem_map.mpr ⟨te_135, lwm_135, rfl⟩)) rfl
theorem lws_135 : Cond.selects te_135.1.cls te_135.1 te_135.1 ∈ tk_TB := tk_tb (tk_w2s (tk_w2 te_135) (List.mem_map.mpr ⟨te_135, lwm_135, rfl⟩)) rfl
set_option maxHeartbeats 4000000 in
set_option maxRecDepth 100000 in
theorem lc_gift {p : Program} {l : Launch} {e : Env} {s : State} {m : MethodId} {below : List Frame} {meth : Method} {c : Code} {D : va_G} {cA : Nat → ClassId} {ad : tkAd} {b L : Nat} {xs : Nat → Int32} (C0 : lw_At p s m meth c b L xs) (hK : va_K D tk_cls (tk_tyl cA) s) (hij : ∀ t ∈ tk_ix, ∀ t' ∈ tk_ix, ad t = ad t' → t = t') (hA : ∀ t ∈ tk_ix, (fun q : Nat => s.heap.size ≤ q) (ad t)) {cn : Nat} (hcn : cn ≤ 600) {x3 : Int32} (hv : ∀ k, k < 6 → vp_in (x3 + nI k) L) {w : tkW} (hI : LawI cn w) (hw : tk_wok w) {H : Heap} {locs : List Loc} (hP : va_P D tk_cls (tk_wl ad cA w) H) (hS : va_S (fun q : Nat => s.heap.size ≤ q) s.heap H locs) {ls : Array Slot} (hl : lv_has ls 4 [(0, .ref b), (1, .ref (ad (5, 0, 0))), (2, .ref (ad (6, 0, 0))), (3, .int x3)]) (hN : ∀ (u : tkW) (H : Heap) (locs : List Loc) (ls : Array Slot), LawI (cn + 1) u → tk_wok u → va_P D tk_cls (tk_wl ad cA u) H → va_S (fun q : Nat => s.heap.size ≤ q) s.heap H locs → lv_has ls 4 [(0, .ref b), (1, .ref (ad (5, 0, 0))), (2, .ref (ad (6, 0, 0))), (3, .int x3)] → W p l e room_1 s m #[Value.ref b] below meth c H locs 47 5982 (lw_Z below #[Value.ref b] s) (F0 m 830 ls [])) : W p l e room_1 s m #[Value.ref b] below meth c H locs 47 5982 (lw_Z below #[Value.ref b] s) (F0 m 232 ls []) := by
  obtain ⟨hx, hb, hr, hml, hown, hts0, hX, hbl, hlocks, hgv⟩ := C0
  have hts : ∀ w ∈ tk_TB, w.before #[Value.ref b] s = true := fun w hw => hts0 w (List.mem_filter.mp hw).1
  have hbA : ¬ (fun q : Nat => s.heap.size ≤ q) b := Nat.not_le.mpr hbl
  obtain ⟨S, z, B, on, T, t, hA1, hC1, hM1⟩ := hI
  obtain ⟨I, J, R⟩ := w
  refine lv_aload_n hx hb dl_232 rfl (lv_at hl 1 rfl) ?_
  refine lv_aload_n hx hb dl_233 rfl (lv_at hl 0 rfl) ?_
  refine lv_iload_n hx hb dl_234 rfl (lv_at hl 3 rfl) ?_
  refine lv_iconst (v := 1) hx hb dl_235 (by decide) ?_
  refine lv_iadd hx hb dl_236 ?_
  refine va_sld hx hb hX hbl hbA hS (show vp_in (x3 + 1) L from hv 1 (by decide)) dl_237 ?_
  refine lv_aload_n hx hb dl_238 rfl (lv_at hl 0 rfl) ?_
  refine lv_iload_n hx hb dl_239 rfl (lv_at hl 3 rfl) ?_
  refine lv_iconst (v := 2) hx hb dl_240 (by decide) ?_
  refine lv_iadd hx hb dl_241 ?_
  refine va_sld hx hb hX hbl hbA hS (show vp_in (x3 + 2) L from hv 2 (by decide)) dl_242 ?_
  refine lv_aload_n hx hb dl_243 rfl (lv_at hl 0 rfl) ?_
  refine lv_iload_n hx hb dl_244 rfl (lv_at hl 3 rfl) ?_
  refine lv_iconst (v := 3) hx hb dl_245 (by decide) ?_
  refine lv_iadd hx hb dl_246 ?_
  refine va_sld hx hb hX hbl hbA hS (show vp_in (x3 + 3) L from hv 3 (by decide)) dl_247 ?_
  refine lv_aload_n hx hb dl_248 rfl (lv_at hl 0 rfl) ?_
  refine lv_iload_n hx hb dl_249 rfl (lv_at hl 3 rfl) ?_
  refine lv_iconst (v := 4) hx hb dl_250 (by decide) ?_
  refine lv_iadd hx hb dl_251 ?_
  refine va_sld hx hb hX hbl hbA hS (show vp_in (x3 + 4) L from hv 4 (by decide)) dl_252 ?_
  have hM5 : Met l te_100.1 (Cond.code te_100.1 te_100.2.1 te_100.2.2.1 te_100.2.2.2.1 :: tk_TB) ({ frames := te_100.2.2.2.2.2.2.2.2.1, cells := 0, slots := 0, locals := te_100.2.2.2.2.2.2.2.2.2.1 }) (va_Pc (.ref (ad (5, 0, 0)) :: [.int (xs (x3 + 1).toNatClampNeg), .int (xs (x3 + 2).toNatClampNeg), .int (xs (x3 + 3).toNatClampNeg), .int (xs (x3 + 4).toNatClampNeg)]) (fun U => va_P D tk_cls (tk_wl ad cA (I, J, R)) U.heap ∧ va_K D tk_cls (tk_tyl cA) U)) (va_Qi (fun (ra : Int32) (u : tkW) => tkDn tm_135 (0, [some (.inr (.inr (6, 0, 0))), some (.inl (xs (x3 + 1).toNatClampNeg)), some (.inl (xs (x3 + 2).toNatClampNeg)), some (.inl (xs (x3 + 3).toNatClampNeg)), some (.inl (xs (x3 + 4).toNatClampNeg))], [], u) (Fin cn (some (.inl ra)))) (fun u t => va_P D tk_cls (tk_wl ad cA u) t.heap ∧ tk_wok u) (fun q : Nat => s.heap.size ≤ q)) 0 0 (fun q : Nat => s.heap.size ≤ q) :=
    tk_contract (l := l) (E := te_100) lwm_100 (as := [.inr (.inr (5, 0, 0)), .inl (xs (x3 + 1).toNatClampNeg), .inl (xs (x3 + 2).toNatClampNeg), .inl (xs (x3 + 3).toNatClampNeg), .inl (xs (x3 + 4).toNatClampNeg)]) (w := (I, J, R)) (Q := fun ra u => tkDn tm_135 (0, [some (.inr (.inr (6, 0, 0))), some (.inl (xs (x3 + 1).toNatClampNeg)), some (.inl (xs (x3 + 2).toNatClampNeg)), some (.inl (xs (x3 + 3).toNatClampNeg)), some (.inl (xs (x3 + 4).toNatClampNeg))], [], u) (Fin cn (ra))) (pr_gift hA1 hC1 hM1) (Nat.le_of_ble_eq_true rfl) (vok5 [xs (x3 + 1).toNatClampNeg, xs (x3 + 2).toNatClampNeg, xs (x3 + 3).toNatClampNeg, xs (x3 + 4).toNatClampNeg]) hw (D := D) (cA := cA) (ad := ad) (A := (fun q : Nat => s.heap.size ≤ q)) hij hA
  refine va_calli (va_runV (C := te_100.1.cls) (As := [.int (xs (x3 + 1).toNatClampNeg), .int (xs (x3 + 2).toNatClampNeg), .int (xs (x3 + 3).toNatClampNeg), .int (xs (x3 + 4).toNatClampNeg)]) (rest := []) (bytes := te_100.2.1) (maxL := te_100.2.2.1) (ret := te_100.2.2.2.1) (n := 4) ⟨hx, hb, hml, hown, hts⟩ hM5 ⟨callB_of _ hts (tk_good_in lwm_100) rfl rfl rfl (hts _ tk_ii_5) (hts _ lwl_100) (by decide +kernel) ⟨Nat.le_of_ble_eq_true rfl, Nat.le_of_ble_eq_true rfl⟩, hts _ lwi_100, hts _ lws_100⟩ ⟨fun a U g mk q => by obtain ⟨q0, qP, qK⟩ := q; exact ⟨q0, qP, va_K.moved (u := U) (U := U.calling g mk a) (Vm.Alike.refl U.vm) qK⟩, va_recv hK hP (ci := 5) (q0 := 28) rfl rfl, fun U hU hW => ⟨rfl, by rw [hU]; exact hP, va_K.moved hW.alike hK⟩⟩ rfl rfl hl.1 rfl (lv_room (Nat.le_of_ble_eq_true rfl)) dl_253 ⟨Nat.le_of_ble_eq_true rfl, Nat.le_of_ble_eq_true rfl⟩) hS (fun _ _ h => h) (fun _ h => h) (fun r u tr H locs ht hvm hr hB hz1 hk1 hS => ?_)
  obtain ⟨hP, hw⟩ := hB
  rw [ht] at hP
  refine lv_aload_n hx hb dl_256 rfl (lv_at hl 2 rfl) ?_
  refine lv_aload_n hx hb dl_257 rfl (lv_at hl 0 rfl) ?_
  refine lv_iload_n hx hb dl_258 rfl (lv_at hl 3 rfl) ?_
  refine lv_iconst (v := 1) hx hb dl_259 (by decide) ?_
  refine lv_iadd hx hb dl_260 ?_
  refine va_sld hx hb hX hbl hbA hS (show vp_in (x3 + 1) L from hv 1 (by decide)) dl_261 ?_
  refine lv_aload_n hx hb dl_262 rfl (lv_at hl 0 rfl) ?_
  refine lv_iload_n hx hb dl_263 rfl (lv_at hl 3 rfl) ?_
  refine lv_iconst (v := 2) hx hb dl_264 (by decide) ?_
  refine lv_iadd hx hb dl_265 ?_
  refine va_sld hx hb hX hbl hbA hS (show vp_in (x3 + 2) L from hv 2 (by decide)) dl_266 ?_
  refine lv_aload_n hx hb dl_267 rfl (lv_at hl 0 rfl) ?_
  refine lv_iload_n hx hb dl_268 rfl (lv_at hl 3 rfl) ?_
  refine lv_iconst (v := 3) hx hb dl_269 (by decide) ?_
  refine lv_iadd hx hb dl_270 ?_
  refine va_sld hx hb hX hbl hbA hS (show vp_in (x3 + 3) L from hv 3 (by decide)) dl_271 ?_
  refine lv_aload_n hx hb dl_272 rfl (lv_at hl 0 rfl) ?_
  refine lv_iload_n hx hb dl_273 rfl (lv_at hl 3 rfl) ?_
  refine lv_iconst (v := 4) hx hb dl_274 (by decide) ?_
  refine lv_iadd hx hb dl_275 ?_
  refine va_sld hx hb hX hbl hbA hS (show vp_in (x3 + 4) L from hv 4 (by decide)) dl_276 ?_
  have hM6 : Met l te_135.1 (Cond.code te_135.1 te_135.2.1 te_135.2.2.1 te_135.2.2.2.1 :: tk_TB) ({ frames := te_135.2.2.2.2.2.2.2.2.1, cells := 0, slots := 0, locals := te_135.2.2.2.2.2.2.2.2.2.1 }) (va_Pc (.ref (ad (6, 0, 0)) :: [.int (xs (x3 + 1).toNatClampNeg), .int (xs (x3 + 2).toNatClampNeg), .int (xs (x3 + 3).toNatClampNeg), .int (xs (x3 + 4).toNatClampNeg)]) (fun U => va_P D tk_cls (tk_wl ad cA u) U.heap ∧ va_K D tk_cls (tk_tyl cA) U)) (va_Qi (fun (ra : Int32) (u : tkW) => Fin cn (some (.inl r)) (some (.inl ra)) u) (fun u t => va_P D tk_cls (tk_wl ad cA u) t.heap ∧ tk_wok u) (fun q : Nat => s.heap.size ≤ q)) 0 0 (fun q : Nat => s.heap.size ≤ q) :=
    tk_contract (l := l) (E := te_135) lwm_135 (as := [.inr (.inr (6, 0, 0)), .inl (xs (x3 + 1).toNatClampNeg), .inl (xs (x3 + 2).toNatClampNeg), .inl (xs (x3 + 3).toNatClampNeg), .inl (xs (x3 + 4).toNatClampNeg)]) (w := u) (Q := fun ra u => Fin cn (some (.inl r)) (ra) u) (hr) (Nat.le_of_ble_eq_true rfl) (vok6 [xs (x3 + 1).toNatClampNeg, xs (x3 + 2).toNatClampNeg, xs (x3 + 3).toNatClampNeg, xs (x3 + 4).toNatClampNeg]) hw (D := D) (cA := cA) (ad := ad) (A := (fun q : Nat => s.heap.size ≤ q)) hij hA
  refine va_calli (va_runV (C := te_135.1.cls) (As := [.int (xs (x3 + 1).toNatClampNeg), .int (xs (x3 + 2).toNatClampNeg), .int (xs (x3 + 3).toNatClampNeg), .int (xs (x3 + 4).toNatClampNeg)]) (rest := [.int r]) (bytes := te_135.2.1) (maxL := te_135.2.2.1) (ret := te_135.2.2.2.1) (n := 4) ⟨hx, hb, hml, hown, hts⟩ hM6 ⟨callB_of _ hts (tk_good_in lwm_135) rfl rfl rfl (hts _ tk_ii_6) (hts _ lwl_135) (by decide +kernel) ⟨Nat.le_of_ble_eq_true rfl, Nat.le_of_ble_eq_true rfl⟩, hts _ lwi_135, hts _ lws_135⟩ ⟨fun a U g mk q => by obtain ⟨q0, qP, qK⟩ := q; exact ⟨q0, qP, va_K.moved (u := U) (U := U.calling g mk a) (Vm.Alike.refl U.vm) qK⟩, va_recv hK hP (ci := 6) (q0 := 29) rfl rfl, fun U hU hW => ⟨rfl, by rw [hU]; exact hP, va_K.moved hW.alike hK⟩⟩ rfl rfl hl.1 rfl (lv_room (Nat.le_of_ble_eq_true rfl)) dl_277 ⟨Nat.le_of_ble_eq_true rfl, Nat.le_of_ble_eq_true rfl⟩) hS (fun _ _ h => h) (fun _ h => h) (fun r2 u2 tr2 H locs ht hvm hr2 hB hz1 hk1 hS => ?_)
  obtain ⟨hP, hw⟩ := hB
  rw [ht] at hP
  obtain ⟨he, hI2⟩ := hr2
  have he : r2 = r := by cases he; rfl
  refine lv_icmp_eq (tgt := 830) hx hb dl_280 (by decide) (fun cc => ?_) (fun cc => ?_)
  · exact hN u2 _ _ ls hI2 hw hP hS hl
  · exact absurd he.symm cc
theorem lwm_101 : te_101 ∈ tk_all := List.mem_of_getElem? (i := 101) rfl
theorem lwl_101 : Cond.methodLink R_law 27 te_101.1 ∈ tk_TB := tkm 301 (by decide +kernel) rfl
theorem lwi_101 : Cond.instanceMethod te_101.1 ∈ tk_TB := tk_tb (tk_w1s (tk_w1 te_101) (List.mem_map.mpr ⟨te_101, lwm_101, rfl⟩)) rfl
theorem lws_101 : Cond.selects te_101.1.cls te_101.1 te_101.1 ∈ tk_TB := tk_tb (tk_w2s (tk_w2 te_101) (List.mem_map.mpr ⟨te_101, lwm_101, rfl⟩)) rfl
theorem lwm_136 : te_136 ∈ tk_all := List.mem_of_getElem? (i := 136) rfl
theorem lwl_136 : Cond.methodLink R_law 31 te_136.1 ∈ tk_TB := tkm 940 (by decide +kernel) rfl
theorem lwi_136 : Cond.instanceMethod te_136.1 ∈ tk_TB := tk_tb (tk_w1s (tk_w1 te_136) (List.mem_map.mpr ⟨te_136, lwm_136, rfl⟩)) rfl
theorem lws_136 : Cond.selects te_136.1.cls te_136.1 te_136.1 ∈ tk_TB := tk_tb (tk_w2s (tk_w2 te_136) (List.mem_map.mpr ⟨te_136, lwm_136, rfl⟩)) rfl
set_option maxHeartbeats 4000000 in
set_option maxRecDepth 100000 in
theorem lc_undo {p : Program} {l : Launch} {e : Env} {s : State} {m : MethodId} {below : List Frame} {meth : Method} {c : Code} {D : va_G} {cA : Nat → ClassId} {ad : tkAd} {b L : Nat} {xs : Nat → Int32} (C0 : lw_At p s m meth c b L xs) (hK : va_K D tk_cls (tk_tyl cA) s) (hij : ∀ t ∈ tk_ix, ∀ t' ∈ tk_ix, ad t = ad t' → t = t') (hA : ∀ t ∈ tk_ix, (fun q : Nat => s.heap.size ≤ q) (ad t)) {cn : Nat} (hcn : cn ≤ 600) {x3 : Int32} (hv : ∀ k, k < 6 → vp_in (x3 + nI k) L) {w : tkW} (hI : LawI cn w) (hw : tk_wok w) {H : Heap} {locs : List Loc} (hP : va_P D tk_cls (tk_wl ad cA w) H) (hS : va_S (fun q : Nat => s.heap.size ≤ q) s.heap H locs) {ls : Array Slot} (hl : lv_has ls 4 [(0, .ref b), (1, .ref (ad (5, 0, 0))), (2, .ref (ad (6, 0, 0))), (3, .int x3)]) (hN : ∀ (u : tkW) (H : Heap) (locs : List Loc) (ls : Array Slot), LawI (cn + 1) u → tk_wok u → va_P D tk_cls (tk_wl ad cA u) H → va_S (fun q : Nat => s.heap.size ≤ q) s.heap H locs → lv_has ls 4 [(0, .ref b), (1, .ref (ad (5, 0, 0))), (2, .ref (ad (6, 0, 0))), (3, .int x3)] → W p l e room_1 s m #[Value.ref b] below meth c H locs 47 5982 (lw_Z below #[Value.ref b] s) (F0 m 830 ls [])) : W p l e room_1 s m #[Value.ref b] below meth c H locs 47 5982 (lw_Z below #[Value.ref b] s) (F0 m 285 ls []) := by
  obtain ⟨hx, hb, hr, hml, hown, hts0, hX, hbl, hlocks, hgv⟩ := C0
  have hts : ∀ w ∈ tk_TB, w.before #[Value.ref b] s = true := fun w hw => hts0 w (List.mem_filter.mp hw).1
  have hbA : ¬ (fun q : Nat => s.heap.size ≤ q) b := Nat.not_le.mpr hbl
  obtain ⟨S, z, B, on, T, t, hA1, hC1, hM1⟩ := hI
  obtain ⟨I, J, R⟩ := w
  refine lv_aload_n hx hb dl_285 rfl (lv_at hl 1 rfl) ?_
  have hM5 : Met l te_101.1 (Cond.code te_101.1 te_101.2.1 te_101.2.2.1 te_101.2.2.2.1 :: tk_TB) ({ frames := te_101.2.2.2.2.2.2.2.2.1, cells := 0, slots := 0, locals := te_101.2.2.2.2.2.2.2.2.2.1 }) (va_Pc (.ref (ad (5, 0, 0)) :: []) (fun U => va_P D tk_cls (tk_wl ad cA (I, J, R)) U.heap ∧ va_K D tk_cls (tk_tyl cA) U)) (va_Qi (fun (ra : Int32) (u : tkW) => tkDn tm_136 (0, [some (.inr (.inr (6, 0, 0)))], [], u) (Fin cn (some (.inl ra)))) (fun u t => va_P D tk_cls (tk_wl ad cA u) t.heap ∧ tk_wok u) (fun q : Nat => s.heap.size ≤ q)) 0 0 (fun q : Nat => s.heap.size ≤ q) :=
    tk_contract (l := l) (E := te_101) lwm_101 (as := [.inr (.inr (5, 0, 0))]) (w := (I, J, R)) (Q := fun ra u => tkDn tm_136 (0, [some (.inr (.inr (6, 0, 0)))], [], u) (Fin cn (ra))) (pr_undo hA1 hC1 hM1) (Nat.le_of_ble_eq_true rfl) (vok5 []) hw (D := D) (cA := cA) (ad := ad) (A := (fun q : Nat => s.heap.size ≤ q)) hij hA
  refine va_calli (va_runV (C := te_101.1.cls) (As := []) (rest := []) (bytes := te_101.2.1) (maxL := te_101.2.2.1) (ret := te_101.2.2.2.1) (n := 0) ⟨hx, hb, hml, hown, hts⟩ hM5 ⟨callB_of _ hts (tk_good_in lwm_101) rfl rfl rfl (hts _ tk_ii_5) (hts _ lwl_101) (by decide +kernel) ⟨Nat.le_of_ble_eq_true rfl, Nat.le_of_ble_eq_true rfl⟩, hts _ lwi_101, hts _ lws_101⟩ ⟨fun a U g mk q => by obtain ⟨q0, qP, qK⟩ := q; exact ⟨q0, qP, va_K.moved (u := U) (U := U.calling g mk a) (Vm.Alike.refl U.vm) qK⟩, va_recv hK hP (ci := 5) (q0 := 28) rfl rfl, fun U hU hW => ⟨rfl, by rw [hU]; exact hP, va_K.moved hW.alike hK⟩⟩ rfl rfl hl.1 rfl (lv_room (Nat.le_of_ble_eq_true rfl)) dl_286 ⟨Nat.le_of_ble_eq_true rfl, Nat.le_of_ble_eq_true rfl⟩) hS (fun _ _ h => h) (fun _ h => h) (fun r u tr H locs ht hvm hr hB hz1 hk1 hS => ?_)
  obtain ⟨hP, hw⟩ := hB
  rw [ht] at hP
  refine lv_aload_n hx hb dl_289 rfl (lv_at hl 2 rfl) ?_
  have hM6 : Met l te_136.1 (Cond.code te_136.1 te_136.2.1 te_136.2.2.1 te_136.2.2.2.1 :: tk_TB) ({ frames := te_136.2.2.2.2.2.2.2.2.1, cells := 0, slots := 0, locals := te_136.2.2.2.2.2.2.2.2.2.1 }) (va_Pc (.ref (ad (6, 0, 0)) :: []) (fun U => va_P D tk_cls (tk_wl ad cA u) U.heap ∧ va_K D tk_cls (tk_tyl cA) U)) (va_Qi (fun (ra : Int32) (u : tkW) => Fin cn (some (.inl r)) (some (.inl ra)) u) (fun u t => va_P D tk_cls (tk_wl ad cA u) t.heap ∧ tk_wok u) (fun q : Nat => s.heap.size ≤ q)) 0 0 (fun q : Nat => s.heap.size ≤ q) :=
    tk_contract (l := l) (E := te_136) lwm_136 (as := [.inr (.inr (6, 0, 0))]) (w := u) (Q := fun ra u => Fin cn (some (.inl r)) (ra) u) (hr) (Nat.le_of_ble_eq_true rfl) (vok6 []) hw (D := D) (cA := cA) (ad := ad) (A := (fun q : Nat => s.heap.size ≤ q)) hij hA
  refine va_calli (va_runV (C := te_136.1.cls) (As := []) (rest := [.int r]) (bytes := te_136.2.1) (maxL := te_136.2.2.1) (ret := te_136.2.2.2.1) (n := 0) ⟨hx, hb, hml, hown, hts⟩ hM6 ⟨callB_of _ hts (tk_good_in lwm_136) rfl rfl rfl (hts _ tk_ii_6) (hts _ lwl_136) (by decide +kernel) ⟨Nat.le_of_ble_eq_true rfl, Nat.le_of_ble_eq_true rfl⟩, hts _ lwi_136, hts _ lws_136⟩ ⟨fun a U g mk q => by obtain ⟨q0, qP, qK⟩ := q; exact ⟨q0, qP, va_K.moved (u := U) (U := U.calling g mk a) (Vm.Alike.refl U.vm) qK⟩, va_recv hK hP (ci := 6) (q0 := 29) rfl rfl, fun U hU hW => ⟨rfl, by rw [hU]; exact hP, va_K.moved hW.alike hK⟩⟩ rfl rfl hl.1 rfl (lv_room (Nat.le_of_ble_eq_true rfl)) dl_290 ⟨Nat.le_of_ble_eq_true rfl, Nat.le_of_ble_eq_true rfl⟩) hS (fun _ _ h => h) (fun _ h => h) (fun r2 u2 tr2 H locs ht hvm hr2 hB hz1 hk1 hS => ?_)
  obtain ⟨hP, hw⟩ := hB
  rw [ht] at hP
  obtain ⟨he, hI2⟩ := hr2
  have he : r2 = r := by cases he; rfl
  refine lv_icmp_eq (tgt := 830) hx hb dl_293 (by decide) (fun cc => ?_) (fun cc => ?_)
  · exact hN u2 _ _ ls hI2 hw hP hS hl
  · exact absurd he.symm cc
theorem lwm_102 : te_102 ∈ tk_all := List.mem_of_getElem? (i := 102) rfl
theorem lwl_102 : Cond.methodLink R_law 32 te_102.1 ∈ tk_TB := tkm 313 (by decide +kernel) rfl
theorem lwi_102 : Cond.instanceMethod te_102.1 ∈ tk_TB := tk_tb (tk_w1s (tk_w1 te_102) (List.mem_map.mpr ⟨te_102, lwm_102, rfl⟩)) rfl
theorem lws_102 : Cond.selects te_102.1.cls te_102.1 te_102.1 ∈ tk_TB := tk_tb (tk_w2s (tk_w2 te_102) (List.mem_map.mpr ⟨te_102, lwm_102, rfl⟩)) rfl
theorem lwm_137 : te_137 ∈ tk_all := List.mem_of_getElem? (i := 137) rfl
theorem lwl_137 : Cond.methodLink R_law 36 te_137.1 ∈ tk_TB := tkm 944 (by decide +kernel) rfl
theorem lwi_137 : Cond.instanceMethod te_137.1 ∈ tk_TB := tk_tb (tk_w1s (tk_w1 te_137) (List.mem_map.mpr ⟨te_137, lwm_137, rfl⟩)) rfl
theorem lws_137 : Cond.selects te_137.1.cls te_137.1 te_137.1 ∈ tk_TB := tk_tb (tk_w2s (tk_w2 te_137) (List.mem_map.mpr ⟨te_137, lwm_137, rfl⟩)) rfl
set_option maxHeartbeats 4000000 in
set_option maxRecDepth 100000 in
theorem lc_tighten {p : Program} {l : Launch} {e : Env} {s : State} {m : MethodId} {below : List Frame} {meth : Method} {c : Code} {D : va_G} {cA : Nat → ClassId} {ad : tkAd} {b L : Nat} {xs : Nat → Int32} (C0 : lw_At p s m meth c b L xs) (hK : va_K D tk_cls (tk_tyl cA) s) (hij : ∀ t ∈ tk_ix, ∀ t' ∈ tk_ix, ad t = ad t' → t = t') (hA : ∀ t ∈ tk_ix, (fun q : Nat => s.heap.size ≤ q) (ad t)) {cn : Nat} (hcn : cn ≤ 600) {x3 : Int32} (hv : ∀ k, k < 6 → vp_in (x3 + nI k) L) {w : tkW} (hI : LawI cn w) (hw : tk_wok w) {H : Heap} {locs : List Loc} (hP : va_P D tk_cls (tk_wl ad cA w) H) (hS : va_S (fun q : Nat => s.heap.size ≤ q) s.heap H locs) {ls : Array Slot} (hl : lv_has ls 4 [(0, .ref b), (1, .ref (ad (5, 0, 0))), (2, .ref (ad (6, 0, 0))), (3, .int x3)]) (hN : ∀ (u : tkW) (H : Heap) (locs : List Loc) (ls : Array Slot), LawI (cn + 1) u → tk_wok u → va_P D tk_cls (tk_wl ad cA u) H → va_S (fun q : Nat => s.heap.size ≤ q) s.heap H locs → lv_has ls 4 [(0, .ref b), (1, .ref (ad (5, 0, 0))), (2, .ref (ad (6, 0, 0))), (3, .int x3)] → W p l e room_1 s m #[Value.ref b] below meth c H locs 47 5982 (lw_Z below #[Value.ref b] s) (F0 m 830 ls [])) : W p l e room_1 s m #[Value.ref b] below meth c H locs 47 5982 (lw_Z below #[Value.ref b] s) (F0 m 298 ls []) := by
  obtain ⟨hx, hb, hr, hml, hown, hts0, hX, hbl, hlocks, hgv⟩ := C0
  have hts : ∀ w ∈ tk_TB, w.before #[Value.ref b] s = true := fun w hw => hts0 w (List.mem_filter.mp hw).1
  have hbA : ¬ (fun q : Nat => s.heap.size ≤ q) b := Nat.not_le.mpr hbl
  obtain ⟨S, z, B, on, T, t, hA1, hC1, hM1⟩ := hI
  obtain ⟨I, J, R⟩ := w
  refine lv_aload_n hx hb dl_298 rfl (lv_at hl 1 rfl) ?_
  refine lv_aload_n hx hb dl_299 rfl (lv_at hl 0 rfl) ?_
  refine lv_iload_n hx hb dl_300 rfl (lv_at hl 3 rfl) ?_
  refine lv_iconst (v := 1) hx hb dl_301 (by decide) ?_
  refine lv_iadd hx hb dl_302 ?_
  refine va_sld hx hb hX hbl hbA hS (show vp_in (x3 + 1) L from hv 1 (by decide)) dl_303 ?_
  refine lv_aload_n hx hb dl_304 rfl (lv_at hl 0 rfl) ?_
  refine lv_iload_n hx hb dl_305 rfl (lv_at hl 3 rfl) ?_
  refine lv_iconst (v := 2) hx hb dl_306 (by decide) ?_
  refine lv_iadd hx hb dl_307 ?_
  refine va_sld hx hb hX hbl hbA hS (show vp_in (x3 + 2) L from hv 2 (by decide)) dl_308 ?_
  refine lv_aload_n hx hb dl_309 rfl (lv_at hl 0 rfl) ?_
  refine lv_iload_n hx hb dl_310 rfl (lv_at hl 3 rfl) ?_
  refine lv_iconst (v := 3) hx hb dl_311 (by decide) ?_
  refine lv_iadd hx hb dl_312 ?_
  refine va_sld hx hb hX hbl hbA hS (show vp_in (x3 + 3) L from hv 3 (by decide)) dl_313 ?_
  have hM5 : Met l te_102.1 (Cond.code te_102.1 te_102.2.1 te_102.2.2.1 te_102.2.2.2.1 :: tk_TB) ({ frames := te_102.2.2.2.2.2.2.2.2.1, cells := 0, slots := 0, locals := te_102.2.2.2.2.2.2.2.2.2.1 }) (va_Pc (.ref (ad (5, 0, 0)) :: [.int (xs (x3 + 1).toNatClampNeg), .int (xs (x3 + 2).toNatClampNeg), .int (xs (x3 + 3).toNatClampNeg)]) (fun U => va_P D tk_cls (tk_wl ad cA (I, J, R)) U.heap ∧ va_K D tk_cls (tk_tyl cA) U)) (va_Qi (fun (ra : Int32) (u : tkW) => tkDn tm_137 (0, [some (.inr (.inr (6, 0, 0))), some (.inl (xs (x3 + 1).toNatClampNeg)), some (.inl (xs (x3 + 2).toNatClampNeg)), some (.inl (xs (x3 + 3).toNatClampNeg))], [], u) (Fin cn (some (.inl ra)))) (fun u t => va_P D tk_cls (tk_wl ad cA u) t.heap ∧ tk_wok u) (fun q : Nat => s.heap.size ≤ q)) 0 0 (fun q : Nat => s.heap.size ≤ q) :=
    tk_contract (l := l) (E := te_102) lwm_102 (as := [.inr (.inr (5, 0, 0)), .inl (xs (x3 + 1).toNatClampNeg), .inl (xs (x3 + 2).toNatClampNeg), .inl (xs (x3 + 3).toNatClampNeg)]) (w := (I, J, R)) (Q := fun ra u => tkDn tm_137 (0, [some (.inr (.inr (6, 0, 0))), some (.inl (xs (x3 + 1).toNatClampNeg)), some (.inl (xs (x3 + 2).toNatClampNeg)), some (.inl (xs (x3 + 3).toNatClampNeg))], [], u) (Fin cn (ra))) (pr_tighten hA1 hC1 hM1) (Nat.le_of_ble_eq_true rfl) (vok5 [xs (x3 + 1).toNatClampNeg, xs (x3 + 2).toNatClampNeg, xs (x3 + 3).toNatClampNeg]) hw (D := D) (cA := cA) (ad := ad) (A := (fun q : Nat => s.heap.size ≤ q)) hij hA
  refine va_calli (va_runV (C := te_102.1.cls) (As := [.int (xs (x3 + 1).toNatClampNeg), .int (xs (x3 + 2).toNatClampNeg), .int (xs (x3 + 3).toNatClampNeg)]) (rest := []) (bytes := te_102.2.1) (maxL := te_102.2.2.1) (ret := te_102.2.2.2.1) (n := 3) ⟨hx, hb, hml, hown, hts⟩ hM5 ⟨callB_of _ hts (tk_good_in lwm_102) rfl rfl rfl (hts _ tk_ii_5) (hts _ lwl_102) (by decide +kernel) ⟨Nat.le_of_ble_eq_true rfl, Nat.le_of_ble_eq_true rfl⟩, hts _ lwi_102, hts _ lws_102⟩ ⟨fun a U g mk q => by obtain ⟨q0, qP, qK⟩ := q; exact ⟨q0, qP, va_K.moved (u := U) (U := U.calling g mk a) (Vm.Alike.refl U.vm) qK⟩, va_recv hK hP (ci := 5) (q0 := 28) rfl rfl, fun U hU hW => ⟨rfl, by rw [hU]; exact hP, va_K.moved hW.alike hK⟩⟩ rfl rfl hl.1 rfl (lv_room (Nat.le_of_ble_eq_true rfl)) dl_314 ⟨Nat.le_of_ble_eq_true rfl, Nat.le_of_ble_eq_true rfl⟩) hS (fun _ _ h => h) (fun _ h => h) (fun r u tr H locs ht hvm hr hB hz1 hk1 hS => ?_)
  obtain ⟨hP, hw⟩ := hB
  rw [ht] at hP
  refine lv_aload_n hx hb dl_317 rfl (lv_at hl 2 rfl) ?_
  refine lv_aload_n hx hb dl_318 rfl (lv_at hl 0 rfl) ?_
  refine lv_iload_n hx hb dl_319 rfl (lv_at hl 3 rfl) ?_
  refine lv_iconst (v := 1) hx hb dl_320 (by decide) ?_
  refine lv_iadd hx hb dl_321 ?_
  refine va_sld hx hb hX hbl hbA hS (show vp_in (x3 + 1) L from hv 1 (by decide)) dl_322 ?_
  refine lv_aload_n hx hb dl_323 rfl (lv_at hl 0 rfl) ?_
  refine lv_iload_n hx hb dl_324 rfl (lv_at hl 3 rfl) ?_
  refine lv_iconst (v := 2) hx hb dl_325 (by decide) ?_
  refine lv_iadd hx hb dl_326 ?_
  refine va_sld hx hb hX hbl hbA hS (show vp_in (x3 + 2) L from hv 2 (by decide)) dl_327 ?_
  refine lv_aload_n hx hb dl_328 rfl (lv_at hl 0 rfl) ?_
  refine lv_iload_n hx hb dl_329 rfl (lv_at hl 3 rfl) ?_
  refine lv_iconst (v := 3) hx hb dl_330 (by decide) ?_
  refine lv_iadd hx hb dl_331 ?_
  refine va_sld hx hb hX hbl hbA hS (show vp_in (x3 + 3) L from hv 3 (by decide)) dl_332 ?_
  have hM6 : Met l te_137.1 (Cond.code te_137.1 te_137.2.1 te_137.2.2.1 te_137.2.2.2.1 :: tk_TB) ({ frames := te_137.2.2.2.2.2.2.2.2.1, cells := 0, slots := 0, locals := te_137.2.2.2.2.2.2.2.2.2.1 }) (va_Pc (.ref (ad (6, 0, 0)) :: [.int (xs (x3 + 1).toNatClampNeg), .int (xs (x3 + 2).toNatClampNeg), .int (xs (x3 + 3).toNatClampNeg)]) (fun U => va_P D tk_cls (tk_wl ad cA u) U.heap ∧ va_K D tk_cls (tk_tyl cA) U)) (va_Qi (fun (ra : Int32) (u : tkW) => Fin cn (some (.inl r)) (some (.inl ra)) u) (fun u t => va_P D tk_cls (tk_wl ad cA u) t.heap ∧ tk_wok u) (fun q : Nat => s.heap.size ≤ q)) 0 0 (fun q : Nat => s.heap.size ≤ q) :=
    tk_contract (l := l) (E := te_137) lwm_137 (as := [.inr (.inr (6, 0, 0)), .inl (xs (x3 + 1).toNatClampNeg), .inl (xs (x3 + 2).toNatClampNeg), .inl (xs (x3 + 3).toNatClampNeg)]) (w := u) (Q := fun ra u => Fin cn (some (.inl r)) (ra) u) (hr) (Nat.le_of_ble_eq_true rfl) (vok6 [xs (x3 + 1).toNatClampNeg, xs (x3 + 2).toNatClampNeg, xs (x3 + 3).toNatClampNeg]) hw (D := D) (cA := cA) (ad := ad) (A := (fun q : Nat => s.heap.size ≤ q)) hij hA
  refine va_calli (va_runV (C := te_137.1.cls) (As := [.int (xs (x3 + 1).toNatClampNeg), .int (xs (x3 + 2).toNatClampNeg), .int (xs (x3 + 3).toNatClampNeg)]) (rest := [.int r]) (bytes := te_137.2.1) (maxL := te_137.2.2.1) (ret := te_137.2.2.2.1) (n := 3) ⟨hx, hb, hml, hown, hts⟩ hM6 ⟨callB_of _ hts (tk_good_in lwm_137) rfl rfl rfl (hts _ tk_ii_6) (hts _ lwl_137) (by decide +kernel) ⟨Nat.le_of_ble_eq_true rfl, Nat.le_of_ble_eq_true rfl⟩, hts _ lwi_137, hts _ lws_137⟩ ⟨fun a U g mk q => by obtain ⟨q0, qP, qK⟩ := q; exact ⟨q0, qP, va_K.moved (u := U) (U := U.calling g mk a) (Vm.Alike.refl U.vm) qK⟩, va_recv hK hP (ci := 6) (q0 := 29) rfl rfl, fun U hU hW => ⟨rfl, by rw [hU]; exact hP, va_K.moved hW.alike hK⟩⟩ rfl rfl hl.1 rfl (lv_room (Nat.le_of_ble_eq_true rfl)) dl_333 ⟨Nat.le_of_ble_eq_true rfl, Nat.le_of_ble_eq_true rfl⟩) hS (fun _ _ h => h) (fun _ h => h) (fun r2 u2 tr2 H locs ht hvm hr2 hB hz1 hk1 hS => ?_)
  obtain ⟨hP, hw⟩ := hB
  rw [ht] at hP
  obtain ⟨he, hI2⟩ := hr2
  have he : r2 = r := by cases he; rfl
  refine lv_icmp_eq (tgt := 830) hx hb dl_336 (by decide) (fun cc => ?_) (fun cc => ?_)
  · exact hN u2 _ _ ls hI2 hw hP hS hl
  · exact absurd he.symm cc
theorem lwm_103 : te_103 ∈ tk_all := List.mem_of_getElem? (i := 103) rfl
theorem lwl_103 : Cond.methodLink R_law 37 te_103.1 ∈ tk_TB := tkm 325 (by decide +kernel) rfl
theorem lwi_103 : Cond.instanceMethod te_103.1 ∈ tk_TB := tk_tb (tk_w1s (tk_w1 te_103) (List.mem_map.mpr ⟨te_103, lwm_103, rfl⟩)) rfl
theorem lws_103 : Cond.selects te_103.1.cls te_103.1 te_103.1 ∈ tk_TB := tk_tb (tk_w2s (tk_w2 te_103) (List.mem_map.mpr ⟨te_103, lwm_103, rfl⟩)) rfl
theorem lwm_138 : te_138 ∈ tk_all := List.mem_of_getElem? (i := 138) rfl
theorem lwl_138 : Cond.methodLink R_law 41 te_138.1 ∈ tk_TB := tkm 948 (by decide +kernel) rfl
theorem lwi_138 : Cond.instanceMethod te_138.1 ∈ tk_TB := tk_tb (tk_w1s (tk_w1 te_138) (List.mem_map.mpr ⟨te_138, lwm_138, rfl⟩)) rfl
theorem lws_138 : Cond.selects te_138.1.cls te_138.1 te_138.1 ∈ tk_TB := tk_tb (tk_w2s (tk_w2 te_138) (List.mem_map.mpr ⟨te_138, lwm_138, rfl⟩)) rfl
set_option maxHeartbeats 4000000 in
set_option maxRecDepth 100000 in
theorem lc_link {p : Program} {l : Launch} {e : Env} {s : State} {m : MethodId} {below : List Frame} {meth : Method} {c : Code} {D : va_G} {cA : Nat → ClassId} {ad : tkAd} {b L : Nat} {xs : Nat → Int32} (C0 : lw_At p s m meth c b L xs) (hK : va_K D tk_cls (tk_tyl cA) s) (hij : ∀ t ∈ tk_ix, ∀ t' ∈ tk_ix, ad t = ad t' → t = t') (hA : ∀ t ∈ tk_ix, (fun q : Nat => s.heap.size ≤ q) (ad t)) {cn : Nat} (hcn : cn ≤ 600) {x3 : Int32} (hv : ∀ k, k < 6 → vp_in (x3 + nI k) L) {w : tkW} (hI : LawI cn w) (hw : tk_wok w) {H : Heap} {locs : List Loc} (hP : va_P D tk_cls (tk_wl ad cA w) H) (hS : va_S (fun q : Nat => s.heap.size ≤ q) s.heap H locs) {ls : Array Slot} (hl : lv_has ls 4 [(0, .ref b), (1, .ref (ad (5, 0, 0))), (2, .ref (ad (6, 0, 0))), (3, .int x3)]) (hN : ∀ (u : tkW) (H : Heap) (locs : List Loc) (ls : Array Slot), LawI (cn + 1) u → tk_wok u → va_P D tk_cls (tk_wl ad cA u) H → va_S (fun q : Nat => s.heap.size ≤ q) s.heap H locs → lv_has ls 4 [(0, .ref b), (1, .ref (ad (5, 0, 0))), (2, .ref (ad (6, 0, 0))), (3, .int x3)] → W p l e room_1 s m #[Value.ref b] below meth c H locs 47 5982 (lw_Z below #[Value.ref b] s) (F0 m 830 ls [])) : W p l e room_1 s m #[Value.ref b] below meth c H locs 47 5982 (lw_Z below #[Value.ref b] s) (F0 m 341 ls []) := by
  obtain ⟨hx, hb, hr, hml, hown, hts0, hX, hbl, hlocks, hgv⟩ := C0
  have hts : ∀ w ∈ tk_TB, w.before #[Value.ref b] s = true := fun w hw => hts0 w (List.mem_filter.mp hw).1
  have hbA : ¬ (fun q : Nat => s.heap.size ≤ q) b := Nat.not_le.mpr hbl
  obtain ⟨S, z, B, on, T, t, hA1, hC1, hM1⟩ := hI
  obtain ⟨I, J, R⟩ := w
  refine lv_aload_n hx hb dl_341 rfl (lv_at hl 1 rfl) ?_
  refine lv_aload_n hx hb dl_342 rfl (lv_at hl 0 rfl) ?_
  refine lv_iload_n hx hb dl_343 rfl (lv_at hl 3 rfl) ?_
  refine lv_iconst (v := 1) hx hb dl_344 (by decide) ?_
  refine lv_iadd hx hb dl_345 ?_
  refine va_sld hx hb hX hbl hbA hS (show vp_in (x3 + 1) L from hv 1 (by decide)) dl_346 ?_
  refine lv_aload_n hx hb dl_347 rfl (lv_at hl 0 rfl) ?_
  refine lv_iload_n hx hb dl_348 rfl (lv_at hl 3 rfl) ?_
  refine lv_iconst (v := 2) hx hb dl_349 (by decide) ?_
  refine lv_iadd hx hb dl_350 ?_
  refine va_sld hx hb hX hbl hbA hS (show vp_in (x3 + 2) L from hv 2 (by decide)) dl_351 ?_
  have hM5 : Met l te_103.1 (Cond.code te_103.1 te_103.2.1 te_103.2.2.1 te_103.2.2.2.1 :: tk_TB) ({ frames := te_103.2.2.2.2.2.2.2.2.1, cells := 0, slots := 0, locals := te_103.2.2.2.2.2.2.2.2.2.1 }) (va_Pc (.ref (ad (5, 0, 0)) :: [.int (xs (x3 + 1).toNatClampNeg), .int (xs (x3 + 2).toNatClampNeg)]) (fun U => va_P D tk_cls (tk_wl ad cA (I, J, R)) U.heap ∧ va_K D tk_cls (tk_tyl cA) U)) (va_Qi (fun (ra : Int32) (u : tkW) => tkDn tm_138 (0, [some (.inr (.inr (6, 0, 0))), some (.inl (xs (x3 + 1).toNatClampNeg)), some (.inl (xs (x3 + 2).toNatClampNeg))], [], u) (Fin cn (some (.inl ra)))) (fun u t => va_P D tk_cls (tk_wl ad cA u) t.heap ∧ tk_wok u) (fun q : Nat => s.heap.size ≤ q)) 0 0 (fun q : Nat => s.heap.size ≤ q) :=
    tk_contract (l := l) (E := te_103) lwm_103 (as := [.inr (.inr (5, 0, 0)), .inl (xs (x3 + 1).toNatClampNeg), .inl (xs (x3 + 2).toNatClampNeg)]) (w := (I, J, R)) (Q := fun ra u => tkDn tm_138 (0, [some (.inr (.inr (6, 0, 0))), some (.inl (xs (x3 + 1).toNatClampNeg)), some (.inl (xs (x3 + 2).toNatClampNeg))], [], u) (Fin cn (ra))) (pr_link hA1 hC1 hM1) (Nat.le_of_ble_eq_true rfl) (vok5 [xs (x3 + 1).toNatClampNeg, xs (x3 + 2).toNatClampNeg]) hw (D := D) (cA := cA) (ad := ad) (A := (fun q : Nat => s.heap.size ≤ q)) hij hA
  refine va_calli (va_runV (C := te_103.1.cls) (As := [.int (xs (x3 + 1).toNatClampNeg), .int (xs (x3 + 2).toNatClampNeg)]) (rest := []) (bytes := te_103.2.1) (maxL := te_103.2.2.1) (ret := te_103.2.2.2.1) (n := 2) ⟨hx, hb, hml, hown, hts⟩ hM5 ⟨callB_of _ hts (tk_good_in lwm_103) rfl rfl rfl (hts _ tk_ii_5) (hts _ lwl_103) (by decide +kernel) ⟨Nat.le_of_ble_eq_true rfl, Nat.le_of_ble_eq_true rfl⟩, hts _ lwi_103, hts _ lws_103⟩ ⟨fun a U g mk q => by obtain ⟨q0, qP, qK⟩ := q; exact ⟨q0, qP, va_K.moved (u := U) (U := U.calling g mk a) (Vm.Alike.refl U.vm) qK⟩, va_recv hK hP (ci := 5) (q0 := 28) rfl rfl, fun U hU hW => ⟨rfl, by rw [hU]; exact hP, va_K.moved hW.alike hK⟩⟩ rfl rfl hl.1 rfl (lv_room (Nat.le_of_ble_eq_true rfl)) dl_352 ⟨Nat.le_of_ble_eq_true rfl, Nat.le_of_ble_eq_true rfl⟩) hS (fun _ _ h => h) (fun _ h => h) (fun r u tr H locs ht hvm hr hB hz1 hk1 hS => ?_)
  obtain ⟨hP, hw⟩ := hB
  rw [ht] at hP
  refine lv_aload_n hx hb dl_355 rfl (lv_at hl 2 rfl) ?_
  refine lv_aload_n hx hb dl_356 rfl (lv_at hl 0 rfl) ?_
  refine lv_iload_n hx hb dl_357 rfl (lv_at hl 3 rfl) ?_
  refine lv_iconst (v := 1) hx hb dl_358 (by decide) ?_
  refine lv_iadd hx hb dl_359 ?_
  refine va_sld hx hb hX hbl hbA hS (show vp_in (x3 + 1) L from hv 1 (by decide)) dl_360 ?_
  refine lv_aload_n hx hb dl_361 rfl (lv_at hl 0 rfl) ?_
  refine lv_iload_n hx hb dl_362 rfl (lv_at hl 3 rfl) ?_
  refine lv_iconst (v := 2) hx hb dl_363 (by decide) ?_
  refine lv_iadd hx hb dl_364 ?_
  refine va_sld hx hb hX hbl hbA hS (show vp_in (x3 + 2) L from hv 2 (by decide)) dl_365 ?_
  have hM6 : Met l te_138.1 (Cond.code te_138.1 te_138.2.1 te_138.2.2.1 te_138.2.2.2.1 :: tk_TB) ({ frames := te_138.2.2.2.2.2.2.2.2.1, cells := 0, slots := 0, locals := te_138.2.2.2.2.2.2.2.2.2.1 }) (va_Pc (.ref (ad (6, 0, 0)) :: [.int (xs (x3 + 1).toNatClampNeg), .int (xs (x3 + 2).toNatClampNeg)]) (fun U => va_P D tk_cls (tk_wl ad cA u) U.heap ∧ va_K D tk_cls (tk_tyl cA) U)) (va_Qi (fun (ra : Int32) (u : tkW) => Fin cn (some (.inl r)) (some (.inl ra)) u) (fun u t => va_P D tk_cls (tk_wl ad cA u) t.heap ∧ tk_wok u) (fun q : Nat => s.heap.size ≤ q)) 0 0 (fun q : Nat => s.heap.size ≤ q) :=
    tk_contract (l := l) (E := te_138) lwm_138 (as := [.inr (.inr (6, 0, 0)), .inl (xs (x3 + 1).toNatClampNeg), .inl (xs (x3 + 2).toNatClampNeg)]) (w := u) (Q := fun ra u => Fin cn (some (.inl r)) (ra) u) (hr) (Nat.le_of_ble_eq_true rfl) (vok6 [xs (x3 + 1).toNatClampNeg, xs (x3 + 2).toNatClampNeg]) hw (D := D) (cA := cA) (ad := ad) (A := (fun q : Nat => s.heap.size ≤ q)) hij hA
  refine va_calli (va_runV (C := te_138.1.cls) (As := [.int (xs (x3 + 1).toNatClampNeg), .int (xs (x3 + 2).toNatClampNeg)]) (rest := [.int r]) (bytes := te_138.2.1) (maxL := te_138.2.2.1) (ret := te_138.2.2.2.1) (n := 2) ⟨hx, hb, hml, hown, hts⟩ hM6 ⟨callB_of _ hts (tk_good_in lwm_138) rfl rfl rfl (hts _ tk_ii_6) (hts _ lwl_138) (by decide +kernel) ⟨Nat.le_of_ble_eq_true rfl, Nat.le_of_ble_eq_true rfl⟩, hts _ lwi_138, hts _ lws_138⟩ ⟨fun a U g mk q => by obtain ⟨q0, qP, qK⟩ := q; exact ⟨q0, qP, va_K.moved (u := U) (U := U.calling g mk a) (Vm.Alike.refl U.vm) qK⟩, va_recv hK hP (ci := 6) (q0 := 29) rfl rfl, fun U hU hW => ⟨rfl, by rw [hU]; exact hP, va_K.moved hW.alike hK⟩⟩ rfl rfl hl.1 rfl (lv_room (Nat.le_of_ble_eq_true rfl)) dl_366 ⟨Nat.le_of_ble_eq_true rfl, Nat.le_of_ble_eq_true rfl⟩) hS (fun _ _ h => h) (fun _ h => h) (fun r2 u2 tr2 H locs ht hvm hr2 hB hz1 hk1 hS => ?_)
  obtain ⟨hP, hw⟩ := hB
  rw [ht] at hP
  obtain ⟨he, hI2⟩ := hr2
  have he : r2 = r := by cases he; rfl
  refine lv_icmp_eq (tgt := 830) hx hb dl_369 (by decide) (fun cc => ?_) (fun cc => ?_)
  · exact hN u2 _ _ ls hI2 hw hP hS hl
  · exact absurd he.symm cc
theorem lwm_104 : te_104 ∈ tk_all := List.mem_of_getElem? (i := 104) rfl
theorem lwl_104 : Cond.methodLink R_law 42 te_104.1 ∈ tk_TB := tkm 333 (by decide +kernel) rfl
theorem lwi_104 : Cond.instanceMethod te_104.1 ∈ tk_TB := tk_tb (tk_w1s (tk_w1 te_104) (List.mem_map.mpr ⟨te_104, lwm_104, rfl⟩)) rfl
theorem lws_104 : Cond.selects te_104.1.cls te_104.1 te_104.1 ∈ tk_TB := tk_tb (tk_w2s (tk_w2 te_104) (List.mem_map.mpr ⟨te_104, lwm_104, rfl⟩)) rfl
theorem lwm_139 : te_139 ∈ tk_all := List.mem_of_getElem? (i := 139) rfl
theorem lwl_139 : Cond.methodLink R_law 46 te_139.1 ∈ tk_TB := tkm 952 (by decide +kernel) rfl
theorem lwi_139 : Cond.instanceMethod te_139.1 ∈ tk_TB := tk_tb (tk_w1s (tk_w1 te_139) (List.mem_map.mpr ⟨te_139, lwm_139, rfl⟩)) rfl
theorem lws_139 : Cond.selects te_139.1.cls te_139.1 te_139.1 ∈ tk_TB := tk_tb (tk_w2s (tk_w2 te_139) (List.mem_map.mpr ⟨te_139, lwm_139, rfl⟩)) rfl
set_option maxHeartbeats 4000000 in
set_option maxRecDepth 100000 in
theorem lc_feed {p : Program} {l : Launch} {e : Env} {s : State} {m : MethodId} {below : List Frame} {meth : Method} {c : Code} {D : va_G} {cA : Nat → ClassId} {ad : tkAd} {b L : Nat} {xs : Nat → Int32} (C0 : lw_At p s m meth c b L xs) (hK : va_K D tk_cls (tk_tyl cA) s) (hij : ∀ t ∈ tk_ix, ∀ t' ∈ tk_ix, ad t = ad t' → t = t') (hA : ∀ t ∈ tk_ix, (fun q : Nat => s.heap.size ≤ q) (ad t)) {cn : Nat} (hcn : cn ≤ 600) {x3 : Int32} (hv : ∀ k, k < 6 → vp_in (x3 + nI k) L) {w : tkW} (hI : LawI cn w) (hw : tk_wok w) {H : Heap} {locs : List Loc} (hP : va_P D tk_cls (tk_wl ad cA w) H) (hS : va_S (fun q : Nat => s.heap.size ≤ q) s.heap H locs) {ls : Array Slot} (hl : lv_has ls 4 [(0, .ref b), (1, .ref (ad (5, 0, 0))), (2, .ref (ad (6, 0, 0))), (3, .int x3)]) (hN : ∀ (u : tkW) (H : Heap) (locs : List Loc) (ls : Array Slot), LawI (cn + 1) u → tk_wok u → va_P D tk_cls (tk_wl ad cA u) H → va_S (fun q : Nat => s.heap.size ≤ q) s.heap H locs → lv_has ls 4 [(0, .ref b), (1, .ref (ad (5, 0, 0))), (2, .ref (ad (6, 0, 0))), (3, .int x3)] → W p l e room_1 s m #[Value.ref b] below meth c H locs 47 5982 (lw_Z below #[Value.ref b] s) (F0 m 830 ls [])) : W p l e room_1 s m #[Value.ref b] below meth c H locs 47 5982 (lw_Z below #[Value.ref b] s) (F0 m 374 ls []) := by
  obtain ⟨hx, hb, hr, hml, hown, hts0, hX, hbl, hlocks, hgv⟩ := C0
  have hts : ∀ w ∈ tk_TB, w.before #[Value.ref b] s = true := fun w hw => hts0 w (List.mem_filter.mp hw).1
  have hbA : ¬ (fun q : Nat => s.heap.size ≤ q) b := Nat.not_le.mpr hbl
  obtain ⟨S, z, B, on, T, t, hA1, hC1, hM1⟩ := hI
  obtain ⟨I, J, R⟩ := w
  refine lv_aload_n hx hb dl_374 rfl (lv_at hl 1 rfl) ?_
  refine lv_aload_n hx hb dl_375 rfl (lv_at hl 0 rfl) ?_
  refine lv_iload_n hx hb dl_376 rfl (lv_at hl 3 rfl) ?_
  refine lv_iconst (v := 1) hx hb dl_377 (by decide) ?_
  refine lv_iadd hx hb dl_378 ?_
  refine va_sld hx hb hX hbl hbA hS (show vp_in (x3 + 1) L from hv 1 (by decide)) dl_379 ?_
  refine lv_aload_n hx hb dl_380 rfl (lv_at hl 0 rfl) ?_
  refine lv_iload_n hx hb dl_381 rfl (lv_at hl 3 rfl) ?_
  refine lv_iconst (v := 2) hx hb dl_382 (by decide) ?_
  refine lv_iadd hx hb dl_383 ?_
  refine va_sld hx hb hX hbl hbA hS (show vp_in (x3 + 2) L from hv 2 (by decide)) dl_384 ?_
  refine lv_aload_n hx hb dl_385 rfl (lv_at hl 0 rfl) ?_
  refine lv_iload_n hx hb dl_386 rfl (lv_at hl 3 rfl) ?_
  refine lv_iconst (v := 3) hx hb dl_387 (by decide) ?_
  refine lv_iadd hx hb dl_388 ?_
  refine va_sld hx hb hX hbl hbA hS (show vp_in (x3 + 3) L from hv 3 (by decide)) dl_389 ?_
  refine lv_aload_n hx hb dl_390 rfl (lv_at hl 0 rfl) ?_
  refine lv_iload_n hx hb dl_391 rfl (lv_at hl 3 rfl) ?_
  refine lv_iconst (v := 4) hx hb dl_392 (by decide) ?_
  refine lv_iadd hx hb dl_393 ?_
  refine va_sld hx hb hX hbl hbA hS (show vp_in (x3 + 4) L from hv 4 (by decide)) dl_394 ?_
  refine lv_aload_n hx hb dl_395 rfl (lv_at hl 0 rfl) ?_
  refine lv_iload_n hx hb dl_396 rfl (lv_at hl 3 rfl) ?_
  refine lv_iconst (v := 5) hx hb dl_397 (by decide) ?_
  refine lv_iadd hx hb dl_398 ?_
  refine va_sld hx hb hX hbl hbA hS (show vp_in (x3 + 5) L from hv 5 (by decide)) dl_399 ?_
  have hM5 : Met l te_104.1 (Cond.code te_104.1 te_104.2.1 te_104.2.2.1 te_104.2.2.2.1 :: tk_TB) ({ frames := te_104.2.2.2.2.2.2.2.2.1, cells := 0, slots := 0, locals := te_104.2.2.2.2.2.2.2.2.2.1 }) (va_Pc (.ref (ad (5, 0, 0)) :: [.int (xs (x3 + 1).toNatClampNeg), .int (xs (x3 + 2).toNatClampNeg), .int (xs (x3 + 3).toNatClampNeg), .int (xs (x3 + 4).toNatClampNeg), .int (xs (x3 + 5).toNatClampNeg)]) (fun U => va_P D tk_cls (tk_wl ad cA (I, J, R)) U.heap ∧ va_K D tk_cls (tk_tyl cA) U)) (va_Qi (fun (ra : Int32) (u : tkW) => tkDn tm_139 (0, [some (.inr (.inr (6, 0, 0))), some (.inl (xs (x3 + 1).toNatClampNeg)), some (.inl (xs (x3 + 2).toNatClampNeg)), some (.inl (xs (x3 + 3).toNatClampNeg)), some (.inl (xs (x3 + 4).toNatClampNeg)), some (.inl (xs (x3 + 5).toNatClampNeg)), none, none], [], u) (Fin cn (some (.inl ra)))) (fun u t => va_P D tk_cls (tk_wl ad cA u) t.heap ∧ tk_wok u) (fun q : Nat => s.heap.size ≤ q)) 0 0 (fun q : Nat => s.heap.size ≤ q) :=
    tk_contract (l := l) (E := te_104) lwm_104 (as := [.inr (.inr (5, 0, 0)), .inl (xs (x3 + 1).toNatClampNeg), .inl (xs (x3 + 2).toNatClampNeg), .inl (xs (x3 + 3).toNatClampNeg), .inl (xs (x3 + 4).toNatClampNeg), .inl (xs (x3 + 5).toNatClampNeg)]) (w := (I, J, R)) (Q := fun ra u => tkDn tm_139 (0, [some (.inr (.inr (6, 0, 0))), some (.inl (xs (x3 + 1).toNatClampNeg)), some (.inl (xs (x3 + 2).toNatClampNeg)), some (.inl (xs (x3 + 3).toNatClampNeg)), some (.inl (xs (x3 + 4).toNatClampNeg)), some (.inl (xs (x3 + 5).toNatClampNeg)), none, none], [], u) (Fin cn (ra))) (pr_feed hA1 hC1 hM1) (Nat.le_of_ble_eq_true rfl) (vok5 [xs (x3 + 1).toNatClampNeg, xs (x3 + 2).toNatClampNeg, xs (x3 + 3).toNatClampNeg, xs (x3 + 4).toNatClampNeg, xs (x3 + 5).toNatClampNeg]) hw (D := D) (cA := cA) (ad := ad) (A := (fun q : Nat => s.heap.size ≤ q)) hij hA
  refine va_calli (va_runV (C := te_104.1.cls) (As := [.int (xs (x3 + 1).toNatClampNeg), .int (xs (x3 + 2).toNatClampNeg), .int (xs (x3 + 3).toNatClampNeg), .int (xs (x3 + 4).toNatClampNeg), .int (xs (x3 + 5).toNatClampNeg)]) (rest := []) (bytes := te_104.2.1) (maxL := te_104.2.2.1) (ret := te_104.2.2.2.1) (n := 5) ⟨hx, hb, hml, hown, hts⟩ hM5 ⟨callB_of _ hts (tk_good_in lwm_104) rfl rfl rfl (hts _ tk_ii_5) (hts _ lwl_104) (by decide +kernel) ⟨Nat.le_of_ble_eq_true rfl, Nat.le_of_ble_eq_true rfl⟩, hts _ lwi_104, hts _ lws_104⟩ ⟨fun a U g mk q => by obtain ⟨q0, qP, qK⟩ := q; exact ⟨q0, qP, va_K.moved (u := U) (U := U.calling g mk a) (Vm.Alike.refl U.vm) qK⟩, va_recv hK hP (ci := 5) (q0 := 28) rfl rfl, fun U hU hW => ⟨rfl, by rw [hU]; exact hP, va_K.moved hW.alike hK⟩⟩ rfl rfl hl.1 rfl (lv_room (Nat.le_of_ble_eq_true rfl)) dl_400 ⟨Nat.le_of_ble_eq_true rfl, Nat.le_of_ble_eq_true rfl⟩) hS (fun _ _ h => h) (fun _ h => h) (fun r u tr H locs ht hvm hr hB hz1 hk1 hS => ?_)
  obtain ⟨hP, hw⟩ := hB
  rw [ht] at hP
  refine lv_aload_n hx hb dl_403 rfl (lv_at hl 2 rfl) ?_
  refine lv_aload_n hx hb dl_404 rfl (lv_at hl 0 rfl) ?_
  refine lv_iload_n hx hb dl_405 rfl (lv_at hl 3 rfl) ?_
  refine lv_iconst (v := 1) hx hb dl_406 (by decide) ?_
  refine lv_iadd hx hb dl_407 ?_
  refine va_sld hx hb hX hbl hbA hS (show vp_in (x3 + 1) L from hv 1 (by decide)) dl_408 ?_
  refine lv_aload_n hx hb dl_409 rfl (lv_at hl 0 rfl) ?_
  refine lv_iload_n hx hb dl_410 rfl (lv_at hl 3 rfl) ?_
  refine lv_iconst (v := 2) hx hb dl_411 (by decide) ?_
  refine lv_iadd hx hb dl_412 ?_
  refine va_sld hx hb hX hbl hbA hS (show vp_in (x3 + 2) L from hv 2 (by decide)) dl_413 ?_
  refine lv_aload_n hx hb dl_414 rfl (lv_at hl 0 rfl) ?_
  refine lv_iload_n hx hb dl_415 rfl (lv_at hl 3 rfl) ?_
  refine lv_iconst (v := 3) hx hb dl_416 (by decide) ?_
  refine lv_iadd hx hb dl_417 ?_
  refine va_sld hx hb hX hbl hbA hS (show vp_in (x3 + 3) L from hv 3 (by decide)) dl_418 ?_
  refine lv_aload_n hx hb dl_419 rfl (lv_at hl 0 rfl) ?_
  refine lv_iload_n hx hb dl_420 rfl (lv_at hl 3 rfl) ?_
  refine lv_iconst (v := 4) hx hb dl_421 (by decide) ?_
  refine lv_iadd hx hb dl_422 ?_
  refine va_sld hx hb hX hbl hbA hS (show vp_in (x3 + 4) L from hv 4 (by decide)) dl_423 ?_
  refine lv_aload_n hx hb dl_424 rfl (lv_at hl 0 rfl) ?_
  refine lv_iload_n hx hb dl_425 rfl (lv_at hl 3 rfl) ?_
  refine lv_iconst (v := 5) hx hb dl_426 (by decide) ?_
  refine lv_iadd hx hb dl_427 ?_
  refine va_sld hx hb hX hbl hbA hS (show vp_in (x3 + 5) L from hv 5 (by decide)) dl_428 ?_
  have hM6 : Met l te_139.1 (Cond.code te_139.1 te_139.2.1 te_139.2.2.1 te_139.2.2.2.1 :: tk_TB) ({ frames := te_139.2.2.2.2.2.2.2.2.1, cells := 0, slots := 0, locals := te_139.2.2.2.2.2.2.2.2.2.1 }) (va_Pc (.ref (ad (6, 0, 0)) :: [.int (xs (x3 + 1).toNatClampNeg), .int (xs (x3 + 2).toNatClampNeg), .int (xs (x3 + 3).toNatClampNeg), .int (xs (x3 + 4).toNatClampNeg), .int (xs (x3 + 5).toNatClampNeg)]) (fun U => va_P D tk_cls (tk_wl ad cA u) U.heap ∧ va_K D tk_cls (tk_tyl cA) U)) (va_Qi (fun (ra : Int32) (u : tkW) => Fin cn (some (.inl r)) (some (.inl ra)) u) (fun u t => va_P D tk_cls (tk_wl ad cA u) t.heap ∧ tk_wok u) (fun q : Nat => s.heap.size ≤ q)) 0 0 (fun q : Nat => s.heap.size ≤ q) :=
    tk_contract (l := l) (E := te_139) lwm_139 (as := [.inr (.inr (6, 0, 0)), .inl (xs (x3 + 1).toNatClampNeg), .inl (xs (x3 + 2).toNatClampNeg), .inl (xs (x3 + 3).toNatClampNeg), .inl (xs (x3 + 4).toNatClampNeg), .inl (xs (x3 + 5).toNatClampNeg)]) (w := u) (Q := fun ra u => Fin cn (some (.inl r)) (ra) u) (hr) (Nat.le_of_ble_eq_true rfl) (vok6 [xs (x3 + 1).toNatClampNeg, xs (x3 + 2).toNatClampNeg, xs (x3 + 3).toNatClampNeg, xs (x3 + 4).toNatClampNeg, xs (x3 + 5).toNatClampNeg]) hw (D := D) (cA := cA) (ad := ad) (A := (fun q : Nat => s.heap.size ≤ q)) hij hA
  refine va_calli (va_runV (C := te_139.1.cls) (As := [.int (xs (x3 + 1).toNatClampNeg), .int (xs (x3 + 2).toNatClampNeg), .int (xs (x3 + 3).toNatClampNeg), .int (xs (x3 + 4).toNatClampNeg), .int (xs (x3 + 5).toNatClampNeg)]) (rest := [.int r]) (bytes := te_139.2.1) (maxL := te_139.2.2.1) (ret := te_139.2.2.2.1) (n := 5) ⟨hx, hb, hml, hown, hts⟩ hM6 ⟨callB_of _ hts (tk_good_in lwm_139) rfl rfl rfl (hts _ tk_ii_6) (hts _ lwl_139) (by decide +kernel) ⟨Nat.le_of_ble_eq_true rfl, Nat.le_of_ble_eq_true rfl⟩, hts _ lwi_139, hts _ lws_139⟩ ⟨fun a U g mk q => by obtain ⟨q0, qP, qK⟩ := q; exact ⟨q0, qP, va_K.moved (u := U) (U := U.calling g mk a) (Vm.Alike.refl U.vm) qK⟩, va_recv hK hP (ci := 6) (q0 := 29) rfl rfl, fun U hU hW => ⟨rfl, by rw [hU]; exact hP, va_K.moved hW.alike hK⟩⟩ rfl rfl hl.1 rfl (lv_room (Nat.le_of_ble_eq_true rfl)) dl_429 ⟨Nat.le_of_ble_eq_true rfl, Nat.le_of_ble_eq_true rfl⟩) hS (fun _ _ h => h) (fun _ h => h) (fun r2 u2 tr2 H locs ht hvm hr2 hB hz1 hk1 hS => ?_)
  obtain ⟨hP, hw⟩ := hB
  rw [ht] at hP
  obtain ⟨he, hI2⟩ := hr2
  have he : r2 = r := by cases he; rfl
  refine lv_icmp_eq (tgt := 830) hx hb dl_432 (by decide) (fun cc => ?_) (fun cc => ?_)
  · exact hN u2 _ _ ls hI2 hw hP hS hl
  · exact absurd he.symm cc
theorem lwm_105 : te_105 ∈ tk_all := List.mem_of_getElem? (i := 105) rfl
theorem lwl_105 : Cond.methodLink R_law 47 te_105.1 ∈ tk_TB := tkm 349 (by decide +kernel) rfl
theorem lwi_105 : Cond.instanceMethod te_105.1 ∈ tk_TB := tk_tb (tk_w1s (tk_w1 te_105) (List.mem_map.mpr ⟨te_105, lwm_105, rfl⟩)) rfl
theorem lws_105 : Cond.selects te_105.1.cls te_105.1 te_105.1 ∈ tk_TB := tk_tb (tk_w2s (tk_w2 te_105) (List.mem_map.mpr ⟨te_105, lwm_105, rfl⟩)) rfl
theorem lwm_140 : te_140 ∈ tk_all := List.mem_of_getElem? (i := 140) rfl
theorem lwl_140 : Cond.methodLink R_law 50 te_140.1 ∈ tk_TB := tkm 956 (by decide +kernel) rfl
theorem lwi_140 : Cond.instanceMethod te_140.1 ∈ tk_TB := tk_tb (tk_w1s (tk_w1 te_140) (List.mem_map.mpr ⟨te_140, lwm_140, rfl⟩)) rfl
theorem lws_140 : Cond.selects te_140.1.cls te_140.1 te_140.1 ∈ tk_TB := tk_tb (tk_w2s (tk_w2 te_140) (List.mem_map.mpr ⟨te_140, lwm_140, rfl⟩)) rfl
set_option maxHeartbeats 4000000 in
set_option maxRecDepth 100000 in
theorem lc_trim {p : Program} {l : Launch} {e : Env} {s : State} {m : MethodId} {below : List Frame} {meth : Method} {c : Code} {D : va_G} {cA : Nat → ClassId} {ad : tkAd} {b L : Nat} {xs : Nat → Int32} (C0 : lw_At p s m meth c b L xs) (hK : va_K D tk_cls (tk_tyl cA) s) (hij : ∀ t ∈ tk_ix, ∀ t' ∈ tk_ix, ad t = ad t' → t = t') (hA : ∀ t ∈ tk_ix, (fun q : Nat => s.heap.size ≤ q) (ad t)) {cn : Nat} (hcn : cn ≤ 600) {x3 : Int32} (hv : ∀ k, k < 6 → vp_in (x3 + nI k) L) {w : tkW} (hI : LawI cn w) (hw : tk_wok w) {H : Heap} {locs : List Loc} (hP : va_P D tk_cls (tk_wl ad cA w) H) (hS : va_S (fun q : Nat => s.heap.size ≤ q) s.heap H locs) {ls : Array Slot} (hl : lv_has ls 4 [(0, .ref b), (1, .ref (ad (5, 0, 0))), (2, .ref (ad (6, 0, 0))), (3, .int x3)]) (hN : ∀ (u : tkW) (H : Heap) (locs : List Loc) (ls : Array Slot), LawI (cn + 1) u → tk_wok u → va_P D tk_cls (tk_wl ad cA u) H → va_S (fun q : Nat => s.heap.size ≤ q) s.heap H locs → lv_has ls 4 [(0, .ref b), (1, .ref (ad (5, 0, 0))), (2, .ref (ad (6, 0, 0))), (3, .int x3)] → W p l e room_1 s m #[Value.ref b] below meth c H locs 47 5982 (lw_Z below #[Value.ref b] s) (F0 m 830 ls [])) : W p l e room_1 s m #[Value.ref b] below meth c H locs 47 5982 (lw_Z below #[Value.ref b] s) (F0 m 437 ls []) := by
  obtain ⟨hx, hb, hr, hml, hown, hts0, hX, hbl, hlocks, hgv⟩ := C0
  have hts : ∀ w ∈ tk_TB, w.before #[Value.ref b] s = true := fun w hw => hts0 w (List.mem_filter.mp hw).1
  have hbA : ¬ (fun q : Nat => s.heap.size ≤ q) b := Nat.not_le.mpr hbl
  obtain ⟨S, z, B, on, T, t, hA1, hC1, hM1⟩ := hI
  obtain ⟨I, J, R⟩ := w
  refine lv_aload_n hx hb dl_437 rfl (lv_at hl 1 rfl) ?_
  refine lv_aload_n hx hb dl_438 rfl (lv_at hl 0 rfl) ?_
  refine lv_iload_n hx hb dl_439 rfl (lv_at hl 3 rfl) ?_
  refine lv_iconst (v := 1) hx hb dl_440 (by decide) ?_
  refine lv_iadd hx hb dl_441 ?_
  refine va_sld hx hb hX hbl hbA hS (show vp_in (x3 + 1) L from hv 1 (by decide)) dl_442 ?_
  have hM5 : Met l te_105.1 (Cond.code te_105.1 te_105.2.1 te_105.2.2.1 te_105.2.2.2.1 :: tk_TB) ({ frames := te_105.2.2.2.2.2.2.2.2.1, cells := 0, slots := 0, locals := te_105.2.2.2.2.2.2.2.2.2.1 }) (va_Pc (.ref (ad (5, 0, 0)) :: [.int (xs (x3 + 1).toNatClampNeg)]) (fun U => va_P D tk_cls (tk_wl ad cA (I, J, R)) U.heap ∧ va_K D tk_cls (tk_tyl cA) U)) (va_Qi (fun (ra : Int32) (u : tkW) => tkDn tm_140 (0, [some (.inr (.inr (6, 0, 0))), some (.inl (xs (x3 + 1).toNatClampNeg))], [], u) (Fin cn (some (.inl ra)))) (fun u t => va_P D tk_cls (tk_wl ad cA u) t.heap ∧ tk_wok u) (fun q : Nat => s.heap.size ≤ q)) 0 0 (fun q : Nat => s.heap.size ≤ q) :=
    tk_contract (l := l) (E := te_105) lwm_105 (as := [.inr (.inr (5, 0, 0)), .inl (xs (x3 + 1).toNatClampNeg)]) (w := (I, J, R)) (Q := fun ra u => tkDn tm_140 (0, [some (.inr (.inr (6, 0, 0))), some (.inl (xs (x3 + 1).toNatClampNeg))], [], u) (Fin cn (ra))) (pr_trim hA1 hC1 hM1) (Nat.le_of_ble_eq_true rfl) (vok5 [xs (x3 + 1).toNatClampNeg]) hw (D := D) (cA := cA) (ad := ad) (A := (fun q : Nat => s.heap.size ≤ q)) hij hA
  refine va_calli (va_runV (C := te_105.1.cls) (As := [.int (xs (x3 + 1).toNatClampNeg)]) (rest := []) (bytes := te_105.2.1) (maxL := te_105.2.2.1) (ret := te_105.2.2.2.1) (n := 1) ⟨hx, hb, hml, hown, hts⟩ hM5 ⟨callB_of _ hts (tk_good_in lwm_105) rfl rfl rfl (hts _ tk_ii_5) (hts _ lwl_105) (by decide +kernel) ⟨Nat.le_of_ble_eq_true rfl, Nat.le_of_ble_eq_true rfl⟩, hts _ lwi_105, hts _ lws_105⟩ ⟨fun a U g mk q => by obtain ⟨q0, qP, qK⟩ := q; exact ⟨q0, qP, va_K.moved (u := U) (U := U.calling g mk a) (Vm.Alike.refl U.vm) qK⟩, va_recv hK hP (ci := 5) (q0 := 28) rfl rfl, fun U hU hW => ⟨rfl, by rw [hU]; exact hP, va_K.moved hW.alike hK⟩⟩ rfl rfl hl.1 rfl (lv_room (Nat.le_of_ble_eq_true rfl)) dl_443 ⟨Nat.le_of_ble_eq_true rfl, Nat.le_of_ble_eq_true rfl⟩) hS (fun _ _ h => h) (fun _ h => h) (fun r u tr H locs ht hvm hr hB hz1 hk1 hS => ?_)
  obtain ⟨hP, hw⟩ := hB
  rw [ht] at hP
  refine lv_aload_n hx hb dl_446 rfl (lv_at hl 2 rfl) ?_
  refine lv_aload_n hx hb dl_447 rfl (lv_at hl 0 rfl) ?_
  refine lv_iload_n hx hb dl_448 rfl (lv_at hl 3 rfl) ?_
  refine lv_iconst (v := 1) hx hb dl_449 (by decide) ?_
  refine lv_iadd hx hb dl_450 ?_
  refine va_sld hx hb hX hbl hbA hS (show vp_in (x3 + 1) L from hv 1 (by decide)) dl_451 ?_
  have hM6 : Met l te_140.1 (Cond.code te_140.1 te_140.2.1 te_140.2.2.1 te_140.2.2.2.1 :: tk_TB) ({ frames := te_140.2.2.2.2.2.2.2.2.1, cells := 0, slots := 0, locals := te_140.2.2.2.2.2.2.2.2.2.1 }) (va_Pc (.ref (ad (6, 0, 0)) :: [.int (xs (x3 + 1).toNatClampNeg)]) (fun U => va_P D tk_cls (tk_wl ad cA u) U.heap ∧ va_K D tk_cls (tk_tyl cA) U)) (va_Qi (fun (ra : Int32) (u : tkW) => Fin cn (some (.inl r)) (some (.inl ra)) u) (fun u t => va_P D tk_cls (tk_wl ad cA u) t.heap ∧ tk_wok u) (fun q : Nat => s.heap.size ≤ q)) 0 0 (fun q : Nat => s.heap.size ≤ q) :=
    tk_contract (l := l) (E := te_140) lwm_140 (as := [.inr (.inr (6, 0, 0)), .inl (xs (x3 + 1).toNatClampNeg)]) (w := u) (Q := fun ra u => Fin cn (some (.inl r)) (ra) u) (hr) (Nat.le_of_ble_eq_true rfl) (vok6 [xs (x3 + 1).toNatClampNeg]) hw (D := D) (cA := cA) (ad := ad) (A := (fun q : Nat => s.heap.size ≤ q)) hij hA
  refine va_calli (va_runV (C := te_140.1.cls) (As := [.int (xs (x3 + 1).toNatClampNeg)]) (rest := [.int r]) (bytes := te_140.2.1) (maxL := te_140.2.2.1) (ret := te_140.2.2.2.1) (n := 1) ⟨hx, hb, hml, hown, hts⟩ hM6 ⟨callB_of _ hts (tk_good_in lwm_140) rfl rfl rfl (hts _ tk_ii_6) (hts _ lwl_140) (by decide +kernel) ⟨Nat.le_of_ble_eq_true rfl, Nat.le_of_ble_eq_true rfl⟩, hts _ lwi_140, hts _ lws_140⟩ ⟨fun a U g mk q => by obtain ⟨q0, qP, qK⟩ := q; exact ⟨q0, qP, va_K.moved (u := U) (U := U.calling g mk a) (Vm.Alike.refl U.vm) qK⟩, va_recv hK hP (ci := 6) (q0 := 29) rfl rfl, fun U hU hW => ⟨rfl, by rw [hU]; exact hP, va_K.moved hW.alike hK⟩⟩ rfl rfl hl.1 rfl (lv_room (Nat.le_of_ble_eq_true rfl)) dl_452 ⟨Nat.le_of_ble_eq_true rfl, Nat.le_of_ble_eq_true rfl⟩) hS (fun _ _ h => h) (fun _ h => h) (fun r2 u2 tr2 H locs ht hvm hr2 hB hz1 hk1 hS => ?_)
  obtain ⟨hP, hw⟩ := hB
  rw [ht] at hP
  obtain ⟨he, hI2⟩ := hr2
  have he : r2 = r := by cases he; rfl
  refine lv_icmp_eq (tgt := 830) hx hb dl_455 (by decide) (fun cc => ?_) (fun cc => ?_)
  · exact hN u2 _ _ ls hI2 hw hP hS hl
  · exact absurd he.symm cc
theorem lwm_106 : te_106 ∈ tk_all := List.mem_of_getElem? (i := 106) rfl
theorem lwl_106 : Cond.methodLink R_law 51 te_106.1 ∈ tk_TB := tkm 357 (by decide +kernel) rfl
theorem lwi_106 : Cond.instanceMethod te_106.1 ∈ tk_TB := tk_tb (tk_w1s (tk_w1 te_106) (List.mem_map.mpr ⟨te_106, lwm_106, rfl⟩)) rfl
theorem lws_106 : Cond.selects te_106.1.cls te_106.1 te_106.1 ∈ tk_TB := tk_tb (tk_w2s (tk_w2 te_106) (List.mem_map.mpr ⟨te_106, lwm_106, rfl⟩)) rfl
theorem lwm_147 : te_147 ∈ tk_all := List.mem_of_getElem? (i := 147) rfl
theorem lwl_147 : Cond.methodLink R_law 54 te_147.1 ∈ tk_TB := tkm 960 (by decide +kernel) rfl
theorem lwi_147 : Cond.instanceMethod te_147.1 ∈ tk_TB := tk_tb (tk_w1s (tk_w1 te_147) (List.mem_map.mpr ⟨te_147, lwm_147, rfl⟩)) rfl
theorem lws_147 : Cond.selects te_147.1.cls te_147.1 te_147.1 ∈ tk_TB := tk_tb (tk_w2s (tk_w2 te_147) (List.mem_map.mpr ⟨te_147, lwm_147, rfl⟩)) rfl
set_option maxHeartbeats 4000000 in
set_option maxRecDepth 100000 in
theorem lc_read {p : Program} {l : Launch} {e : Env} {s : State} {m : MethodId} {below : List Frame} {meth : Method} {c : Code} {D : va_G} {cA : Nat → ClassId} {ad : tkAd} {b L : Nat} {xs : Nat → Int32} (C0 : lw_At p s m meth c b L xs) (hK : va_K D tk_cls (tk_tyl cA) s) (hij : ∀ t ∈ tk_ix, ∀ t' ∈ tk_ix, ad t = ad t' → t = t') (hA : ∀ t ∈ tk_ix, (fun q : Nat => s.heap.size ≤ q) (ad t)) {cn : Nat} (hcn : cn ≤ 600) {x3 : Int32} (hv : ∀ k, k < 6 → vp_in (x3 + nI k) L) {w : tkW} (hI : LawI cn w) (hw : tk_wok w) {H : Heap} {locs : List Loc} (hP : va_P D tk_cls (tk_wl ad cA w) H) (hS : va_S (fun q : Nat => s.heap.size ≤ q) s.heap H locs) {ls : Array Slot} (hl : lv_has ls 4 [(0, .ref b), (1, .ref (ad (5, 0, 0))), (2, .ref (ad (6, 0, 0))), (3, .int x3)]) (hN : ∀ (u : tkW) (H : Heap) (locs : List Loc) (ls : Array Slot), LawI (cn + 1) u → tk_wok u → va_P D tk_cls (tk_wl ad cA u) H → va_S (fun q : Nat => s.heap.size ≤ q) s.heap H locs → lv_has ls 4 [(0, .ref b), (1, .ref (ad (5, 0, 0))), (2, .ref (ad (6, 0, 0))), (3, .int x3)] → W p l e room_1 s m #[Value.ref b] below meth c H locs 47 5982 (lw_Z below #[Value.ref b] s) (F0 m 830 ls [])) : W p l e room_1 s m #[Value.ref b] below meth c H locs 47 5982 (lw_Z below #[Value.ref b] s) (F0 m 460 ls []) := by
  obtain ⟨hx, hb, hr, hml, hown, hts0, hX, hbl, hlocks, hgv⟩ := C0
  have hts : ∀ w ∈ tk_TB, w.before #[Value.ref b] s = true := fun w hw => hts0 w (List.mem_filter.mp hw).1
  have hbA : ¬ (fun q : Nat => s.heap.size ≤ q) b := Nat.not_le.mpr hbl
  obtain ⟨S, z, B, on, T, t, hA1, hC1, hM1⟩ := hI
  obtain ⟨I, J, R⟩ := w
  refine lv_aload_n hx hb dl_460 rfl (lv_at hl 1 rfl) ?_
  have hM5 : Met l te_106.1 (Cond.code te_106.1 te_106.2.1 te_106.2.2.1 te_106.2.2.2.1 :: tk_TB) ({ frames := te_106.2.2.2.2.2.2.2.2.1, cells := 0, slots := 0, locals := te_106.2.2.2.2.2.2.2.2.2.1 }) (va_Pc (.ref (ad (5, 0, 0)) :: []) (fun U => va_P D tk_cls (tk_wl ad cA (I, J, R)) U.heap ∧ va_K D tk_cls (tk_tyl cA) U)) (va_Qi (fun (ra : Int32) (u : tkW) => tkDn tm_147 (0, [some (.inr (.inr (6, 0, 0))), none, none, none], [], u) (Fin cn (some (.inl ra)))) (fun u t => va_P D tk_cls (tk_wl ad cA u) t.heap ∧ tk_wok u) (fun q : Nat => s.heap.size ≤ q)) 0 0 (fun q : Nat => s.heap.size ≤ q) :=
    tk_contract (l := l) (E := te_106) lwm_106 (as := [.inr (.inr (5, 0, 0))]) (w := (I, J, R)) (Q := fun ra u => tkDn tm_147 (0, [some (.inr (.inr (6, 0, 0))), none, none, none], [], u) (Fin cn (ra))) (pr_read hA1 hC1 hM1) (Nat.le_of_ble_eq_true rfl) (vok5 []) hw (D := D) (cA := cA) (ad := ad) (A := (fun q : Nat => s.heap.size ≤ q)) hij hA
  refine va_calli (va_runV (C := te_106.1.cls) (As := []) (rest := []) (bytes := te_106.2.1) (maxL := te_106.2.2.1) (ret := te_106.2.2.2.1) (n := 0) ⟨hx, hb, hml, hown, hts⟩ hM5 ⟨callB_of _ hts (tk_good_in lwm_106) rfl rfl rfl (hts _ tk_ii_5) (hts _ lwl_106) (by decide +kernel) ⟨Nat.le_of_ble_eq_true rfl, Nat.le_of_ble_eq_true rfl⟩, hts _ lwi_106, hts _ lws_106⟩ ⟨fun a U g mk q => by obtain ⟨q0, qP, qK⟩ := q; exact ⟨q0, qP, va_K.moved (u := U) (U := U.calling g mk a) (Vm.Alike.refl U.vm) qK⟩, va_recv hK hP (ci := 5) (q0 := 28) rfl rfl, fun U hU hW => ⟨rfl, by rw [hU]; exact hP, va_K.moved hW.alike hK⟩⟩ rfl rfl hl.1 rfl (lv_room (Nat.le_of_ble_eq_true rfl)) dl_461 ⟨Nat.le_of_ble_eq_true rfl, Nat.le_of_ble_eq_true rfl⟩) hS (fun _ _ h => h) (fun _ h => h) (fun r u tr H locs ht hvm hr hB hz1 hk1 hS => ?_)
  obtain ⟨hP, hw⟩ := hB
  rw [ht] at hP
  refine lv_aload_n hx hb dl_464 rfl (lv_at hl 2 rfl) ?_
  have hM6 : Met l te_147.1 (Cond.code te_147.1 te_147.2.1 te_147.2.2.1 te_147.2.2.2.1 :: tk_TB) ({ frames := te_147.2.2.2.2.2.2.2.2.1, cells := 0, slots := 0, locals := te_147.2.2.2.2.2.2.2.2.2.1 }) (va_Pc (.ref (ad (6, 0, 0)) :: []) (fun U => va_P D tk_cls (tk_wl ad cA u) U.heap ∧ va_K D tk_cls (tk_tyl cA) U)) (va_Qi (fun (ra : Int32) (u : tkW) => Fin cn (some (.inl r)) (some (.inl ra)) u) (fun u t => va_P D tk_cls (tk_wl ad cA u) t.heap ∧ tk_wok u) (fun q : Nat => s.heap.size ≤ q)) 0 0 (fun q : Nat => s.heap.size ≤ q) :=
    tk_contract (l := l) (E := te_147) lwm_147 (as := [.inr (.inr (6, 0, 0))]) (w := u) (Q := fun ra u => Fin cn (some (.inl r)) (ra) u) (hr) (Nat.le_of_ble_eq_true rfl) (vok6 []) hw (D := D) (cA := cA) (ad := ad) (A := (fun q : Nat => s.heap.size ≤ q)) hij hA
  refine va_calli (va_runV (C := te_147.1.cls) (As := []) (rest := [.int r]) (bytes := te_147.2.1) (maxL := te_147.2.2.1) (ret := te_147.2.2.2.1) (n := 0) ⟨hx, hb, hml, hown, hts⟩ hM6 ⟨callB_of _ hts (tk_good_in lwm_147) rfl rfl rfl (hts _ tk_ii_6) (hts _ lwl_147) (by decide +kernel) ⟨Nat.le_of_ble_eq_true rfl, Nat.le_of_ble_eq_true rfl⟩, hts _ lwi_147, hts _ lws_147⟩ ⟨fun a U g mk q => by obtain ⟨q0, qP, qK⟩ := q; exact ⟨q0, qP, va_K.moved (u := U) (U := U.calling g mk a) (Vm.Alike.refl U.vm) qK⟩, va_recv hK hP (ci := 6) (q0 := 29) rfl rfl, fun U hU hW => ⟨rfl, by rw [hU]; exact hP, va_K.moved hW.alike hK⟩⟩ rfl rfl hl.1 rfl (lv_room (Nat.le_of_ble_eq_true rfl)) dl_465 ⟨Nat.le_of_ble_eq_true rfl, Nat.le_of_ble_eq_true rfl⟩) hS (fun _ _ h => h) (fun _ h => h) (fun r2 u2 tr2 H locs ht hvm hr2 hB hz1 hk1 hS => ?_)
  obtain ⟨hP, hw⟩ := hB
  rw [ht] at hP
  obtain ⟨he, hI2⟩ := hr2
  have he : r2 = r := by cases he; rfl
  refine lv_icmp_eq (tgt := 830) hx hb dl_468 (by decide) (fun cc => ?_) (fun cc => ?_)
  · exact hN u2 _ _ ls hI2 hw hP hS hl
  · exact absurd he.symm cc
theorem lwm_107 : te_107 ∈ tk_all := List.mem_of_getElem? (i := 107) rfl
theorem lwl_107 : Cond.methodLink R_law 55 te_107.1 ∈ tk_TB := tkm 399 (by decide +kernel) rfl
theorem lwi_107 : Cond.instanceMethod te_107.1 ∈ tk_TB := tk_tb (tk_w1s (tk_w1 te_107) (List.mem_map.mpr ⟨te_107, lwm_107, rfl⟩)) rfl
theorem lws_107 : Cond.selects te_107.1.cls te_107.1 te_107.1 ∈ tk_TB := tk_tb (tk_w2s (tk_w2 te_107) (List.mem_map.mpr ⟨te_107, lwm_107, rfl⟩)) rfl
theorem lwm_152 : te_152 ∈ tk_all := List.mem_of_getElem? (i := 152) rfl
theorem lwl_152 : Cond.methodLink R_law 58 te_152.1 ∈ tk_TB := tkm 991 (by decide +kernel) rfl
theorem lwi_152 : Cond.instanceMethod te_152.1 ∈ tk_TB := tk_tb (tk_w1s (tk_w1 te_152) (List.mem_map.mpr ⟨te_152, lwm_152, rfl⟩)) rfl
theorem lws_152 : Cond.selects te_152.1.cls te_152.1 te_152.1 ∈ tk_TB := tk_tb (tk_w2s (tk_w2 te_152) (List.mem_map.mpr ⟨te_152, lwm_152, rfl⟩)) rfl
set_option maxHeartbeats 4000000 in
set_option maxRecDepth 100000 in
theorem lc_together {p : Program} {l : Launch} {e : Env} {s : State} {m : MethodId} {below : List Frame} {meth : Method} {c : Code} {D : va_G} {cA : Nat → ClassId} {ad : tkAd} {b L : Nat} {xs : Nat → Int32} (C0 : lw_At p s m meth c b L xs) (hK : va_K D tk_cls (tk_tyl cA) s) (hij : ∀ t ∈ tk_ix, ∀ t' ∈ tk_ix, ad t = ad t' → t = t') (hA : ∀ t ∈ tk_ix, (fun q : Nat => s.heap.size ≤ q) (ad t)) {cn : Nat} (hcn : cn ≤ 600) {x3 : Int32} (hv : ∀ k, k < 6 → vp_in (x3 + nI k) L) {w : tkW} (hI : LawI cn w) (hw : tk_wok w) {H : Heap} {locs : List Loc} (hP : va_P D tk_cls (tk_wl ad cA w) H) (hS : va_S (fun q : Nat => s.heap.size ≤ q) s.heap H locs) {ls : Array Slot} (hl : lv_has ls 4 [(0, .ref b), (1, .ref (ad (5, 0, 0))), (2, .ref (ad (6, 0, 0))), (3, .int x3)]) (hN : ∀ (u : tkW) (H : Heap) (locs : List Loc) (ls : Array Slot), LawI (cn + 1) u → tk_wok u → va_P D tk_cls (tk_wl ad cA u) H → va_S (fun q : Nat => s.heap.size ≤ q) s.heap H locs → lv_has ls 4 [(0, .ref b), (1, .ref (ad (5, 0, 0))), (2, .ref (ad (6, 0, 0))), (3, .int x3)] → W p l e room_1 s m #[Value.ref b] below meth c H locs 47 5982 (lw_Z below #[Value.ref b] s) (F0 m 830 ls [])) : W p l e room_1 s m #[Value.ref b] below meth c H locs 47 5982 (lw_Z below #[Value.ref b] s) (F0 m 473 ls []) := by
  obtain ⟨hx, hb, hr, hml, hown, hts0, hX, hbl, hlocks, hgv⟩ := C0
  have hts : ∀ w ∈ tk_TB, w.before #[Value.ref b] s = true := fun w hw => hts0 w (List.mem_filter.mp hw).1
  have hbA : ¬ (fun q : Nat => s.heap.size ≤ q) b := Nat.not_le.mpr hbl
  obtain ⟨S, z, B, on, T, t, hA1, hC1, hM1⟩ := hI
  obtain ⟨I, J, R⟩ := w
  refine lv_aload_n hx hb dl_473 rfl (lv_at hl 1 rfl) ?_
  have hM5 : Met l te_107.1 (Cond.code te_107.1 te_107.2.1 te_107.2.2.1 te_107.2.2.2.1 :: tk_TB) ({ frames := te_107.2.2.2.2.2.2.2.2.1, cells := 0, slots := 0, locals := te_107.2.2.2.2.2.2.2.2.2.1 }) (va_Pc (.ref (ad (5, 0, 0)) :: []) (fun U => va_P D tk_cls (tk_wl ad cA (I, J, R)) U.heap ∧ va_K D tk_cls (tk_tyl cA) U)) (va_Qi (fun (ra : Int32) (u : tkW) => tkDn tm_152 (0, [some (.inr (.inr (6, 0, 0)))], [], u) (Fin cn (some (.inl ra)))) (fun u t => va_P D tk_cls (tk_wl ad cA u) t.heap ∧ tk_wok u) (fun q : Nat => s.heap.size ≤ q)) 0 0 (fun q : Nat => s.heap.size ≤ q) :=
    tk_contract (l := l) (E := te_107) lwm_107 (as := [.inr (.inr (5, 0, 0))]) (w := (I, J, R)) (Q := fun ra u => tkDn tm_152 (0, [some (.inr (.inr (6, 0, 0)))], [], u) (Fin cn (ra))) (pr_together hA1 hC1 hM1) (Nat.le_of_ble_eq_true rfl) (vok5 []) hw (D := D) (cA := cA) (ad := ad) (A := (fun q : Nat => s.heap.size ≤ q)) hij hA
  refine va_calli (va_runV (C := te_107.1.cls) (As := []) (rest := []) (bytes := te_107.2.1) (maxL := te_107.2.2.1) (ret := te_107.2.2.2.1) (n := 0) ⟨hx, hb, hml, hown, hts⟩ hM5 ⟨callB_of _ hts (tk_good_in lwm_107) rfl rfl rfl (hts _ tk_ii_5) (hts _ lwl_107) (by decide +kernel) ⟨Nat.le_of_ble_eq_true rfl, Nat.le_of_ble_eq_true rfl⟩, hts _ lwi_107, hts _ lws_107⟩ ⟨fun a U g mk q => by obtain ⟨q0, qP, qK⟩ := q; exact ⟨q0, qP, va_K.moved (u := U) (U := U.calling g mk a) (Vm.Alike.refl U.vm) qK⟩, va_recv hK hP (ci := 5) (q0 := 28) rfl rfl, fun U hU hW => ⟨rfl, by rw [hU]; exact hP, va_K.moved hW.alike hK⟩⟩ rfl rfl hl.1 rfl (lv_room (Nat.le_of_ble_eq_true rfl)) dl_474 ⟨Nat.le_of_ble_eq_true rfl, Nat.le_of_ble_eq_true rfl⟩) hS (fun _ _ h => h) (fun _ h => h) (fun r u tr H locs ht hvm hr hB hz1 hk1 hS => ?_)
  obtain ⟨hP, hw⟩ := hB
  rw [ht] at hP
  refine lv_aload_n hx hb dl_477 rfl (lv_at hl 2 rfl) ?_
  have hM6 : Met l te_152.1 (Cond.code te_152.1 te_152.2.1 te_152.2.2.1 te_152.2.2.2.1 :: tk_TB) ({ frames := te_152.2.2.2.2.2.2.2.2.1, cells := 0, slots := 0, locals := te_152.2.2.2.2.2.2.2.2.2.1 }) (va_Pc (.ref (ad (6, 0, 0)) :: []) (fun U => va_P D tk_cls (tk_wl ad cA u) U.heap ∧ va_K D tk_cls (tk_tyl cA) U)) (va_Qi (fun (ra : Int32) (u : tkW) => Fin cn (some (.inl r)) (some (.inl ra)) u) (fun u t => va_P D tk_cls (tk_wl ad cA u) t.heap ∧ tk_wok u) (fun q : Nat => s.heap.size ≤ q)) 0 0 (fun q : Nat => s.heap.size ≤ q) :=
    tk_contract (l := l) (E := te_152) lwm_152 (as := [.inr (.inr (6, 0, 0))]) (w := u) (Q := fun ra u => Fin cn (some (.inl r)) (ra) u) (hr) (Nat.le_of_ble_eq_true rfl) (vok6 []) hw (D := D) (cA := cA) (ad := ad) (A := (fun q : Nat => s.heap.size ≤ q)) hij hA
  refine va_calli (va_runV (C := te_152.1.cls) (As := []) (rest := [.int r]) (bytes := te_152.2.1) (maxL := te_152.2.2.1) (ret := te_152.2.2.2.1) (n := 0) ⟨hx, hb, hml, hown, hts⟩ hM6 ⟨callB_of _ hts (tk_good_in lwm_152) rfl rfl rfl (hts _ tk_ii_6) (hts _ lwl_152) (by decide +kernel) ⟨Nat.le_of_ble_eq_true rfl, Nat.le_of_ble_eq_true rfl⟩, hts _ lwi_152, hts _ lws_152⟩ ⟨fun a U g mk q => by obtain ⟨q0, qP, qK⟩ := q; exact ⟨q0, qP, va_K.moved (u := U) (U := U.calling g mk a) (Vm.Alike.refl U.vm) qK⟩, va_recv hK hP (ci := 6) (q0 := 29) rfl rfl, fun U hU hW => ⟨rfl, by rw [hU]; exact hP, va_K.moved hW.alike hK⟩⟩ rfl rfl hl.1 rfl (lv_room (Nat.le_of_ble_eq_true rfl)) dl_478 ⟨Nat.le_of_ble_eq_true rfl, Nat.le_of_ble_eq_true rfl⟩) hS (fun _ _ h => h) (fun _ h => h) (fun r2 u2 tr2 H locs ht hvm hr2 hB hz1 hk1 hS => ?_)
  obtain ⟨hP, hw⟩ := hB
  rw [ht] at hP
  obtain ⟨he, hI2⟩ := hr2
  have he : r2 = r := by cases he; rfl
  refine lv_icmp_eq (tgt := 830) hx hb dl_481 (by decide) (fun cc => ?_) (fun cc => ?_)
  · exact hN u2 _ _ ls hI2 hw hP hS hl
  · exact absurd he.symm cc
theorem lwm_108 : te_108 ∈ tk_all := List.mem_of_getElem? (i := 108) rfl
theorem lwl_108 : Cond.methodLink R_law 59 te_108.1 ∈ tk_TB := tkm 456 (by decide +kernel) rfl
theorem lwi_108 : Cond.instanceMethod te_108.1 ∈ tk_TB := tk_tb (tk_w1s (tk_w1 te_108) (List.mem_map.mpr ⟨te_108, lwm_108, rfl⟩)) rfl
theorem lws_108 : Cond.selects te_108.1.cls te_108.1 te_108.1 ∈ tk_TB := tk_tb (tk_w2s (tk_w2 te_108) (List.mem_map.mpr ⟨te_108, lwm_108, rfl⟩)) rfl
theorem lwm_153 : te_153 ∈ tk_all := List.mem_of_getElem? (i := 153) rfl
theorem lwl_153 : Cond.methodLink R_law 63 te_153.1 ∈ tk_TB := tkm 1012 (by decide +kernel) rfl
theorem lwi_153 : Cond.instanceMethod te_153.1 ∈ tk_TB := tk_tb (tk_w1s (tk_w1 te_153) (List.mem_map.mpr ⟨te_153, lwm_153, rfl⟩)) rfl
theorem lws_153 : Cond.selects te_153.1.cls te_153.1 te_153.1 ∈ tk_TB := tk_tb (tk_w2s (tk_w2 te_153) (List.mem_map.mpr ⟨te_153, lwm_153, rfl⟩)) rfl
set_option maxHeartbeats 4000000 in
set_option maxRecDepth 100000 in
theorem lc_distance {p : Program} {l : Launch} {e : Env} {s : State} {m : MethodId} {below : List Frame} {meth : Method} {c : Code} {D : va_G} {cA : Nat → ClassId} {ad : tkAd} {b L : Nat} {xs : Nat → Int32} (C0 : lw_At p s m meth c b L xs) (hK : va_K D tk_cls (tk_tyl cA) s) (hij : ∀ t ∈ tk_ix, ∀ t' ∈ tk_ix, ad t = ad t' → t = t') (hA : ∀ t ∈ tk_ix, (fun q : Nat => s.heap.size ≤ q) (ad t)) {cn : Nat} (hcn : cn ≤ 600) {x3 : Int32} (hv : ∀ k, k < 6 → vp_in (x3 + nI k) L) {w : tkW} (hI : LawI cn w) (hw : tk_wok w) {H : Heap} {locs : List Loc} (hP : va_P D tk_cls (tk_wl ad cA w) H) (hS : va_S (fun q : Nat => s.heap.size ≤ q) s.heap H locs) {ls : Array Slot} (hl : lv_has ls 4 [(0, .ref b), (1, .ref (ad (5, 0, 0))), (2, .ref (ad (6, 0, 0))), (3, .int x3)]) (hN : ∀ (u : tkW) (H : Heap) (locs : List Loc) (ls : Array Slot), LawI (cn + 1) u → tk_wok u → va_P D tk_cls (tk_wl ad cA u) H → va_S (fun q : Nat => s.heap.size ≤ q) s.heap H locs → lv_has ls 4 [(0, .ref b), (1, .ref (ad (5, 0, 0))), (2, .ref (ad (6, 0, 0))), (3, .int x3)] → W p l e room_1 s m #[Value.ref b] below meth c H locs 47 5982 (lw_Z below #[Value.ref b] s) (F0 m 830 ls [])) : W p l e room_1 s m #[Value.ref b] below meth c H locs 47 5982 (lw_Z below #[Value.ref b] s) (F0 m 486 ls []) := by
  obtain ⟨hx, hb, hr, hml, hown, hts0, hX, hbl, hlocks, hgv⟩ := C0
  have hts : ∀ w ∈ tk_TB, w.before #[Value.ref b] s = true := fun w hw => hts0 w (List.mem_filter.mp hw).1
  have hbA : ¬ (fun q : Nat => s.heap.size ≤ q) b := Nat.not_le.mpr hbl
  obtain ⟨S, z, B, on, T, t, hA1, hC1, hM1⟩ := hI
  obtain ⟨I, J, R⟩ := w
  refine lv_aload_n hx hb dl_486 rfl (lv_at hl 1 rfl) ?_
  refine lv_aload_n hx hb dl_487 rfl (lv_at hl 0 rfl) ?_
  refine lv_iload_n hx hb dl_488 rfl (lv_at hl 3 rfl) ?_
  refine lv_iconst (v := 1) hx hb dl_489 (by decide) ?_
  refine lv_iadd hx hb dl_490 ?_
  refine va_sld hx hb hX hbl hbA hS (show vp_in (x3 + 1) L from hv 1 (by decide)) dl_491 ?_
  refine lv_aload_n hx hb dl_492 rfl (lv_at hl 0 rfl) ?_
  refine lv_iload_n hx hb dl_493 rfl (lv_at hl 3 rfl) ?_
  refine lv_iconst (v := 2) hx hb dl_494 (by decide) ?_
  refine lv_iadd hx hb dl_495 ?_
  refine va_sld hx hb hX hbl hbA hS (show vp_in (x3 + 2) L from hv 2 (by decide)) dl_496 ?_
  have hM5 : Met l te_108.1 (Cond.code te_108.1 te_108.2.1 te_108.2.2.1 te_108.2.2.2.1 :: tk_TB) ({ frames := te_108.2.2.2.2.2.2.2.2.1, cells := 0, slots := 0, locals := te_108.2.2.2.2.2.2.2.2.2.1 }) (va_Pc (.ref (ad (5, 0, 0)) :: [.int (xs (x3 + 1).toNatClampNeg), .int (xs (x3 + 2).toNatClampNeg)]) (fun U => va_P D tk_cls (tk_wl ad cA (I, J, R)) U.heap ∧ va_K D tk_cls (tk_tyl cA) U)) (va_Ql (fun (ra : Int64) (u : tkW) => tkDn tm_153 (0, [some (.inr (.inr (6, 0, 0))), some (.inl (xs (x3 + 1).toNatClampNeg)), some (.inl (xs (x3 + 2).toNatClampNeg))], [], u) (Fin cn (some (.inr (.inl ra))))) (fun u t => va_P D tk_cls (tk_wl ad cA u) t.heap ∧ tk_wok u) (fun q : Nat => s.heap.size ≤ q)) 0 0 (fun q : Nat => s.heap.size ≤ q) :=
    tk_contract (l := l) (E := te_108) lwm_108 (as := [.inr (.inr (5, 0, 0)), .inl (xs (x3 + 1).toNatClampNeg), .inl (xs (x3 + 2).toNatClampNeg)]) (w := (I, J, R)) (Q := fun ra u => tkDn tm_153 (0, [some (.inr (.inr (6, 0, 0))), some (.inl (xs (x3 + 1).toNatClampNeg)), some (.inl (xs (x3 + 2).toNatClampNeg))], [], u) (Fin cn (ra))) (pr_distance hA1 hC1 hM1) (Nat.le_of_ble_eq_true rfl) (vok5 [xs (x3 + 1).toNatClampNeg, xs (x3 + 2).toNatClampNeg]) hw (D := D) (cA := cA) (ad := ad) (A := (fun q : Nat => s.heap.size ≤ q)) hij hA
  refine va_calll (va_runV (C := te_108.1.cls) (As := [.int (xs (x3 + 1).toNatClampNeg), .int (xs (x3 + 2).toNatClampNeg)]) (rest := []) (bytes := te_108.2.1) (maxL := te_108.2.2.1) (ret := te_108.2.2.2.1) (n := 2) ⟨hx, hb, hml, hown, hts⟩ hM5 ⟨callB_of _ hts (tk_good_in lwm_108) rfl rfl rfl (hts _ tk_ii_5) (hts _ lwl_108) (by decide +kernel) ⟨Nat.le_of_ble_eq_true rfl, Nat.le_of_ble_eq_true rfl⟩, hts _ lwi_108, hts _ lws_108⟩ ⟨fun a U g mk q => by obtain ⟨q0, qP, qK⟩ := q; exact ⟨q0, qP, va_K.moved (u := U) (U := U.calling g mk a) (Vm.Alike.refl U.vm) qK⟩, va_recv hK hP (ci := 5) (q0 := 28) rfl rfl, fun U hU hW => ⟨rfl, by rw [hU]; exact hP, va_K.moved hW.alike hK⟩⟩ rfl rfl hl.1 rfl (lv_room (Nat.le_of_ble_eq_true rfl)) dl_497 ⟨Nat.le_of_ble_eq_true rfl, Nat.le_of_ble_eq_true rfl⟩) hS (fun _ _ h => h) (fun _ h => h) (fun r u tr H locs ht hvm hr hB hz1 hk1 hS => ?_)
  obtain ⟨hP, hw⟩ := hB
  rw [ht] at hP
  refine lv_aload_n hx hb dl_500 rfl (lv_at hl 2 rfl) ?_
  refine lv_aload_n hx hb dl_501 rfl (lv_at hl 0 rfl) ?_
  refine lv_iload_n hx hb dl_502 rfl (lv_at hl 3 rfl) ?_
  refine lv_iconst (v := 1) hx hb dl_503 (by decide) ?_
  refine lv_iadd hx hb dl_504 ?_
  refine va_sld hx hb hX hbl hbA hS (show vp_in (x3 + 1) L from hv 1 (by decide)) dl_505 ?_
  refine lv_aload_n hx hb dl_506 rfl (lv_at hl 0 rfl) ?_
  refine lv_iload_n hx hb dl_507 rfl (lv_at hl 3 rfl) ?_
  refine lv_iconst (v := 2) hx hb dl_508 (by decide) ?_
  refine lv_iadd hx hb dl_509 ?_
  refine va_sld hx hb hX hbl hbA hS (show vp_in (x3 + 2) L from hv 2 (by decide)) dl_510 ?_
  have hM6 : Met l te_153.1 (Cond.code te_153.1 te_153.2.1 te_153.2.2.1 te_153.2.2.2.1 :: tk_TB) ({ frames := te_153.2.2.2.2.2.2.2.2.1, cells := 0, slots := 0, locals := te_153.2.2.2.2.2.2.2.2.2.1 }) (va_Pc (.ref (ad (6, 0, 0)) :: [.int (xs (x3 + 1).toNatClampNeg), .int (xs (x3 + 2).toNatClampNeg)]) (fun U => va_P D tk_cls (tk_wl ad cA u) U.heap ∧ va_K D tk_cls (tk_tyl cA) U)) (va_Ql (fun (ra : Int64) (u : tkW) => Fin cn (some (.inr (.inl r))) (some (.inr (.inl ra))) u) (fun u t => va_P D tk_cls (tk_wl ad cA u) t.heap ∧ tk_wok u) (fun q : Nat => s.heap.size ≤ q)) 0 0 (fun q : Nat => s.heap.size ≤ q) :=
    tk_contract (l := l) (E := te_153) lwm_153 (as := [.inr (.inr (6, 0, 0)), .inl (xs (x3 + 1).toNatClampNeg), .inl (xs (x3 + 2).toNatClampNeg)]) (w := u) (Q := fun ra u => Fin cn (some (.inr (.inl r))) (ra) u) (hr) (Nat.le_of_ble_eq_true rfl) (vok6 [xs (x3 + 1).toNatClampNeg, xs (x3 + 2).toNatClampNeg]) hw (D := D) (cA := cA) (ad := ad) (A := (fun q : Nat => s.heap.size ≤ q)) hij hA
  refine va_calll (va_runV (C := te_153.1.cls) (As := [.int (xs (x3 + 1).toNatClampNeg), .int (xs (x3 + 2).toNatClampNeg)]) (rest := [.long r]) (bytes := te_153.2.1) (maxL := te_153.2.2.1) (ret := te_153.2.2.2.1) (n := 2) ⟨hx, hb, hml, hown, hts⟩ hM6 ⟨callB_of _ hts (tk_good_in lwm_153) rfl rfl rfl (hts _ tk_ii_6) (hts _ lwl_153) (by decide +kernel) ⟨Nat.le_of_ble_eq_true rfl, Nat.le_of_ble_eq_true rfl⟩, hts _ lwi_153, hts _ lws_153⟩ ⟨fun a U g mk q => by obtain ⟨q0, qP, qK⟩ := q; exact ⟨q0, qP, va_K.moved (u := U) (U := U.calling g mk a) (Vm.Alike.refl U.vm) qK⟩, va_recv hK hP (ci := 6) (q0 := 29) rfl rfl, fun U hU hW => ⟨rfl, by rw [hU]; exact hP, va_K.moved hW.alike hK⟩⟩ rfl rfl hl.1 rfl (lv_room (Nat.le_of_ble_eq_true rfl)) dl_511 ⟨Nat.le_of_ble_eq_true rfl, Nat.le_of_ble_eq_true rfl⟩) hS (fun _ _ h => h) (fun _ h => h) (fun r2 u2 tr2 H locs ht hvm hr2 hB hz1 hk1 hS => ?_)
  obtain ⟨hP, hw⟩ := hB
  rw [ht] at hP
  obtain ⟨he, hI2⟩ := hr2
  have he : r2 = r := by cases he; rfl
  refine W.lcmp hx hb dl_514 ?_
  refine lv_if_eq (tgt := 830) hx hb dl_515 (by decide) (fun cc => ?_) (fun cc => ?_)
  · exact hN u2 _ _ ls hI2 hw hP hS hl
  · exact absurd ((lg_cmp_eq _ _).mpr he.symm) cc
theorem lwm_109 : te_109 ∈ tk_all := List.mem_of_getElem? (i := 109) rfl
theorem lwl_109 : Cond.methodLink R_law 64 te_109.1 ∈ tk_TB := tkm 466 (by decide +kernel) rfl
theorem lwi_109 : Cond.instanceMethod te_109.1 ∈ tk_TB := tk_tb (tk_w1s (tk_w1 te_109) (List.mem_map.mpr ⟨te_109, lwm_109, rfl⟩)) rfl
theorem lws_109 : Cond.selects te_109.1.cls te_109.1 te_109.1 ∈ tk_TB := tk_tb (tk_w2s (tk_w2 te_109) (List.mem_map.mpr ⟨te_109, lwm_109, rfl⟩)) rfl
theorem lwm_156 : te_156 ∈ tk_all := List.mem_of_getElem? (i := 156) rfl
theorem lwl_156 : Cond.methodLink R_law 67 te_156.1 ∈ tk_TB := tkm 1017 (by decide +kernel) rfl
theorem lwi_156 : Cond.instanceMethod te_156.1 ∈ tk_TB := tk_tb (tk_w1s (tk_w1 te_156) (List.mem_map.mpr ⟨te_156, lwm_156, rfl⟩)) rfl
theorem lws_156 : Cond.selects te_156.1.cls te_156.1 te_156.1 ∈ tk_TB := tk_tb (tk_w2s (tk_w2 te_156) (List.mem_map.mpr ⟨te_156, lwm_156, rfl⟩)) rfl
set_option maxHeartbeats 4000000 in
set_option maxRecDepth 100000 in
theorem lc_strong {p : Program} {l : Launch} {e : Env} {s : State} {m : MethodId} {below : List Frame} {meth : Method} {c : Code} {D : va_G} {cA : Nat → ClassId} {ad : tkAd} {b L : Nat} {xs : Nat → Int32} (C0 : lw_At p s m meth c b L xs) (hK : va_K D tk_cls (tk_tyl cA) s) (hij : ∀ t ∈ tk_ix, ∀ t' ∈ tk_ix, ad t = ad t' → t = t') (hA : ∀ t ∈ tk_ix, (fun q : Nat => s.heap.size ≤ q) (ad t)) {cn : Nat} (hcn : cn ≤ 600) {x3 : Int32} (hv : ∀ k, k < 6 → vp_in (x3 + nI k) L) {w : tkW} (hI : LawI cn w) (hw : tk_wok w) {H : Heap} {locs : List Loc} (hP : va_P D tk_cls (tk_wl ad cA w) H) (hS : va_S (fun q : Nat => s.heap.size ≤ q) s.heap H locs) {ls : Array Slot} (hl : lv_has ls 4 [(0, .ref b), (1, .ref (ad (5, 0, 0))), (2, .ref (ad (6, 0, 0))), (3, .int x3)]) (hN : ∀ (u : tkW) (H : Heap) (locs : List Loc) (ls : Array Slot), LawI (cn + 1) u → tk_wok u → va_P D tk_cls (tk_wl ad cA u) H → va_S (fun q : Nat => s.heap.size ≤ q) s.heap H locs → lv_has ls 4 [(0, .ref b), (1, .ref (ad (5, 0, 0))), (2, .ref (ad (6, 0, 0))), (3, .int x3)] → W p l e room_1 s m #[Value.ref b] below meth c H locs 47 5982 (lw_Z below #[Value.ref b] s) (F0 m 830 ls [])) : W p l e room_1 s m #[Value.ref b] below meth c H locs 47 5982 (lw_Z below #[Value.ref b] s) (F0 m 520 ls []) := by
  obtain ⟨hx, hb, hr, hml, hown, hts0, hX, hbl, hlocks, hgv⟩ := C0
  have hts : ∀ w ∈ tk_TB, w.before #[Value.ref b] s = true := fun w hw => hts0 w (List.mem_filter.mp hw).1
  have hbA : ¬ (fun q : Nat => s.heap.size ≤ q) b := Nat.not_le.mpr hbl
  obtain ⟨S, z, B, on, T, t, hA1, hC1, hM1⟩ := hI
  obtain ⟨I, J, R⟩ := w
  refine lv_aload_n hx hb dl_520 rfl (lv_at hl 1 rfl) ?_
  have hM5 : Met l te_109.1 (Cond.code te_109.1 te_109.2.1 te_109.2.2.1 te_109.2.2.2.1 :: tk_TB) ({ frames := te_109.2.2.2.2.2.2.2.2.1, cells := 0, slots := 0, locals := te_109.2.2.2.2.2.2.2.2.2.1 }) (va_Pc (.ref (ad (5, 0, 0)) :: []) (fun U => va_P D tk_cls (tk_wl ad cA (I, J, R)) U.heap ∧ va_K D tk_cls (tk_tyl cA) U)) (va_Qi (fun (ra : Int32) (u : tkW) => tkDn tm_156 (0, [some (.inr (.inr (6, 0, 0))), none, none, none, none, none, none, none, none, none, none], [], u) (Fin cn (some (.inl ra)))) (fun u t => va_P D tk_cls (tk_wl ad cA u) t.heap ∧ tk_wok u) (fun q : Nat => s.heap.size ≤ q)) 0 0 (fun q : Nat => s.heap.size ≤ q) :=
    tk_contract (l := l) (E := te_109) lwm_109 (as := [.inr (.inr (5, 0, 0))]) (w := (I, J, R)) (Q := fun ra u => tkDn tm_156 (0, [some (.inr (.inr (6, 0, 0))), none, none, none, none, none, none, none, none, none, none], [], u) (Fin cn (ra))) (pr_strong hA1 hC1 hM1) (Nat.le_of_ble_eq_true rfl) (vok5 []) hw (D := D) (cA := cA) (ad := ad) (A := (fun q : Nat => s.heap.size ≤ q)) hij hA
  refine va_calli (va_runV (C := te_109.1.cls) (As := []) (rest := []) (bytes := te_109.2.1) (maxL := te_109.2.2.1) (ret := te_109.2.2.2.1) (n := 0) ⟨hx, hb, hml, hown, hts⟩ hM5 ⟨callB_of _ hts (tk_good_in lwm_109) rfl rfl rfl (hts _ tk_ii_5) (hts _ lwl_109) (by decide +kernel) ⟨Nat.le_of_ble_eq_true rfl, Nat.le_of_ble_eq_true rfl⟩, hts _ lwi_109, hts _ lws_109⟩ ⟨fun a U g mk q => by obtain ⟨q0, qP, qK⟩ := q; exact ⟨q0, qP, va_K.moved (u := U) (U := U.calling g mk a) (Vm.Alike.refl U.vm) qK⟩, va_recv hK hP (ci := 5) (q0 := 28) rfl rfl, fun U hU hW => ⟨rfl, by rw [hU]; exact hP, va_K.moved hW.alike hK⟩⟩ rfl rfl hl.1 rfl (lv_room (Nat.le_of_ble_eq_true rfl)) dl_521 ⟨Nat.le_of_ble_eq_true rfl, Nat.le_of_ble_eq_true rfl⟩) hS (fun _ _ h => h) (fun _ h => h) (fun r u tr H locs ht hvm hr hB hz1 hk1 hS => ?_)
  obtain ⟨hP, hw⟩ := hB
  rw [ht] at hP
  refine lv_aload_n hx hb dl_524 rfl (lv_at hl 2 rfl) ?_
  have hM6 : Met l te_156.1 (Cond.code te_156.1 te_156.2.1 te_156.2.2.1 te_156.2.2.2.1 :: tk_TB) ({ frames := te_156.2.2.2.2.2.2.2.2.1, cells := 0, slots := 0, locals := te_156.2.2.2.2.2.2.2.2.2.1 }) (va_Pc (.ref (ad (6, 0, 0)) :: []) (fun U => va_P D tk_cls (tk_wl ad cA u) U.heap ∧ va_K D tk_cls (tk_tyl cA) U)) (va_Qi (fun (ra : Int32) (u : tkW) => Fin cn (some (.inl r)) (some (.inl ra)) u) (fun u t => va_P D tk_cls (tk_wl ad cA u) t.heap ∧ tk_wok u) (fun q : Nat => s.heap.size ≤ q)) 0 0 (fun q : Nat => s.heap.size ≤ q) :=
    tk_contract (l := l) (E := te_156) lwm_156 (as := [.inr (.inr (6, 0, 0))]) (w := u) (Q := fun ra u => Fin cn (some (.inl r)) (ra) u) (hr) (Nat.le_of_ble_eq_true rfl) (vok6 []) hw (D := D) (cA := cA) (ad := ad) (A := (fun q : Nat => s.heap.size ≤ q)) hij hA
  refine va_calli (va_runV (C := te_156.1.cls) (As := []) (rest := [.int r]) (bytes := te_156.2.1) (maxL := te_156.2.2.1) (ret := te_156.2.2.2.1) (n := 0) ⟨hx, hb, hml, hown, hts⟩ hM6 ⟨callB_of _ hts (tk_good_in lwm_156) rfl rfl rfl (hts _ tk_ii_6) (hts _ lwl_156) (by decide +kernel) ⟨Nat.le_of_ble_eq_true rfl, Nat.le_of_ble_eq_true rfl⟩, hts _ lwi_156, hts _ lws_156⟩ ⟨fun a U g mk q => by obtain ⟨q0, qP, qK⟩ := q; exact ⟨q0, qP, va_K.moved (u := U) (U := U.calling g mk a) (Vm.Alike.refl U.vm) qK⟩, va_recv hK hP (ci := 6) (q0 := 29) rfl rfl, fun U hU hW => ⟨rfl, by rw [hU]; exact hP, va_K.moved hW.alike hK⟩⟩ rfl rfl hl.1 rfl (lv_room (Nat.le_of_ble_eq_true rfl)) dl_525 ⟨Nat.le_of_ble_eq_true rfl, Nat.le_of_ble_eq_true rfl⟩) hS (fun _ _ h => h) (fun _ h => h) (fun r2 u2 tr2 H locs ht hvm hr2 hB hz1 hk1 hS => ?_)
  obtain ⟨hP, hw⟩ := hB
  rw [ht] at hP
  obtain ⟨he, hI2⟩ := hr2
  have he : r2 = r := by cases he; rfl
  refine lv_icmp_eq (tgt := 830) hx hb dl_528 (by decide) (fun cc => ?_) (fun cc => ?_)
  · exact hN u2 _ _ ls hI2 hw hP hS hl
  · exact absurd he.symm cc
theorem lwm_110 : te_110 ∈ tk_all := List.mem_of_getElem? (i := 110) rfl
theorem lwl_110 : Cond.methodLink R_law 68 te_110.1 ∈ tk_TB := tkm 513 (by decide +kernel) rfl
theorem lwi_110 : Cond.instanceMethod te_110.1 ∈ tk_TB := tk_tb (tk_w1s (tk_w1 te_110) (List.mem_map.mpr ⟨te_110, lwm_110, rfl⟩)) rfl
theorem lws_110 : Cond.selects te_110.1.cls te_110.1 te_110.1 ∈ tk_TB := tk_tb (tk_w2s (tk_w2 te_110) (List.mem_map.mpr ⟨te_110, lwm_110, rfl⟩)) rfl
theorem lwm_158 : te_158 ∈ tk_all := List.mem_of_getElem? (i := 158) rfl
theorem lwl_158 : Cond.methodLink R_law 71 te_158.1 ∈ tk_TB := tkm 1029 (by decide +kernel) rfl
theorem lwi_158 : Cond.instanceMethod te_158.1 ∈ tk_TB := tk_tb (tk_w1s (tk_w1 te_158) (List.mem_map.mpr ⟨te_158, lwm_158, rfl⟩)) rfl
theorem lws_158 : Cond.selects te_158.1.cls te_158.1 te_158.1 ∈ tk_TB := tk_tb (tk_w2s (tk_w2 te_158) (List.mem_map.mpr ⟨te_158, lwm_158, rfl⟩)) rfl
set_option maxHeartbeats 4000000 in
set_option maxRecDepth 100000 in
theorem lc_weak {p : Program} {l : Launch} {e : Env} {s : State} {m : MethodId} {below : List Frame} {meth : Method} {c : Code} {D : va_G} {cA : Nat → ClassId} {ad : tkAd} {b L : Nat} {xs : Nat → Int32} (C0 : lw_At p s m meth c b L xs) (hK : va_K D tk_cls (tk_tyl cA) s) (hij : ∀ t ∈ tk_ix, ∀ t' ∈ tk_ix, ad t = ad t' → t = t') (hA : ∀ t ∈ tk_ix, (fun q : Nat => s.heap.size ≤ q) (ad t)) {cn : Nat} (hcn : cn ≤ 600) {x3 : Int32} (hv : ∀ k, k < 6 → vp_in (x3 + nI k) L) {w : tkW} (hI : LawI cn w) (hw : tk_wok w) {H : Heap} {locs : List Loc} (hP : va_P D tk_cls (tk_wl ad cA w) H) (hS : va_S (fun q : Nat => s.heap.size ≤ q) s.heap H locs) {ls : Array Slot} (hl : lv_has ls 4 [(0, .ref b), (1, .ref (ad (5, 0, 0))), (2, .ref (ad (6, 0, 0))), (3, .int x3)]) (hN : ∀ (u : tkW) (H : Heap) (locs : List Loc) (ls : Array Slot), LawI (cn + 1) u → tk_wok u → va_P D tk_cls (tk_wl ad cA u) H → va_S (fun q : Nat => s.heap.size ≤ q) s.heap H locs → lv_has ls 4 [(0, .ref b), (1, .ref (ad (5, 0, 0))), (2, .ref (ad (6, 0, 0))), (3, .int x3)] → W p l e room_1 s m #[Value.ref b] below meth c H locs 47 5982 (lw_Z below #[Value.ref b] s) (F0 m 830 ls [])) : W p l e room_1 s m #[Value.ref b] below meth c H locs 47 5982 (lw_Z below #[Value.ref b] s) (F0 m 533 ls []) := by
  obtain ⟨hx, hb, hr, hml, hown, hts0, hX, hbl, hlocks, hgv⟩ := C0
  have hts : ∀ w ∈ tk_TB, w.before #[Value.ref b] s = true := fun w hw => hts0 w (List.mem_filter.mp hw).1
  have hbA : ¬ (fun q : Nat => s.heap.size ≤ q) b := Nat.not_le.mpr hbl
  obtain ⟨S, z, B, on, T, t, hA1, hC1, hM1⟩ := hI
  obtain ⟨I, J, R⟩ := w
  refine lv_aload_n hx hb dl_533 rfl (lv_at hl 1 rfl) ?_
  have hM5 : Met l te_110.1 (Cond.code te_110.1 te_110.2.1 te_110.2.2.1 te_110.2.2.2.1 :: tk_TB) ({ frames := te_110.2.2.2.2.2.2.2.2.1, cells := 0, slots := 0, locals := te_110.2.2.2.2.2.2.2.2.2.1 }) (va_Pc (.ref (ad (5, 0, 0)) :: []) (fun U => va_P D tk_cls (tk_wl ad cA (I, J, R)) U.heap ∧ va_K D tk_cls (tk_tyl cA) U)) (va_Qi (fun (ra : Int32) (u : tkW) => tkDn tm_158 (0, [some (.inr (.inr (6, 0, 0)))], [], u) (Fin cn (some (.inl ra)))) (fun u t => va_P D tk_cls (tk_wl ad cA u) t.heap ∧ tk_wok u) (fun q : Nat => s.heap.size ≤ q)) 0 0 (fun q : Nat => s.heap.size ≤ q) :=
    tk_contract (l := l) (E := te_110) lwm_110 (as := [.inr (.inr (5, 0, 0))]) (w := (I, J, R)) (Q := fun ra u => tkDn tm_158 (0, [some (.inr (.inr (6, 0, 0)))], [], u) (Fin cn (ra))) (pr_weak hA1 hC1 hM1) (Nat.le_of_ble_eq_true rfl) (vok5 []) hw (D := D) (cA := cA) (ad := ad) (A := (fun q : Nat => s.heap.size ≤ q)) hij hA
  refine va_calli (va_runV (C := te_110.1.cls) (As := []) (rest := []) (bytes := te_110.2.1) (maxL := te_110.2.2.1) (ret := te_110.2.2.2.1) (n := 0) ⟨hx, hb, hml, hown, hts⟩ hM5 ⟨callB_of _ hts (tk_good_in lwm_110) rfl rfl rfl (hts _ tk_ii_5) (hts _ lwl_110) (by decide +kernel) ⟨Nat.le_of_ble_eq_true rfl, Nat.le_of_ble_eq_true rfl⟩, hts _ lwi_110, hts _ lws_110⟩ ⟨fun a U g mk q => by obtain ⟨q0, qP, qK⟩ := q; exact ⟨q0, qP, va_K.moved (u := U) (U := U.calling g mk a) (Vm.Alike.refl U.vm) qK⟩, va_recv hK hP (ci := 5) (q0 := 28) rfl rfl, fun U hU hW => ⟨rfl, by rw [hU]; exact hP, va_K.moved hW.alike hK⟩⟩ rfl rfl hl.1 rfl (lv_room (Nat.le_of_ble_eq_true rfl)) dl_534 ⟨Nat.le_of_ble_eq_true rfl, Nat.le_of_ble_eq_true rfl⟩) hS (fun _ _ h => h) (fun _ h => h) (fun r u tr H locs ht hvm hr hB hz1 hk1 hS => ?_)
  obtain ⟨hP, hw⟩ := hB
  rw [ht] at hP
  refine lv_aload_n hx hb dl_537 rfl (lv_at hl 2 rfl) ?_
  have hM6 : Met l te_158.1 (Cond.code te_158.1 te_158.2.1 te_158.2.2.1 te_158.2.2.2.1 :: tk_TB) ({ frames := te_158.2.2.2.2.2.2.2.2.1, cells := 0, slots := 0, locals := te_158.2.2.2.2.2.2.2.2.2.1 }) (va_Pc (.ref (ad (6, 0, 0)) :: []) (fun U => va_P D tk_cls (tk_wl ad cA u) U.heap ∧ va_K D tk_cls (tk_tyl cA) U)) (va_Qi (fun (ra : Int32) (u : tkW) => Fin cn (some (.inl r)) (some (.inl ra)) u) (fun u t => va_P D tk_cls (tk_wl ad cA u) t.heap ∧ tk_wok u) (fun q : Nat => s.heap.size ≤ q)) 0 0 (fun q : Nat => s.heap.size ≤ q) :=
    tk_contract (l := l) (E := te_158) lwm_158 (as := [.inr (.inr (6, 0, 0))]) (w := u) (Q := fun ra u => Fin cn (some (.inl r)) (ra) u) (hr) (Nat.le_of_ble_eq_true rfl) (vok6 []) hw (D := D) (cA := cA) (ad := ad) (A := (fun q : Nat => s.heap.size ≤ q)) hij hA
  refine va_calli (va_runV (C := te_158.1.cls) (As := []) (rest := [.int r]) (bytes := te_158.2.1) (maxL := te_158.2.2.1) (ret := te_158.2.2.2.1) (n := 0) ⟨hx, hb, hml, hown, hts⟩ hM6 ⟨callB_of _ hts (tk_good_in lwm_158) rfl rfl rfl (hts _ tk_ii_6) (hts _ lwl_158) (by decide +kernel) ⟨Nat.le_of_ble_eq_true rfl, Nat.le_of_ble_eq_true rfl⟩, hts _ lwi_158, hts _ lws_158⟩ ⟨fun a U g mk q => by obtain ⟨q0, qP, qK⟩ := q; exact ⟨q0, qP, va_K.moved (u := U) (U := U.calling g mk a) (Vm.Alike.refl U.vm) qK⟩, va_recv hK hP (ci := 6) (q0 := 29) rfl rfl, fun U hU hW => ⟨rfl, by rw [hU]; exact hP, va_K.moved hW.alike hK⟩⟩ rfl rfl hl.1 rfl (lv_room (Nat.le_of_ble_eq_true rfl)) dl_538 ⟨Nat.le_of_ble_eq_true rfl, Nat.le_of_ble_eq_true rfl⟩) hS (fun _ _ h => h) (fun _ h => h) (fun r2 u2 tr2 H locs ht hvm hr2 hB hz1 hk1 hS => ?_)
  obtain ⟨hP, hw⟩ := hB
  rw [ht] at hP
  obtain ⟨he, hI2⟩ := hr2
  have he : r2 = r := by cases he; rfl
  refine lv_icmp_eq (tgt := 830) hx hb dl_541 (by decide) (fun cc => ?_) (fun cc => ?_)
  · exact hN u2 _ _ ls hI2 hw hP hS hl
  · exact absurd he.symm cc
theorem lwm_111 : te_111 ∈ tk_all := List.mem_of_getElem? (i := 111) rfl
theorem lwl_111 : Cond.methodLink R_law 72 te_111.1 ∈ tk_TB := tkm 533 (by decide +kernel) rfl
theorem lwi_111 : Cond.instanceMethod te_111.1 ∈ tk_TB := tk_tb (tk_w1s (tk_w1 te_111) (List.mem_map.mpr ⟨te_111, lwm_111, rfl⟩)) rfl
theorem lws_111 : Cond.selects te_111.1.cls te_111.1 te_111.1 ∈ tk_TB := tk_tb (tk_w2s (tk_w2 te_111) (List.mem_map.mpr ⟨te_111, lwm_111, rfl⟩)) rfl
theorem lwm_159 : te_159 ∈ tk_all := List.mem_of_getElem? (i := 159) rfl
theorem lwl_159 : Cond.methodLink R_law 75 te_159.1 ∈ tk_TB := tkm 1037 (by decide +kernel) rfl
theorem lwi_159 : Cond.instanceMethod te_159.1 ∈ tk_TB := tk_tb (tk_w1s (tk_w1 te_159) (List.mem_map.mpr ⟨te_159, lwm_159, rfl⟩)) rfl
theorem lws_159 : Cond.selects te_159.1.cls te_159.1 te_159.1 ∈ tk_TB := tk_tb (tk_w2s (tk_w2 te_159) (List.mem_map.mpr ⟨te_159, lwm_159, rfl⟩)) rfl
set_option maxHeartbeats 4000000 in
set_option maxRecDepth 100000 in
theorem lc_spoiler {p : Program} {l : Launch} {e : Env} {s : State} {m : MethodId} {below : List Frame} {meth : Method} {c : Code} {D : va_G} {cA : Nat → ClassId} {ad : tkAd} {b L : Nat} {xs : Nat → Int32} (C0 : lw_At p s m meth c b L xs) (hK : va_K D tk_cls (tk_tyl cA) s) (hij : ∀ t ∈ tk_ix, ∀ t' ∈ tk_ix, ad t = ad t' → t = t') (hA : ∀ t ∈ tk_ix, (fun q : Nat => s.heap.size ≤ q) (ad t)) {cn : Nat} (hcn : cn ≤ 600) {x3 : Int32} (hv : ∀ k, k < 6 → vp_in (x3 + nI k) L) {w : tkW} (hI : LawI cn w) (hw : tk_wok w) {H : Heap} {locs : List Loc} (hP : va_P D tk_cls (tk_wl ad cA w) H) (hS : va_S (fun q : Nat => s.heap.size ≤ q) s.heap H locs) {ls : Array Slot} (hl : lv_has ls 4 [(0, .ref b), (1, .ref (ad (5, 0, 0))), (2, .ref (ad (6, 0, 0))), (3, .int x3)]) (hN : ∀ (u : tkW) (H : Heap) (locs : List Loc) (ls : Array Slot), LawI (cn + 1) u → tk_wok u → va_P D tk_cls (tk_wl ad cA u) H → va_S (fun q : Nat => s.heap.size ≤ q) s.heap H locs → lv_has ls 4 [(0, .ref b), (1, .ref (ad (5, 0, 0))), (2, .ref (ad (6, 0, 0))), (3, .int x3)] → W p l e room_1 s m #[Value.ref b] below meth c H locs 47 5982 (lw_Z below #[Value.ref b] s) (F0 m 830 ls [])) : W p l e room_1 s m #[Value.ref b] below meth c H locs 47 5982 (lw_Z below #[Value.ref b] s) (F0 m 546 ls []) := by
  obtain ⟨hx, hb, hr, hml, hown, hts0, hX, hbl, hlocks, hgv⟩ := C0
  have hts : ∀ w ∈ tk_TB, w.before #[Value.ref b] s = true := fun w hw => hts0 w (List.mem_filter.mp hw).1
  have hbA : ¬ (fun q : Nat => s.heap.size ≤ q) b := Nat.not_le.mpr hbl
  obtain ⟨S, z, B, on, T, t, hA1, hC1, hM1⟩ := hI
  obtain ⟨I, J, R⟩ := w
  refine lv_aload_n hx hb dl_546 rfl (lv_at hl 1 rfl) ?_
  refine lv_aload_n hx hb dl_547 rfl (lv_at hl 0 rfl) ?_
  refine lv_iload_n hx hb dl_548 rfl (lv_at hl 3 rfl) ?_
  refine lv_iconst (v := 1) hx hb dl_549 (by decide) ?_
  refine lv_iadd hx hb dl_550 ?_
  refine va_sld hx hb hX hbl hbA hS (show vp_in (x3 + 1) L from hv 1 (by decide)) dl_551 ?_
  have hM5 : Met l te_111.1 (Cond.code te_111.1 te_111.2.1 te_111.2.2.1 te_111.2.2.2.1 :: tk_TB) ({ frames := te_111.2.2.2.2.2.2.2.2.1, cells := 0, slots := 0, locals := te_111.2.2.2.2.2.2.2.2.2.1 }) (va_Pc (.ref (ad (5, 0, 0)) :: [.int (xs (x3 + 1).toNatClampNeg)]) (fun U => va_P D tk_cls (tk_wl ad cA (I, J, R)) U.heap ∧ va_K D tk_cls (tk_tyl cA) U)) (va_Qi (fun (ra : Int32) (u : tkW) => tkDn tm_159 (0, [some (.inr (.inr (6, 0, 0))), some (.inl (xs (x3 + 1).toNatClampNeg)), none], [], u) (Fin cn (some (.inl ra)))) (fun u t => va_P D tk_cls (tk_wl ad cA u) t.heap ∧ tk_wok u) (fun q : Nat => s.heap.size ≤ q)) 0 0 (fun q : Nat => s.heap.size ≤ q) :=
    tk_contract (l := l) (E := te_111) lwm_111 (as := [.inr (.inr (5, 0, 0)), .inl (xs (x3 + 1).toNatClampNeg)]) (w := (I, J, R)) (Q := fun ra u => tkDn tm_159 (0, [some (.inr (.inr (6, 0, 0))), some (.inl (xs (x3 + 1).toNatClampNeg)), none], [], u) (Fin cn (ra))) (pr_spoiler hA1 hC1 hM1) (Nat.le_of_ble_eq_true rfl) (vok5 [xs (x3 + 1).toNatClampNeg]) hw (D := D) (cA := cA) (ad := ad) (A := (fun q : Nat => s.heap.size ≤ q)) hij hA
  refine va_calli (va_runV (C := te_111.1.cls) (As := [.int (xs (x3 + 1).toNatClampNeg)]) (rest := []) (bytes := te_111.2.1) (maxL := te_111.2.2.1) (ret := te_111.2.2.2.1) (n := 1) ⟨hx, hb, hml, hown, hts⟩ hM5 ⟨callB_of _ hts (tk_good_in lwm_111) rfl rfl rfl (hts _ tk_ii_5) (hts _ lwl_111) (by decide +kernel) ⟨Nat.le_of_ble_eq_true rfl, Nat.le_of_ble_eq_true rfl⟩, hts _ lwi_111, hts _ lws_111⟩ ⟨fun a U g mk q => by obtain ⟨q0, qP, qK⟩ := q; exact ⟨q0, qP, va_K.moved (u := U) (U := U.calling g mk a) (Vm.Alike.refl U.vm) qK⟩, va_recv hK hP (ci := 5) (q0 := 28) rfl rfl, fun U hU hW => ⟨rfl, by rw [hU]; exact hP, va_K.moved hW.alike hK⟩⟩ rfl rfl hl.1 rfl (lv_room (Nat.le_of_ble_eq_true rfl)) dl_552 ⟨Nat.le_of_ble_eq_true rfl, Nat.le_of_ble_eq_true rfl⟩) hS (fun _ _ h => h) (fun _ h => h) (fun r u tr H locs ht hvm hr hB hz1 hk1 hS => ?_)
  obtain ⟨hP, hw⟩ := hB
  rw [ht] at hP
  refine lv_aload_n hx hb dl_555 rfl (lv_at hl 2 rfl) ?_
  refine lv_aload_n hx hb dl_556 rfl (lv_at hl 0 rfl) ?_
  refine lv_iload_n hx hb dl_557 rfl (lv_at hl 3 rfl) ?_
  refine lv_iconst (v := 1) hx hb dl_558 (by decide) ?_
  refine lv_iadd hx hb dl_559 ?_
  refine va_sld hx hb hX hbl hbA hS (show vp_in (x3 + 1) L from hv 1 (by decide)) dl_560 ?_
  have hM6 : Met l te_159.1 (Cond.code te_159.1 te_159.2.1 te_159.2.2.1 te_159.2.2.2.1 :: tk_TB) ({ frames := te_159.2.2.2.2.2.2.2.2.1, cells := 0, slots := 0, locals := te_159.2.2.2.2.2.2.2.2.2.1 }) (va_Pc (.ref (ad (6, 0, 0)) :: [.int (xs (x3 + 1).toNatClampNeg)]) (fun U => va_P D tk_cls (tk_wl ad cA u) U.heap ∧ va_K D tk_cls (tk_tyl cA) U)) (va_Qi (fun (ra : Int32) (u : tkW) => Fin cn (some (.inl r)) (some (.inl ra)) u) (fun u t => va_P D tk_cls (tk_wl ad cA u) t.heap ∧ tk_wok u) (fun q : Nat => s.heap.size ≤ q)) 0 0 (fun q : Nat => s.heap.size ≤ q) :=
    tk_contract (l := l) (E := te_159) lwm_159 (as := [.inr (.inr (6, 0, 0)), .inl (xs (x3 + 1).toNatClampNeg)]) (w := u) (Q := fun ra u => Fin cn (some (.inl r)) (ra) u) (hr) (Nat.le_of_ble_eq_true rfl) (vok6 [xs (x3 + 1).toNatClampNeg]) hw (D := D) (cA := cA) (ad := ad) (A := (fun q : Nat => s.heap.size ≤ q)) hij hA
  refine va_calli (va_runV (C := te_159.1.cls) (As := [.int (xs (x3 + 1).toNatClampNeg)]) (rest := [.int r]) (bytes := te_159.2.1) (maxL := te_159.2.2.1) (ret := te_159.2.2.2.1) (n := 1) ⟨hx, hb, hml, hown, hts⟩ hM6 ⟨callB_of _ hts (tk_good_in lwm_159) rfl rfl rfl (hts _ tk_ii_6) (hts _ lwl_159) (by decide +kernel) ⟨Nat.le_of_ble_eq_true rfl, Nat.le_of_ble_eq_true rfl⟩, hts _ lwi_159, hts _ lws_159⟩ ⟨fun a U g mk q => by obtain ⟨q0, qP, qK⟩ := q; exact ⟨q0, qP, va_K.moved (u := U) (U := U.calling g mk a) (Vm.Alike.refl U.vm) qK⟩, va_recv hK hP (ci := 6) (q0 := 29) rfl rfl, fun U hU hW => ⟨rfl, by rw [hU]; exact hP, va_K.moved hW.alike hK⟩⟩ rfl rfl hl.1 rfl (lv_room (Nat.le_of_ble_eq_true rfl)) dl_561 ⟨Nat.le_of_ble_eq_true rfl, Nat.le_of_ble_eq_true rfl⟩) hS (fun _ _ h => h) (fun _ h => h) (fun r2 u2 tr2 H locs ht hvm hr2 hB hz1 hk1 hS => ?_)
  obtain ⟨hP, hw⟩ := hB
  rw [ht] at hP
  obtain ⟨he, hI2⟩ := hr2
  have he : r2 = r := by cases he; rfl
  refine lv_icmp_eq (tgt := 830) hx hb dl_564 (by decide) (fun cc => ?_) (fun cc => ?_)
  · exact hN u2 _ _ ls hI2 hw hP hS hl
  · exact absurd he.symm cc
theorem lwm_112 : te_112 ∈ tk_all := List.mem_of_getElem? (i := 112) rfl
theorem lwl_112 : Cond.methodLink R_law 76 te_112.1 ∈ tk_TB := tkm 542 (by decide +kernel) rfl
theorem lwi_112 : Cond.instanceMethod te_112.1 ∈ tk_TB := tk_tb (tk_w1s (tk_w1 te_112) (List.mem_map.mpr ⟨te_112, lwm_112, rfl⟩)) rfl
theorem lws_112 : Cond.selects te_112.1.cls te_112.1 te_112.1 ∈ tk_TB := tk_tb (tk_w2s (tk_w2 te_112) (List.mem_map.mpr ⟨te_112, lwm_112, rfl⟩)) rfl
theorem lwm_174 : te_174 ∈ tk_all := List.mem_of_getElem? (i := 174) rfl
theorem lwl_174 : Cond.methodLink R_law 79 te_174.1 ∈ tk_TB := tkm 1041 (by decide +kernel) rfl
theorem lwi_174 : Cond.instanceMethod te_174.1 ∈ tk_TB := tk_tb (tk_w1s (tk_w1 te_174) (List.mem_map.mpr ⟨te_174, lwm_174, rfl⟩)) rfl
theorem lws_174 : Cond.selects te_174.1.cls te_174.1 te_174.1 ∈ tk_TB := tk_tb (tk_w2s (tk_w2 te_174) (List.mem_map.mpr ⟨te_174, lwm_174, rfl⟩)) rfl
set_option maxHeartbeats 4000000 in
set_option maxRecDepth 100000 in
theorem lc_lively {p : Program} {l : Launch} {e : Env} {s : State} {m : MethodId} {below : List Frame} {meth : Method} {c : Code} {D : va_G} {cA : Nat → ClassId} {ad : tkAd} {b L : Nat} {xs : Nat → Int32} (C0 : lw_At p s m meth c b L xs) (hK : va_K D tk_cls (tk_tyl cA) s) (hij : ∀ t ∈ tk_ix, ∀ t' ∈ tk_ix, ad t = ad t' → t = t') (hA : ∀ t ∈ tk_ix, (fun q : Nat => s.heap.size ≤ q) (ad t)) {cn : Nat} (hcn : cn ≤ 600) {x3 : Int32} (hv : ∀ k, k < 6 → vp_in (x3 + nI k) L) {w : tkW} (hI : LawI cn w) (hw : tk_wok w) {H : Heap} {locs : List Loc} (hP : va_P D tk_cls (tk_wl ad cA w) H) (hS : va_S (fun q : Nat => s.heap.size ≤ q) s.heap H locs) {ls : Array Slot} (hl : lv_has ls 4 [(0, .ref b), (1, .ref (ad (5, 0, 0))), (2, .ref (ad (6, 0, 0))), (3, .int x3)]) (hN : ∀ (u : tkW) (H : Heap) (locs : List Loc) (ls : Array Slot), LawI (cn + 1) u → tk_wok u → va_P D tk_cls (tk_wl ad cA u) H → va_S (fun q : Nat => s.heap.size ≤ q) s.heap H locs → lv_has ls 4 [(0, .ref b), (1, .ref (ad (5, 0, 0))), (2, .ref (ad (6, 0, 0))), (3, .int x3)] → W p l e room_1 s m #[Value.ref b] below meth c H locs 47 5982 (lw_Z below #[Value.ref b] s) (F0 m 830 ls [])) : W p l e room_1 s m #[Value.ref b] below meth c H locs 47 5982 (lw_Z below #[Value.ref b] s) (F0 m 569 ls []) := by
  obtain ⟨hx, hb, hr, hml, hown, hts0, hX, hbl, hlocks, hgv⟩ := C0
  have hts : ∀ w ∈ tk_TB, w.before #[Value.ref b] s = true := fun w hw => hts0 w (List.mem_filter.mp hw).1
  have hbA : ¬ (fun q : Nat => s.heap.size ≤ q) b := Nat.not_le.mpr hbl
  obtain ⟨S, z, B, on, T, t, hA1, hC1, hM1⟩ := hI
  obtain ⟨I, J, R⟩ := w
  refine lv_aload_n hx hb dl_569 rfl (lv_at hl 1 rfl) ?_
  have hM5 : Met l te_112.1 (Cond.code te_112.1 te_112.2.1 te_112.2.2.1 te_112.2.2.2.1 :: tk_TB) ({ frames := te_112.2.2.2.2.2.2.2.2.1, cells := 0, slots := 0, locals := te_112.2.2.2.2.2.2.2.2.2.1 }) (va_Pc (.ref (ad (5, 0, 0)) :: []) (fun U => va_P D tk_cls (tk_wl ad cA (I, J, R)) U.heap ∧ va_K D tk_cls (tk_tyl cA) U)) (va_Qi (fun (ra : Int32) (u : tkW) => tkDn tm_174 (0, [some (.inr (.inr (6, 0, 0)))], [], u) (Fin cn (some (.inl ra)))) (fun u t => va_P D tk_cls (tk_wl ad cA u) t.heap ∧ tk_wok u) (fun q : Nat => s.heap.size ≤ q)) 0 0 (fun q : Nat => s.heap.size ≤ q) :=
    tk_contract (l := l) (E := te_112) lwm_112 (as := [.inr (.inr (5, 0, 0))]) (w := (I, J, R)) (Q := fun ra u => tkDn tm_174 (0, [some (.inr (.inr (6, 0, 0)))], [], u) (Fin cn (ra))) (pr_lively hA1 hC1 hM1) (Nat.le_of_ble_eq_true rfl) (vok5 []) hw (D := D) (cA := cA) (ad := ad) (A := (fun q : Nat => s.heap.size ≤ q)) hij hA
  refine va_calli (va_runV (C := te_112.1.cls) (As := []) (rest := []) (bytes := te_112.2.1) (maxL := te_112.2.2.1) (ret := te_112.2.2.2.1) (n := 0) ⟨hx, hb, hml, hown, hts⟩ hM5 ⟨callB_of _ hts (tk_good_in lwm_112) rfl rfl rfl (hts _ tk_ii_5) (hts _ lwl_112) (by decide +kernel) ⟨Nat.le_of_ble_eq_true rfl, Nat.le_of_ble_eq_true rfl⟩, hts _ lwi_112, hts _ lws_112⟩ ⟨fun a U g mk q => by obtain ⟨q0, qP, qK⟩ := q; exact ⟨q0, qP, va_K.moved (u := U) (U := U.calling g mk a) (Vm.Alike.refl U.vm) qK⟩, va_recv hK hP (ci := 5) (q0 := 28) rfl rfl, fun U hU hW => ⟨rfl, by rw [hU]; exact hP, va_K.moved hW.alike hK⟩⟩ rfl rfl hl.1 rfl (lv_room (Nat.le_of_ble_eq_true rfl)) dl_570 ⟨Nat.le_of_ble_eq_true rfl, Nat.le_of_ble_eq_true rfl⟩) hS (fun _ _ h => h) (fun _ h => h) (fun r u tr H locs ht hvm hr hB hz1 hk1 hS => ?_)
  obtain ⟨hP, hw⟩ := hB
  rw [ht] at hP
  refine lv_aload_n hx hb dl_573 rfl (lv_at hl 2 rfl) ?_
  have hM6 : Met l te_174.1 (Cond.code te_174.1 te_174.2.1 te_174.2.2.1 te_174.2.2.2.1 :: tk_TB) ({ frames := te_174.2.2.2.2.2.2.2.2.1, cells := 0, slots := 0, locals := te_174.2.2.2.2.2.2.2.2.2.1 }) (va_Pc (.ref (ad (6, 0, 0)) :: []) (fun U => va_P D tk_cls (tk_wl ad cA u) U.heap ∧ va_K D tk_cls (tk_tyl cA) U)) (va_Qi (fun (ra : Int32) (u : tkW) => Fin cn (some (.inl r)) (some (.inl ra)) u) (fun u t => va_P D tk_cls (tk_wl ad cA u) t.heap ∧ tk_wok u) (fun q : Nat => s.heap.size ≤ q)) 0 0 (fun q : Nat => s.heap.size ≤ q) :=
    tk_contract (l := l) (E := te_174) lwm_174 (as := [.inr (.inr (6, 0, 0))]) (w := u) (Q := fun ra u => Fin cn (some (.inl r)) (ra) u) (hr) (Nat.le_of_ble_eq_true rfl) (vok6 []) hw (D := D) (cA := cA) (ad := ad) (A := (fun q : Nat => s.heap.size ≤ q)) hij hA
  refine va_calli (va_runV (C := te_174.1.cls) (As := []) (rest := [.int r]) (bytes := te_174.2.1) (maxL := te_174.2.2.1) (ret := te_174.2.2.2.1) (n := 0) ⟨hx, hb, hml, hown, hts⟩ hM6 ⟨callB_of _ hts (tk_good_in lwm_174) rfl rfl rfl (hts _ tk_ii_6) (hts _ lwl_174) (by decide +kernel) ⟨Nat.le_of_ble_eq_true rfl, Nat.le_of_ble_eq_true rfl⟩, hts _ lwi_174, hts _ lws_174⟩ ⟨fun a U g mk q => by obtain ⟨q0, qP, qK⟩ := q; exact ⟨q0, qP, va_K.moved (u := U) (U := U.calling g mk a) (Vm.Alike.refl U.vm) qK⟩, va_recv hK hP (ci := 6) (q0 := 29) rfl rfl, fun U hU hW => ⟨rfl, by rw [hU]; exact hP, va_K.moved hW.alike hK⟩⟩ rfl rfl hl.1 rfl (lv_room (Nat.le_of_ble_eq_true rfl)) dl_574 ⟨Nat.le_of_ble_eq_true rfl, Nat.le_of_ble_eq_true rfl⟩) hS (fun _ _ h => h) (fun _ h => h) (fun r2 u2 tr2 H locs ht hvm hr2 hB hz1 hk1 hS => ?_)
  obtain ⟨hP, hw⟩ := hB
  rw [ht] at hP
  obtain ⟨he, hI2⟩ := hr2
  have he : r2 = r := by cases he; rfl
  refine lv_icmp_eq (tgt := 830) hx hb dl_577 (by decide) (fun cc => ?_) (fun cc => ?_)
  · exact hN u2 _ _ ls hI2 hw hP hS hl
  · exact absurd he.symm cc
theorem lwm_113 : te_113 ∈ tk_all := List.mem_of_getElem? (i := 113) rfl
theorem lwl_113 : Cond.methodLink R_law 80 te_113.1 ∈ tk_TB := tkm 620 (by decide +kernel) rfl
theorem lwi_113 : Cond.instanceMethod te_113.1 ∈ tk_TB := tk_tb (tk_w1s (tk_w1 te_113) (List.mem_map.mpr ⟨te_113, lwm_113, rfl⟩)) rfl
theorem lws_113 : Cond.selects te_113.1.cls te_113.1 te_113.1 ∈ tk_TB := tk_tb (tk_w2s (tk_w2 te_113) (List.mem_map.mpr ⟨te_113, lwm_113, rfl⟩)) rfl
theorem lwm_175 : te_175 ∈ tk_all := List.mem_of_getElem? (i := 175) rfl
theorem lwl_175 : Cond.methodLink R_law 83 te_175.1 ∈ tk_TB := tkm 1101 (by decide +kernel) rfl
theorem lwi_175 : Cond.instanceMethod te_175.1 ∈ tk_TB := tk_tb (tk_w1s (tk_w1 te_175) (List.mem_map.mpr ⟨te_175, lwm_175, rfl⟩)) rfl
theorem lws_175 : Cond.selects te_175.1.cls te_175.1 te_175.1 ∈ tk_TB := tk_tb (tk_w2s (tk_w2 te_175) (List.mem_map.mpr ⟨te_175, lwm_175, rfl⟩)) rfl
set_option maxHeartbeats 4000000 in
set_option maxRecDepth 100000 in
theorem lc_rounds {p : Program} {l : Launch} {e : Env} {s : State} {m : MethodId} {below : List Frame} {meth : Method} {c : Code} {D : va_G} {cA : Nat → ClassId} {ad : tkAd} {b L : Nat} {xs : Nat → Int32} (C0 : lw_At p s m meth c b L xs) (hK : va_K D tk_cls (tk_tyl cA) s) (hij : ∀ t ∈ tk_ix, ∀ t' ∈ tk_ix, ad t = ad t' → t = t') (hA : ∀ t ∈ tk_ix, (fun q : Nat => s.heap.size ≤ q) (ad t)) {cn : Nat} (hcn : cn ≤ 600) {x3 : Int32} (hv : ∀ k, k < 6 → vp_in (x3 + nI k) L) {w : tkW} (hI : LawI cn w) (hw : tk_wok w) {H : Heap} {locs : List Loc} (hP : va_P D tk_cls (tk_wl ad cA w) H) (hS : va_S (fun q : Nat => s.heap.size ≤ q) s.heap H locs) {ls : Array Slot} (hl : lv_has ls 4 [(0, .ref b), (1, .ref (ad (5, 0, 0))), (2, .ref (ad (6, 0, 0))), (3, .int x3)]) (hN : ∀ (u : tkW) (H : Heap) (locs : List Loc) (ls : Array Slot), LawI (cn + 1) u → tk_wok u → va_P D tk_cls (tk_wl ad cA u) H → va_S (fun q : Nat => s.heap.size ≤ q) s.heap H locs → lv_has ls 4 [(0, .ref b), (1, .ref (ad (5, 0, 0))), (2, .ref (ad (6, 0, 0))), (3, .int x3)] → W p l e room_1 s m #[Value.ref b] below meth c H locs 47 5982 (lw_Z below #[Value.ref b] s) (F0 m 830 ls [])) : W p l e room_1 s m #[Value.ref b] below meth c H locs 47 5982 (lw_Z below #[Value.ref b] s) (F0 m 582 ls []) := by
  obtain ⟨hx, hb, hr, hml, hown, hts0, hX, hbl, hlocks, hgv⟩ := C0
  have hts : ∀ w ∈ tk_TB, w.before #[Value.ref b] s = true := fun w hw => hts0 w (List.mem_filter.mp hw).1
  have hbA : ¬ (fun q : Nat => s.heap.size ≤ q) b := Nat.not_le.mpr hbl
  obtain ⟨S, z, B, on, T, t, hA1, hC1, hM1⟩ := hI
  obtain ⟨I, J, R⟩ := w
  refine lv_aload_n hx hb dl_582 rfl (lv_at hl 1 rfl) ?_
  have hM5 : Met l te_113.1 (Cond.code te_113.1 te_113.2.1 te_113.2.2.1 te_113.2.2.2.1 :: tk_TB) ({ frames := te_113.2.2.2.2.2.2.2.2.1, cells := 0, slots := 0, locals := te_113.2.2.2.2.2.2.2.2.2.1 }) (va_Pc (.ref (ad (5, 0, 0)) :: []) (fun U => va_P D tk_cls (tk_wl ad cA (I, J, R)) U.heap ∧ va_K D tk_cls (tk_tyl cA) U)) (va_Qi (fun (ra : Int32) (u : tkW) => tkDn tm_175 (0, [some (.inr (.inr (6, 0, 0)))], [], u) (Fin cn (some (.inl ra)))) (fun u t => va_P D tk_cls (tk_wl ad cA u) t.heap ∧ tk_wok u) (fun q : Nat => s.heap.size ≤ q)) 0 0 (fun q : Nat => s.heap.size ≤ q) :=
    tk_contract (l := l) (E := te_113) lwm_113 (as := [.inr (.inr (5, 0, 0))]) (w := (I, J, R)) (Q := fun ra u => tkDn tm_175 (0, [some (.inr (.inr (6, 0, 0)))], [], u) (Fin cn (ra))) (pr_rounds hA1 hC1 hM1) (Nat.le_of_ble_eq_true rfl) (vok5 []) hw (D := D) (cA := cA) (ad := ad) (A := (fun q : Nat => s.heap.size ≤ q)) hij hA
  refine va_calli (va_runV (C := te_113.1.cls) (As := []) (rest := []) (bytes := te_113.2.1) (maxL := te_113.2.2.1) (ret := te_113.2.2.2.1) (n := 0) ⟨hx, hb, hml, hown, hts⟩ hM5 ⟨callB_of _ hts (tk_good_in lwm_113) rfl rfl rfl (hts _ tk_ii_5) (hts _ lwl_113) (by decide +kernel) ⟨Nat.le_of_ble_eq_true rfl, Nat.le_of_ble_eq_true rfl⟩, hts _ lwi_113, hts _ lws_113⟩ ⟨fun a U g mk q => by obtain ⟨q0, qP, qK⟩ := q; exact ⟨q0, qP, va_K.moved (u := U) (U := U.calling g mk a) (Vm.Alike.refl U.vm) qK⟩, va_recv hK hP (ci := 5) (q0 := 28) rfl rfl, fun U hU hW => ⟨rfl, by rw [hU]; exact hP, va_K.moved hW.alike hK⟩⟩ rfl rfl hl.1 rfl (lv_room (Nat.le_of_ble_eq_true rfl)) dl_583 ⟨Nat.le_of_ble_eq_true rfl, Nat.le_of_ble_eq_true rfl⟩) hS (fun _ _ h => h) (fun _ h => h) (fun r u tr H locs ht hvm hr hB hz1 hk1 hS => ?_)
  obtain ⟨hP, hw⟩ := hB
  rw [ht] at hP
  refine lv_aload_n hx hb dl_586 rfl (lv_at hl 2 rfl) ?_
  have hM6 : Met l te_175.1 (Cond.code te_175.1 te_175.2.1 te_175.2.2.1 te_175.2.2.2.1 :: tk_TB) ({ frames := te_175.2.2.2.2.2.2.2.2.1, cells := 0, slots := 0, locals := te_175.2.2.2.2.2.2.2.2.2.1 }) (va_Pc (.ref (ad (6, 0, 0)) :: []) (fun U => va_P D tk_cls (tk_wl ad cA u) U.heap ∧ va_K D tk_cls (tk_tyl cA) U)) (va_Qi (fun (ra : Int32) (u : tkW) => Fin cn (some (.inl r)) (some (.inl ra)) u) (fun u t => va_P D tk_cls (tk_wl ad cA u) t.heap ∧ tk_wok u) (fun q : Nat => s.heap.size ≤ q)) 0 0 (fun q : Nat => s.heap.size ≤ q) :=
    tk_contract (l := l) (E := te_175) lwm_175 (as := [.inr (.inr (6, 0, 0))]) (w := u) (Q := fun ra u => Fin cn (some (.inl r)) (ra) u) (hr) (Nat.le_of_ble_eq_true rfl) (vok6 []) hw (D := D) (cA := cA) (ad := ad) (A := (fun q : Nat => s.heap.size ≤ q)) hij hA
  refine va_calli (va_runV (C := te_175.1.cls) (As := []) (rest := [.int r]) (bytes := te_175.2.1) (maxL := te_175.2.2.1) (ret := te_175.2.2.2.1) (n := 0) ⟨hx, hb, hml, hown, hts⟩ hM6 ⟨callB_of _ hts (tk_good_in lwm_175) rfl rfl rfl (hts _ tk_ii_6) (hts _ lwl_175) (by decide +kernel) ⟨Nat.le_of_ble_eq_true rfl, Nat.le_of_ble_eq_true rfl⟩, hts _ lwi_175, hts _ lws_175⟩ ⟨fun a U g mk q => by obtain ⟨q0, qP, qK⟩ := q; exact ⟨q0, qP, va_K.moved (u := U) (U := U.calling g mk a) (Vm.Alike.refl U.vm) qK⟩, va_recv hK hP (ci := 6) (q0 := 29) rfl rfl, fun U hU hW => ⟨rfl, by rw [hU]; exact hP, va_K.moved hW.alike hK⟩⟩ rfl rfl hl.1 rfl (lv_room (Nat.le_of_ble_eq_true rfl)) dl_587 ⟨Nat.le_of_ble_eq_true rfl, Nat.le_of_ble_eq_true rfl⟩) hS (fun _ _ h => h) (fun _ h => h) (fun r2 u2 tr2 H locs ht hvm hr2 hB hz1 hk1 hS => ?_)
  obtain ⟨hP, hw⟩ := hB
  rw [ht] at hP
  obtain ⟨he, hI2⟩ := hr2
  have he : r2 = r := by cases he; rfl
  refine lv_icmp_eq (tgt := 830) hx hb dl_590 (by decide) (fun cc => ?_) (fun cc => ?_)
  · exact hN u2 _ _ ls hI2 hw hP hS hl
  · exact absurd he.symm cc
theorem lwm_114 : te_114 ∈ tk_all := List.mem_of_getElem? (i := 114) rfl
theorem lwl_114 : Cond.methodLink R_law 84 te_114.1 ∈ tk_TB := tkm 628 (by decide +kernel) rfl
theorem lwi_114 : Cond.instanceMethod te_114.1 ∈ tk_TB := tk_tb (tk_w1s (tk_w1 te_114) (List.mem_map.mpr ⟨te_114, lwm_114, rfl⟩)) rfl
theorem lws_114 : Cond.selects te_114.1.cls te_114.1 te_114.1 ∈ tk_TB := tk_tb (tk_w2s (tk_w2 te_114) (List.mem_map.mpr ⟨te_114, lwm_114, rfl⟩)) rfl
theorem lwm_176 : te_176 ∈ tk_all := List.mem_of_getElem? (i := 176) rfl
theorem lwl_176 : Cond.methodLink R_law 87 te_176.1 ∈ tk_TB := tkm 1105 (by decide +kernel) rfl
theorem lwi_176 : Cond.instanceMethod te_176.1 ∈ tk_TB := tk_tb (tk_w1s (tk_w1 te_176) (List.mem_map.mpr ⟨te_176, lwm_176, rfl⟩)) rfl
theorem lws_176 : Cond.selects te_176.1.cls te_176.1 te_176.1 ∈ tk_TB := tk_tb (tk_w2s (tk_w2 te_176) (List.mem_map.mpr ⟨te_176, lwm_176, rfl⟩)) rfl
set_option maxHeartbeats 4000000 in
set_option maxRecDepth 100000 in
theorem lc_edge {p : Program} {l : Launch} {e : Env} {s : State} {m : MethodId} {below : List Frame} {meth : Method} {c : Code} {D : va_G} {cA : Nat → ClassId} {ad : tkAd} {b L : Nat} {xs : Nat → Int32} (C0 : lw_At p s m meth c b L xs) (hK : va_K D tk_cls (tk_tyl cA) s) (hij : ∀ t ∈ tk_ix, ∀ t' ∈ tk_ix, ad t = ad t' → t = t') (hA : ∀ t ∈ tk_ix, (fun q : Nat => s.heap.size ≤ q) (ad t)) {cn : Nat} (hcn : cn ≤ 600) {x3 : Int32} (hv : ∀ k, k < 6 → vp_in (x3 + nI k) L) {w : tkW} (hI : LawI cn w) (hw : tk_wok w) {H : Heap} {locs : List Loc} (hP : va_P D tk_cls (tk_wl ad cA w) H) (hS : va_S (fun q : Nat => s.heap.size ≤ q) s.heap H locs) {ls : Array Slot} (hl : lv_has ls 4 [(0, .ref b), (1, .ref (ad (5, 0, 0))), (2, .ref (ad (6, 0, 0))), (3, .int x3)]) (hN : ∀ (u : tkW) (H : Heap) (locs : List Loc) (ls : Array Slot), LawI (cn + 1) u → tk_wok u → va_P D tk_cls (tk_wl ad cA u) H → va_S (fun q : Nat => s.heap.size ≤ q) s.heap H locs → lv_has ls 4 [(0, .ref b), (1, .ref (ad (5, 0, 0))), (2, .ref (ad (6, 0, 0))), (3, .int x3)] → W p l e room_1 s m #[Value.ref b] below meth c H locs 47 5982 (lw_Z below #[Value.ref b] s) (F0 m 830 ls [])) : W p l e room_1 s m #[Value.ref b] below meth c H locs 47 5982 (lw_Z below #[Value.ref b] s) (F0 m 595 ls []) := by
  obtain ⟨hx, hb, hr, hml, hown, hts0, hX, hbl, hlocks, hgv⟩ := C0
  have hts : ∀ w ∈ tk_TB, w.before #[Value.ref b] s = true := fun w hw => hts0 w (List.mem_filter.mp hw).1
  have hbA : ¬ (fun q : Nat => s.heap.size ≤ q) b := Nat.not_le.mpr hbl
  obtain ⟨S, z, B, on, T, t, hA1, hC1, hM1⟩ := hI
  obtain ⟨I, J, R⟩ := w
  refine lv_aload_n hx hb dl_595 rfl (lv_at hl 1 rfl) ?_
  refine lv_aload_n hx hb dl_596 rfl (lv_at hl 0 rfl) ?_
  refine lv_iload_n hx hb dl_597 rfl (lv_at hl 3 rfl) ?_
  refine lv_iconst (v := 1) hx hb dl_598 (by decide) ?_
  refine lv_iadd hx hb dl_599 ?_
  refine va_sld hx hb hX hbl hbA hS (show vp_in (x3 + 1) L from hv 1 (by decide)) dl_600 ?_
  refine lv_aload_n hx hb dl_601 rfl (lv_at hl 0 rfl) ?_
  refine lv_iload_n hx hb dl_602 rfl (lv_at hl 3 rfl) ?_
  refine lv_iconst (v := 2) hx hb dl_603 (by decide) ?_
  refine lv_iadd hx hb dl_604 ?_
  refine va_sld hx hb hX hbl hbA hS (show vp_in (x3 + 2) L from hv 2 (by decide)) dl_605 ?_
  have hM5 : Met l te_114.1 (Cond.code te_114.1 te_114.2.1 te_114.2.2.1 te_114.2.2.2.1 :: tk_TB) ({ frames := te_114.2.2.2.2.2.2.2.2.1, cells := 0, slots := 0, locals := te_114.2.2.2.2.2.2.2.2.2.1 }) (va_Pc (.ref (ad (5, 0, 0)) :: [.int (xs (x3 + 1).toNatClampNeg), .int (xs (x3 + 2).toNatClampNeg)]) (fun U => va_P D tk_cls (tk_wl ad cA (I, J, R)) U.heap ∧ va_K D tk_cls (tk_tyl cA) U)) (va_Ql (fun (ra : Int64) (u : tkW) => tkDn tm_176 (0, [some (.inr (.inr (6, 0, 0))), some (.inl (xs (x3 + 1).toNatClampNeg)), some (.inl (xs (x3 + 2).toNatClampNeg))], [], u) (Fin cn (some (.inr (.inl ra))))) (fun u t => va_P D tk_cls (tk_wl ad cA u) t.heap ∧ tk_wok u) (fun q : Nat => s.heap.size ≤ q)) 0 0 (fun q : Nat => s.heap.size ≤ q) :=
    tk_contract (l := l) (E := te_114) lwm_114 (as := [.inr (.inr (5, 0, 0)), .inl (xs (x3 + 1).toNatClampNeg), .inl (xs (x3 + 2).toNatClampNeg)]) (w := (I, J, R)) (Q := fun ra u => tkDn tm_176 (0, [some (.inr (.inr (6, 0, 0))), some (.inl (xs (x3 + 1).toNatClampNeg)), some (.inl (xs (x3 + 2).toNatClampNeg))], [], u) (Fin cn (ra))) (pr_edge hA1 hC1 hM1) (Nat.le_of_ble_eq_true rfl) (vok5 [xs (x3 + 1).toNatClampNeg, xs (x3 + 2).toNatClampNeg]) hw (D := D) (cA := cA) (ad := ad) (A := (fun q : Nat => s.heap.size ≤ q)) hij hA
  refine va_calll (va_runV (C := te_114.1.cls) (As := [.int (xs (x3 + 1).toNatClampNeg), .int (xs (x3 + 2).toNatClampNeg)]) (rest := []) (bytes := te_114.2.1) (maxL := te_114.2.2.1) (ret := te_114.2.2.2.1) (n := 2) ⟨hx, hb, hml, hown, hts⟩ hM5 ⟨callB_of _ hts (tk_good_in lwm_114) rfl rfl rfl (hts _ tk_ii_5) (hts _ lwl_114) (by decide +kernel) ⟨Nat.le_of_ble_eq_true rfl, Nat.le_of_ble_eq_true rfl⟩, hts _ lwi_114, hts _ lws_114⟩ ⟨fun a U g mk q => by obtain ⟨q0, qP, qK⟩ := q; exact ⟨q0, qP, va_K.moved (u := U) (U := U.calling g mk a) (Vm.Alike.refl U.vm) qK⟩, va_recv hK hP (ci := 5) (q0 := 28) rfl rfl, fun U hU hW => ⟨rfl, by rw [hU]; exact hP, va_K.moved hW.alike hK⟩⟩ rfl rfl hl.1 rfl (lv_room (Nat.le_of_ble_eq_true rfl)) dl_606 ⟨Nat.le_of_ble_eq_true rfl, Nat.le_of_ble_eq_true rfl⟩) hS (fun _ _ h => h) (fun _ h => h) (fun r u tr H locs ht hvm hr hB hz1 hk1 hS => ?_)
  obtain ⟨hP, hw⟩ := hB
  rw [ht] at hP
  refine lv_aload_n hx hb dl_609 rfl (lv_at hl 2 rfl) ?_
  refine lv_aload_n hx hb dl_610 rfl (lv_at hl 0 rfl) ?_
  refine lv_iload_n hx hb dl_611 rfl (lv_at hl 3 rfl) ?_
  refine lv_iconst (v := 1) hx hb dl_612 (by decide) ?_
  refine lv_iadd hx hb dl_613 ?_
  refine va_sld hx hb hX hbl hbA hS (show vp_in (x3 + 1) L from hv 1 (by decide)) dl_614 ?_
  refine lv_aload_n hx hb dl_615 rfl (lv_at hl 0 rfl) ?_
  refine lv_iload_n hx hb dl_616 rfl (lv_at hl 3 rfl) ?_
  refine lv_iconst (v := 2) hx hb dl_617 (by decide) ?_
  refine lv_iadd hx hb dl_618 ?_
  refine va_sld hx hb hX hbl hbA hS (show vp_in (x3 + 2) L from hv 2 (by decide)) dl_619 ?_
  have hM6 : Met l te_176.1 (Cond.code te_176.1 te_176.2.1 te_176.2.2.1 te_176.2.2.2.1 :: tk_TB) ({ frames := te_176.2.2.2.2.2.2.2.2.1, cells := 0, slots := 0, locals := te_176.2.2.2.2.2.2.2.2.2.1 }) (va_Pc (.ref (ad (6, 0, 0)) :: [.int (xs (x3 + 1).toNatClampNeg), .int (xs (x3 + 2).toNatClampNeg)]) (fun U => va_P D tk_cls (tk_wl ad cA u) U.heap ∧ va_K D tk_cls (tk_tyl cA) U)) (va_Ql (fun (ra : Int64) (u : tkW) => Fin cn (some (.inr (.inl r))) (some (.inr (.inl ra))) u) (fun u t => va_P D tk_cls (tk_wl ad cA u) t.heap ∧ tk_wok u) (fun q : Nat => s.heap.size ≤ q)) 0 0 (fun q : Nat => s.heap.size ≤ q) :=
    tk_contract (l := l) (E := te_176) lwm_176 (as := [.inr (.inr (6, 0, 0)), .inl (xs (x3 + 1).toNatClampNeg), .inl (xs (x3 + 2).toNatClampNeg)]) (w := u) (Q := fun ra u => Fin cn (some (.inr (.inl r))) (ra) u) (hr) (Nat.le_of_ble_eq_true rfl) (vok6 [xs (x3 + 1).toNatClampNeg, xs (x3 + 2).toNatClampNeg]) hw (D := D) (cA := cA) (ad := ad) (A := (fun q : Nat => s.heap.size ≤ q)) hij hA
  refine va_calll (va_runV (C := te_176.1.cls) (As := [.int (xs (x3 + 1).toNatClampNeg), .int (xs (x3 + 2).toNatClampNeg)]) (rest := [.long r]) (bytes := te_176.2.1) (maxL := te_176.2.2.1) (ret := te_176.2.2.2.1) (n := 2) ⟨hx, hb, hml, hown, hts⟩ hM6 ⟨callB_of _ hts (tk_good_in lwm_176) rfl rfl rfl (hts _ tk_ii_6) (hts _ lwl_176) (by decide +kernel) ⟨Nat.le_of_ble_eq_true rfl, Nat.le_of_ble_eq_true rfl⟩, hts _ lwi_176, hts _ lws_176⟩ ⟨fun a U g mk q => by obtain ⟨q0, qP, qK⟩ := q; exact ⟨q0, qP, va_K.moved (u := U) (U := U.calling g mk a) (Vm.Alike.refl U.vm) qK⟩, va_recv hK hP (ci := 6) (q0 := 29) rfl rfl, fun U hU hW => ⟨rfl, by rw [hU]; exact hP, va_K.moved hW.alike hK⟩⟩ rfl rfl hl.1 rfl (lv_room (Nat.le_of_ble_eq_true rfl)) dl_620 ⟨Nat.le_of_ble_eq_true rfl, Nat.le_of_ble_eq_true rfl⟩) hS (fun _ _ h => h) (fun _ h => h) (fun r2 u2 tr2 H locs ht hvm hr2 hB hz1 hk1 hS => ?_)
  obtain ⟨hP, hw⟩ := hB
  rw [ht] at hP
  obtain ⟨he, hI2⟩ := hr2
  have he : r2 = r := by cases he; rfl
  refine W.lcmp hx hb dl_623 ?_
  refine lv_if_eq (tgt := 830) hx hb dl_624 (by decide) (fun cc => ?_) (fun cc => ?_)
  · exact hN u2 _ _ ls hI2 hw hP hS hl
  · exact absurd ((lg_cmp_eq _ _).mpr he.symm) cc
theorem lwm_115 : te_115 ∈ tk_all := List.mem_of_getElem? (i := 115) rfl
theorem lwl_115 : Cond.methodLink R_law 88 te_115.1 ∈ tk_TB := tkm 636 (by decide +kernel) rfl
theorem lwi_115 : Cond.instanceMethod te_115.1 ∈ tk_TB := tk_tb (tk_w1s (tk_w1 te_115) (List.mem_map.mpr ⟨te_115, lwm_115, rfl⟩)) rfl
theorem lws_115 : Cond.selects te_115.1.cls te_115.1 te_115.1 ∈ tk_TB := tk_tb (tk_w2s (tk_w2 te_115) (List.mem_map.mpr ⟨te_115, lwm_115, rfl⟩)) rfl
theorem lwm_177 : te_177 ∈ tk_all := List.mem_of_getElem? (i := 177) rfl
theorem lwl_177 : Cond.methodLink R_law 91 te_177.1 ∈ tk_TB := tkm 1109 (by decide +kernel) rfl
theorem lwi_177 : Cond.instanceMethod te_177.1 ∈ tk_TB := tk_tb (tk_w1s (tk_w1 te_177) (List.mem_map.mpr ⟨te_177, lwm_177, rfl⟩)) rfl
theorem lws_177 : Cond.selects te_177.1.cls te_177.1 te_177.1 ∈ tk_TB := tk_tb (tk_w2s (tk_w2 te_177) (List.mem_map.mpr ⟨te_177, lwm_177, rfl⟩)) rfl
set_option maxHeartbeats 4000000 in
set_option maxRecDepth 100000 in
theorem lc_wait {p : Program} {l : Launch} {e : Env} {s : State} {m : MethodId} {below : List Frame} {meth : Method} {c : Code} {D : va_G} {cA : Nat → ClassId} {ad : tkAd} {b L : Nat} {xs : Nat → Int32} (C0 : lw_At p s m meth c b L xs) (hK : va_K D tk_cls (tk_tyl cA) s) (hij : ∀ t ∈ tk_ix, ∀ t' ∈ tk_ix, ad t = ad t' → t = t') (hA : ∀ t ∈ tk_ix, (fun q : Nat => s.heap.size ≤ q) (ad t)) {cn : Nat} (hcn : cn ≤ 600) {x3 : Int32} (hv : ∀ k, k < 6 → vp_in (x3 + nI k) L) {w : tkW} (hI : LawI cn w) (hw : tk_wok w) {H : Heap} {locs : List Loc} (hP : va_P D tk_cls (tk_wl ad cA w) H) (hS : va_S (fun q : Nat => s.heap.size ≤ q) s.heap H locs) {ls : Array Slot} (hl : lv_has ls 4 [(0, .ref b), (1, .ref (ad (5, 0, 0))), (2, .ref (ad (6, 0, 0))), (3, .int x3)]) (hN : ∀ (u : tkW) (H : Heap) (locs : List Loc) (ls : Array Slot), LawI (cn + 1) u → tk_wok u → va_P D tk_cls (tk_wl ad cA u) H → va_S (fun q : Nat => s.heap.size ≤ q) s.heap H locs → lv_has ls 4 [(0, .ref b), (1, .ref (ad (5, 0, 0))), (2, .ref (ad (6, 0, 0))), (3, .int x3)] → W p l e room_1 s m #[Value.ref b] below meth c H locs 47 5982 (lw_Z below #[Value.ref b] s) (F0 m 830 ls [])) : W p l e room_1 s m #[Value.ref b] below meth c H locs 47 5982 (lw_Z below #[Value.ref b] s) (F0 m 629 ls []) := by
  obtain ⟨hx, hb, hr, hml, hown, hts0, hX, hbl, hlocks, hgv⟩ := C0
  have hts : ∀ w ∈ tk_TB, w.before #[Value.ref b] s = true := fun w hw => hts0 w (List.mem_filter.mp hw).1
  have hbA : ¬ (fun q : Nat => s.heap.size ≤ q) b := Nat.not_le.mpr hbl
  obtain ⟨S, z, B, on, T, t, hA1, hC1, hM1⟩ := hI
  obtain ⟨I, J, R⟩ := w
  refine lv_aload_n hx hb dl_629 rfl (lv_at hl 1 rfl) ?_
  refine lv_aload_n hx hb dl_630 rfl (lv_at hl 0 rfl) ?_
  refine lv_iload_n hx hb dl_631 rfl (lv_at hl 3 rfl) ?_
  refine lv_iconst (v := 1) hx hb dl_632 (by decide) ?_
  refine lv_iadd hx hb dl_633 ?_
  refine va_sld hx hb hX hbl hbA hS (show vp_in (x3 + 1) L from hv 1 (by decide)) dl_634 ?_
  refine lv_aload_n hx hb dl_635 rfl (lv_at hl 0 rfl) ?_
  refine lv_iload_n hx hb dl_636 rfl (lv_at hl 3 rfl) ?_
  refine lv_iconst (v := 2) hx hb dl_637 (by decide) ?_
  refine lv_iadd hx hb dl_638 ?_
  refine va_sld hx hb hX hbl hbA hS (show vp_in (x3 + 2) L from hv 2 (by decide)) dl_639 ?_
  have hM5 : Met l te_115.1 (Cond.code te_115.1 te_115.2.1 te_115.2.2.1 te_115.2.2.2.1 :: tk_TB) ({ frames := te_115.2.2.2.2.2.2.2.2.1, cells := 0, slots := 0, locals := te_115.2.2.2.2.2.2.2.2.2.1 }) (va_Pc (.ref (ad (5, 0, 0)) :: [.int (xs (x3 + 1).toNatClampNeg), .int (xs (x3 + 2).toNatClampNeg)]) (fun U => va_P D tk_cls (tk_wl ad cA (I, J, R)) U.heap ∧ va_K D tk_cls (tk_tyl cA) U)) (va_Ql (fun (ra : Int64) (u : tkW) => tkDn tm_177 (0, [some (.inr (.inr (6, 0, 0))), some (.inl (xs (x3 + 1).toNatClampNeg)), some (.inl (xs (x3 + 2).toNatClampNeg))], [], u) (Fin cn (some (.inr (.inl ra))))) (fun u t => va_P D tk_cls (tk_wl ad cA u) t.heap ∧ tk_wok u) (fun q : Nat => s.heap.size ≤ q)) 0 0 (fun q : Nat => s.heap.size ≤ q) :=
    tk_contract (l := l) (E := te_115) lwm_115 (as := [.inr (.inr (5, 0, 0)), .inl (xs (x3 + 1).toNatClampNeg), .inl (xs (x3 + 2).toNatClampNeg)]) (w := (I, J, R)) (Q := fun ra u => tkDn tm_177 (0, [some (.inr (.inr (6, 0, 0))), some (.inl (xs (x3 + 1).toNatClampNeg)), some (.inl (xs (x3 + 2).toNatClampNeg))], [], u) (Fin cn (ra))) (pr_wait hA1 hC1 hM1) (Nat.le_of_ble_eq_true rfl) (vok5 [xs (x3 + 1).toNatClampNeg, xs (x3 + 2).toNatClampNeg]) hw (D := D) (cA := cA) (ad := ad) (A := (fun q : Nat => s.heap.size ≤ q)) hij hA
  refine va_calll (va_runV (C := te_115.1.cls) (As := [.int (xs (x3 + 1).toNatClampNeg), .int (xs (x3 + 2).toNatClampNeg)]) (rest := []) (bytes := te_115.2.1) (maxL := te_115.2.2.1) (ret := te_115.2.2.2.1) (n := 2) ⟨hx, hb, hml, hown, hts⟩ hM5 ⟨callB_of _ hts (tk_good_in lwm_115) rfl rfl rfl (hts _ tk_ii_5) (hts _ lwl_115) (by decide +kernel) ⟨Nat.le_of_ble_eq_true rfl, Nat.le_of_ble_eq_true rfl⟩, hts _ lwi_115, hts _ lws_115⟩ ⟨fun a U g mk q => by obtain ⟨q0, qP, qK⟩ := q; exact ⟨q0, qP, va_K.moved (u := U) (U := U.calling g mk a) (Vm.Alike.refl U.vm) qK⟩, va_recv hK hP (ci := 5) (q0 := 28) rfl rfl, fun U hU hW => ⟨rfl, by rw [hU]; exact hP, va_K.moved hW.alike hK⟩⟩ rfl rfl hl.1 rfl (lv_room (Nat.le_of_ble_eq_true rfl)) dl_640 ⟨Nat.le_of_ble_eq_true rfl, Nat.le_of_ble_eq_true rfl⟩) hS (fun _ _ h => h) (fun _ h => h) (fun r u tr H locs ht hvm hr hB hz1 hk1 hS => ?_)
  obtain ⟨hP, hw⟩ := hB
  rw [ht] at hP
  refine lv_aload_n hx hb dl_643 rfl (lv_at hl 2 rfl) ?_
  refine lv_aload_n hx hb dl_644 rfl (lv_at hl 0 rfl) ?_
  refine lv_iload_n hx hb dl_645 rfl (lv_at hl 3 rfl) ?_
  refine lv_iconst (v := 1) hx hb dl_646 (by decide) ?_
  refine lv_iadd hx hb dl_647 ?_
  refine va_sld hx hb hX hbl hbA hS (show vp_in (x3 + 1) L from hv 1 (by decide)) dl_648 ?_
  refine lv_aload_n hx hb dl_649 rfl (lv_at hl 0 rfl) ?_
  refine lv_iload_n hx hb dl_650 rfl (lv_at hl 3 rfl) ?_
  refine lv_iconst (v := 2) hx hb dl_651 (by decide) ?_
  refine lv_iadd hx hb dl_652 ?_
  refine va_sld hx hb hX hbl hbA hS (show vp_in (x3 + 2) L from hv 2 (by decide)) dl_653 ?_
  have hM6 : Met l te_177.1 (Cond.code te_177.1 te_177.2.1 te_177.2.2.1 te_177.2.2.2.1 :: tk_TB) ({ frames := te_177.2.2.2.2.2.2.2.2.1, cells := 0, slots := 0, locals := te_177.2.2.2.2.2.2.2.2.2.1 }) (va_Pc (.ref (ad (6, 0, 0)) :: [.int (xs (x3 + 1).toNatClampNeg), .int (xs (x3 + 2).toNatClampNeg)]) (fun U => va_P D tk_cls (tk_wl ad cA u) U.heap ∧ va_K D tk_cls (tk_tyl cA) U)) (va_Ql (fun (ra : Int64) (u : tkW) => Fin cn (some (.inr (.inl r))) (some (.inr (.inl ra))) u) (fun u t => va_P D tk_cls (tk_wl ad cA u) t.heap ∧ tk_wok u) (fun q : Nat => s.heap.size ≤ q)) 0 0 (fun q : Nat => s.heap.size ≤ q) :=
    tk_contract (l := l) (E := te_177) lwm_177 (as := [.inr (.inr (6, 0, 0)), .inl (xs (x3 + 1).toNatClampNeg), .inl (xs (x3 + 2).toNatClampNeg)]) (w := u) (Q := fun ra u => Fin cn (some (.inr (.inl r))) (ra) u) (hr) (Nat.le_of_ble_eq_true rfl) (vok6 [xs (x3 + 1).toNatClampNeg, xs (x3 + 2).toNatClampNeg]) hw (D := D) (cA := cA) (ad := ad) (A := (fun q : Nat => s.heap.size ≤ q)) hij hA
  refine va_calll (va_runV (C := te_177.1.cls) (As := [.int (xs (x3 + 1).toNatClampNeg), .int (xs (x3 + 2).toNatClampNeg)]) (rest := [.long r]) (bytes := te_177.2.1) (maxL := te_177.2.2.1) (ret := te_177.2.2.2.1) (n := 2) ⟨hx, hb, hml, hown, hts⟩ hM6 ⟨callB_of _ hts (tk_good_in lwm_177) rfl rfl rfl (hts _ tk_ii_6) (hts _ lwl_177) (by decide +kernel) ⟨Nat.le_of_ble_eq_true rfl, Nat.le_of_ble_eq_true rfl⟩, hts _ lwi_177, hts _ lws_177⟩ ⟨fun a U g mk q => by obtain ⟨q0, qP, qK⟩ := q; exact ⟨q0, qP, va_K.moved (u := U) (U := U.calling g mk a) (Vm.Alike.refl U.vm) qK⟩, va_recv hK hP (ci := 6) (q0 := 29) rfl rfl, fun U hU hW => ⟨rfl, by rw [hU]; exact hP, va_K.moved hW.alike hK⟩⟩ rfl rfl hl.1 rfl (lv_room (Nat.le_of_ble_eq_true rfl)) dl_654 ⟨Nat.le_of_ble_eq_true rfl, Nat.le_of_ble_eq_true rfl⟩) hS (fun _ _ h => h) (fun _ h => h) (fun r2 u2 tr2 H locs ht hvm hr2 hB hz1 hk1 hS => ?_)
  obtain ⟨hP, hw⟩ := hB
  rw [ht] at hP
  obtain ⟨he, hI2⟩ := hr2
  have he : r2 = r := by cases he; rfl
  refine W.lcmp hx hb dl_657 ?_
  refine lv_if_eq (tgt := 830) hx hb dl_658 (by decide) (fun cc => ?_) (fun cc => ?_)
  · exact hN u2 _ _ ls hI2 hw hP hS hl
  · exact absurd ((lg_cmp_eq _ _).mpr he.symm) cc
theorem lwm_116 : te_116 ∈ tk_all := List.mem_of_getElem? (i := 116) rfl
theorem lwl_116 : Cond.methodLink R_law 92 te_116.1 ∈ tk_TB := tkm 644 (by decide +kernel) rfl
theorem lwi_116 : Cond.instanceMethod te_116.1 ∈ tk_TB := tk_tb (tk_w1s (tk_w1 te_116) (List.mem_map.mpr ⟨te_116, lwm_116, rfl⟩)) rfl
theorem lws_116 : Cond.selects te_116.1.cls te_116.1 te_116.1 ∈ tk_TB := tk_tb (tk_w2s (tk_w2 te_116) (List.mem_map.mpr ⟨te_116, lwm_116, rfl⟩)) rfl
theorem lwm_178 : te_178 ∈ tk_all := List.mem_of_getElem? (i := 178) rfl
theorem lwl_178 : Cond.methodLink R_law 95 te_178.1 ∈ tk_TB := tkm 1113 (by decide +kernel) rfl
theorem lwi_178 : Cond.instanceMethod te_178.1 ∈ tk_TB := tk_tb (tk_w1s (tk_w1 te_178) (List.mem_map.mpr ⟨te_178, lwm_178, rfl⟩)) rfl
theorem lws_178 : Cond.selects te_178.1.cls te_178.1 te_178.1 ∈ tk_TB := tk_tb (tk_w2s (tk_w2 te_178) (List.mem_map.mpr ⟨te_178, lwm_178, rfl⟩)) rfl
set_option maxHeartbeats 4000000 in
set_option maxRecDepth 100000 in
theorem lc_start {p : Program} {l : Launch} {e : Env} {s : State} {m : MethodId} {below : List Frame} {meth : Method} {c : Code} {D : va_G} {cA : Nat → ClassId} {ad : tkAd} {b L : Nat} {xs : Nat → Int32} (C0 : lw_At p s m meth c b L xs) (hK : va_K D tk_cls (tk_tyl cA) s) (hij : ∀ t ∈ tk_ix, ∀ t' ∈ tk_ix, ad t = ad t' → t = t') (hA : ∀ t ∈ tk_ix, (fun q : Nat => s.heap.size ≤ q) (ad t)) {cn : Nat} (hcn : cn ≤ 600) {x3 : Int32} (hv : ∀ k, k < 6 → vp_in (x3 + nI k) L) {w : tkW} (hI : LawI cn w) (hw : tk_wok w) {H : Heap} {locs : List Loc} (hP : va_P D tk_cls (tk_wl ad cA w) H) (hS : va_S (fun q : Nat => s.heap.size ≤ q) s.heap H locs) {ls : Array Slot} (hl : lv_has ls 4 [(0, .ref b), (1, .ref (ad (5, 0, 0))), (2, .ref (ad (6, 0, 0))), (3, .int x3)]) (hN : ∀ (u : tkW) (H : Heap) (locs : List Loc) (ls : Array Slot), LawI (cn + 1) u → tk_wok u → va_P D tk_cls (tk_wl ad cA u) H → va_S (fun q : Nat => s.heap.size ≤ q) s.heap H locs → lv_has ls 4 [(0, .ref b), (1, .ref (ad (5, 0, 0))), (2, .ref (ad (6, 0, 0))), (3, .int x3)] → W p l e room_1 s m #[Value.ref b] below meth c H locs 47 5982 (lw_Z below #[Value.ref b] s) (F0 m 830 ls [])) : W p l e room_1 s m #[Value.ref b] below meth c H locs 47 5982 (lw_Z below #[Value.ref b] s) (F0 m 663 ls []) := by
  obtain ⟨hx, hb, hr, hml, hown, hts0, hX, hbl, hlocks, hgv⟩ := C0
  have hts : ∀ w ∈ tk_TB, w.before #[Value.ref b] s = true := fun w hw => hts0 w (List.mem_filter.mp hw).1
  have hbA : ¬ (fun q : Nat => s.heap.size ≤ q) b := Nat.not_le.mpr hbl
  obtain ⟨S, z, B, on, T, t, hA1, hC1, hM1⟩ := hI
  obtain ⟨I, J, R⟩ := w
  refine lv_aload_n hx hb dl_663 rfl (lv_at hl 1 rfl) ?_
  have hM5 : Met l te_116.1 (Cond.code te_116.1 te_116.2.1 te_116.2.2.1 te_116.2.2.2.1 :: tk_TB) ({ frames := te_116.2.2.2.2.2.2.2.2.1, cells := 0, slots := 0, locals := te_116.2.2.2.2.2.2.2.2.2.1 }) (va_Pc (.ref (ad (5, 0, 0)) :: []) (fun U => va_P D tk_cls (tk_wl ad cA (I, J, R)) U.heap ∧ va_K D tk_cls (tk_tyl cA) U)) (va_Qi (fun (ra : Int32) (u : tkW) => tkDn tm_178 (0, [some (.inr (.inr (6, 0, 0))), none], [], u) (Fin cn (some (.inl ra)))) (fun u t => va_P D tk_cls (tk_wl ad cA u) t.heap ∧ tk_wok u) (fun q : Nat => s.heap.size ≤ q)) 0 0 (fun q : Nat => s.heap.size ≤ q) :=
    tk_contract (l := l) (E := te_116) lwm_116 (as := [.inr (.inr (5, 0, 0))]) (w := (I, J, R)) (Q := fun ra u => tkDn tm_178 (0, [some (.inr (.inr (6, 0, 0))), none], [], u) (Fin cn (ra))) (pr_start hA1 hC1 hM1) (Nat.le_of_ble_eq_true rfl) (vok5 []) hw (D := D) (cA := cA) (ad := ad) (A := (fun q : Nat => s.heap.size ≤ q)) hij hA
  refine va_calli (va_runV (C := te_116.1.cls) (As := []) (rest := []) (bytes := te_116.2.1) (maxL := te_116.2.2.1) (ret := te_116.2.2.2.1) (n := 0) ⟨hx, hb, hml, hown, hts⟩ hM5 ⟨callB_of _ hts (tk_good_in lwm_116) rfl rfl rfl (hts _ tk_ii_5) (hts _ lwl_116) (by decide +kernel) ⟨Nat.le_of_ble_eq_true rfl, Nat.le_of_ble_eq_true rfl⟩, hts _ lwi_116, hts _ lws_116⟩ ⟨fun a U g mk q => by obtain ⟨q0, qP, qK⟩ := q; exact ⟨q0, qP, va_K.moved (u := U) (U := U.calling g mk a) (Vm.Alike.refl U.vm) qK⟩, va_recv hK hP (ci := 5) (q0 := 28) rfl rfl, fun U hU hW => ⟨rfl, by rw [hU]; exact hP, va_K.moved hW.alike hK⟩⟩ rfl rfl hl.1 rfl (lv_room (Nat.le_of_ble_eq_true rfl)) dl_664 ⟨Nat.le_of_ble_eq_true rfl, Nat.le_of_ble_eq_true rfl⟩) hS (fun _ _ h => h) (fun _ h => h) (fun r u tr H locs ht hvm hr hB hz1 hk1 hS => ?_)
  obtain ⟨hP, hw⟩ := hB
  rw [ht] at hP
  refine lv_aload_n hx hb dl_667 rfl (lv_at hl 2 rfl) ?_
  have hM6 : Met l te_178.1 (Cond.code te_178.1 te_178.2.1 te_178.2.2.1 te_178.2.2.2.1 :: tk_TB) ({ frames := te_178.2.2.2.2.2.2.2.2.1, cells := 0, slots := 0, locals := te_178.2.2.2.2.2.2.2.2.2.1 }) (va_Pc (.ref (ad (6, 0, 0)) :: []) (fun U => va_P D tk_cls (tk_wl ad cA u) U.heap ∧ va_K D tk_cls (tk_tyl cA) U)) (va_Qi (fun (ra : Int32) (u : tkW) => Fin cn (some (.inl r)) (some (.inl ra)) u) (fun u t => va_P D tk_cls (tk_wl ad cA u) t.heap ∧ tk_wok u) (fun q : Nat => s.heap.size ≤ q)) 0 0 (fun q : Nat => s.heap.size ≤ q) :=
    tk_contract (l := l) (E := te_178) lwm_178 (as := [.inr (.inr (6, 0, 0))]) (w := u) (Q := fun ra u => Fin cn (some (.inl r)) (ra) u) (hr) (Nat.le_of_ble_eq_true rfl) (vok6 []) hw (D := D) (cA := cA) (ad := ad) (A := (fun q : Nat => s.heap.size ≤ q)) hij hA
  refine va_calli (va_runV (C := te_178.1.cls) (As := []) (rest := [.int r]) (bytes := te_178.2.1) (maxL := te_178.2.2.1) (ret := te_178.2.2.2.1) (n := 0) ⟨hx, hb, hml, hown, hts⟩ hM6 ⟨callB_of _ hts (tk_good_in lwm_178) rfl rfl rfl (hts _ tk_ii_6) (hts _ lwl_178) (by decide +kernel) ⟨Nat.le_of_ble_eq_true rfl, Nat.le_of_ble_eq_true rfl⟩, hts _ lwi_178, hts _ lws_178⟩ ⟨fun a U g mk q => by obtain ⟨q0, qP, qK⟩ := q; exact ⟨q0, qP, va_K.moved (u := U) (U := U.calling g mk a) (Vm.Alike.refl U.vm) qK⟩, va_recv hK hP (ci := 6) (q0 := 29) rfl rfl, fun U hU hW => ⟨rfl, by rw [hU]; exact hP, va_K.moved hW.alike hK⟩⟩ rfl rfl hl.1 rfl (lv_room (Nat.le_of_ble_eq_true rfl)) dl_668 ⟨Nat.le_of_ble_eq_true rfl, Nat.le_of_ble_eq_true rfl⟩) hS (fun _ _ h => h) (fun _ h => h) (fun r2 u2 tr2 H locs ht hvm hr2 hB hz1 hk1 hS => ?_)
  obtain ⟨hP, hw⟩ := hB
  rw [ht] at hP
  obtain ⟨he, hI2⟩ := hr2
  have he : r2 = r := by cases he; rfl
  refine lv_icmp_eq (tgt := 830) hx hb dl_671 (by decide) (fun cc => ?_) (fun cc => ?_)
  · exact hN u2 _ _ ls hI2 hw hP hS hl
  · exact absurd he.symm cc
theorem lwm_117 : te_117 ∈ tk_all := List.mem_of_getElem? (i := 117) rfl
theorem lwl_117 : Cond.methodLink R_law 96 te_117.1 ∈ tk_TB := tkm 655 (by decide +kernel) rfl
theorem lwi_117 : Cond.instanceMethod te_117.1 ∈ tk_TB := tk_tb (tk_w1s (tk_w1 te_117) (List.mem_map.mpr ⟨te_117, lwm_117, rfl⟩)) rfl
theorem lws_117 : Cond.selects te_117.1.cls te_117.1 te_117.1 ∈ tk_TB := tk_tb (tk_w2s (tk_w2 te_117) (List.mem_map.mpr ⟨te_117, lwm_117, rfl⟩)) rfl
theorem lwm_183 : te_183 ∈ tk_all := List.mem_of_getElem? (i := 183) rfl
theorem lwl_183 : Cond.methodLink R_law 99 te_183.1 ∈ tk_TB := tkm 1117 (by decide +kernel) rfl
theorem lwi_183 : Cond.instanceMethod te_183.1 ∈ tk_TB := tk_tb (tk_w1s (tk_w1 te_183) (List.mem_map.mpr ⟨te_183, lwm_183, rfl⟩)) rfl
theorem lws_183 : Cond.selects te_183.1.cls te_183.1 te_183.1 ∈ tk_TB := tk_tb (tk_w2s (tk_w2 te_183) (List.mem_map.mpr ⟨te_183, lwm_183, rfl⟩)) rfl
set_option maxHeartbeats 4000000 in
set_option maxRecDepth 100000 in
theorem lc_happen {p : Program} {l : Launch} {e : Env} {s : State} {m : MethodId} {below : List Frame} {meth : Method} {c : Code} {D : va_G} {cA : Nat → ClassId} {ad : tkAd} {b L : Nat} {xs : Nat → Int32} (C0 : lw_At p s m meth c b L xs) (hK : va_K D tk_cls (tk_tyl cA) s) (hij : ∀ t ∈ tk_ix, ∀ t' ∈ tk_ix, ad t = ad t' → t = t') (hA : ∀ t ∈ tk_ix, (fun q : Nat => s.heap.size ≤ q) (ad t)) {cn : Nat} (hcn : cn ≤ 600) {x3 : Int32} (hv : ∀ k, k < 6 → vp_in (x3 + nI k) L) {w : tkW} (hI : LawI cn w) (hw : tk_wok w) {H : Heap} {locs : List Loc} (hP : va_P D tk_cls (tk_wl ad cA w) H) (hS : va_S (fun q : Nat => s.heap.size ≤ q) s.heap H locs) {ls : Array Slot} (hl : lv_has ls 4 [(0, .ref b), (1, .ref (ad (5, 0, 0))), (2, .ref (ad (6, 0, 0))), (3, .int x3)]) (hN : ∀ (u : tkW) (H : Heap) (locs : List Loc) (ls : Array Slot), LawI (cn + 1) u → tk_wok u → va_P D tk_cls (tk_wl ad cA u) H → va_S (fun q : Nat => s.heap.size ≤ q) s.heap H locs → lv_has ls 4 [(0, .ref b), (1, .ref (ad (5, 0, 0))), (2, .ref (ad (6, 0, 0))), (3, .int x3)] → W p l e room_1 s m #[Value.ref b] below meth c H locs 47 5982 (lw_Z below #[Value.ref b] s) (F0 m 830 ls [])) : W p l e room_1 s m #[Value.ref b] below meth c H locs 47 5982 (lw_Z below #[Value.ref b] s) (F0 m 676 ls []) := by
  obtain ⟨hx, hb, hr, hml, hown, hts0, hX, hbl, hlocks, hgv⟩ := C0
  have hts : ∀ w ∈ tk_TB, w.before #[Value.ref b] s = true := fun w hw => hts0 w (List.mem_filter.mp hw).1
  have hbA : ¬ (fun q : Nat => s.heap.size ≤ q) b := Nat.not_le.mpr hbl
  obtain ⟨S, z, B, on, T, t, hA1, hC1, hM1⟩ := hI
  obtain ⟨I, J, R⟩ := w
  refine lv_aload_n hx hb dl_676 rfl (lv_at hl 1 rfl) ?_
  refine lv_aload_n hx hb dl_677 rfl (lv_at hl 0 rfl) ?_
  refine lv_iload_n hx hb dl_678 rfl (lv_at hl 3 rfl) ?_
  refine lv_iconst (v := 1) hx hb dl_679 (by decide) ?_
  refine lv_iadd hx hb dl_680 ?_
  refine va_sld hx hb hX hbl hbA hS (show vp_in (x3 + 1) L from hv 1 (by decide)) dl_681 ?_
  have hM5 : Met l te_117.1 (Cond.code te_117.1 te_117.2.1 te_117.2.2.1 te_117.2.2.2.1 :: tk_TB) ({ frames := te_117.2.2.2.2.2.2.2.2.1, cells := 0, slots := 0, locals := te_117.2.2.2.2.2.2.2.2.2.1 }) (va_Pc (.ref (ad (5, 0, 0)) :: [.int (xs (x3 + 1).toNatClampNeg)]) (fun U => va_P D tk_cls (tk_wl ad cA (I, J, R)) U.heap ∧ va_K D tk_cls (tk_tyl cA) U)) (va_Qi (fun (ra : Int32) (u : tkW) => tkDn tm_183 (0, [some (.inr (.inr (6, 0, 0))), some (.inl (xs (x3 + 1).toNatClampNeg)), none], [], u) (Fin cn (some (.inl ra)))) (fun u t => va_P D tk_cls (tk_wl ad cA u) t.heap ∧ tk_wok u) (fun q : Nat => s.heap.size ≤ q)) 0 0 (fun q : Nat => s.heap.size ≤ q) :=
    tk_contract (l := l) (E := te_117) lwm_117 (as := [.inr (.inr (5, 0, 0)), .inl (xs (x3 + 1).toNatClampNeg)]) (w := (I, J, R)) (Q := fun ra u => tkDn tm_183 (0, [some (.inr (.inr (6, 0, 0))), some (.inl (xs (x3 + 1).toNatClampNeg)), none], [], u) (Fin cn (ra))) (pr_happen hA1 hC1 hM1 hcn) (Nat.le_of_ble_eq_true rfl) (vok5 [xs (x3 + 1).toNatClampNeg]) hw (D := D) (cA := cA) (ad := ad) (A := (fun q : Nat => s.heap.size ≤ q)) hij hA
  refine va_calli (va_runV (C := te_117.1.cls) (As := [.int (xs (x3 + 1).toNatClampNeg)]) (rest := []) (bytes := te_117.2.1) (maxL := te_117.2.2.1) (ret := te_117.2.2.2.1) (n := 1) ⟨hx, hb, hml, hown, hts⟩ hM5 ⟨callB_of _ hts (tk_good_in lwm_117) rfl rfl rfl (hts _ tk_ii_5) (hts _ lwl_117) (by decide +kernel) ⟨Nat.le_of_ble_eq_true rfl, Nat.le_of_ble_eq_true rfl⟩, hts _ lwi_117, hts _ lws_117⟩ ⟨fun a U g mk q => by obtain ⟨q0, qP, qK⟩ := q; exact ⟨q0, qP, va_K.moved (u := U) (U := U.calling g mk a) (Vm.Alike.refl U.vm) qK⟩, va_recv hK hP (ci := 5) (q0 := 28) rfl rfl, fun U hU hW => ⟨rfl, by rw [hU]; exact hP, va_K.moved hW.alike hK⟩⟩ rfl rfl hl.1 rfl (lv_room (Nat.le_of_ble_eq_true rfl)) dl_682 ⟨Nat.le_of_ble_eq_true rfl, Nat.le_of_ble_eq_true rfl⟩) hS (fun _ _ h => h) (fun _ h => h) (fun r u tr H locs ht hvm hr hB hz1 hk1 hS => ?_)
  obtain ⟨hP, hw⟩ := hB
  rw [ht] at hP
  refine lv_aload_n hx hb dl_685 rfl (lv_at hl 2 rfl) ?_
  refine lv_aload_n hx hb dl_686 rfl (lv_at hl 0 rfl) ?_
  refine lv_iload_n hx hb dl_687 rfl (lv_at hl 3 rfl) ?_
  refine lv_iconst (v := 1) hx hb dl_688 (by decide) ?_
  refine lv_iadd hx hb dl_689 ?_
  refine va_sld hx hb hX hbl hbA hS (show vp_in (x3 + 1) L from hv 1 (by decide)) dl_690 ?_
  have hM6 : Met l te_183.1 (Cond.code te_183.1 te_183.2.1 te_183.2.2.1 te_183.2.2.2.1 :: tk_TB) ({ frames := te_183.2.2.2.2.2.2.2.2.1, cells := 0, slots := 0, locals := te_183.2.2.2.2.2.2.2.2.2.1 }) (va_Pc (.ref (ad (6, 0, 0)) :: [.int (xs (x3 + 1).toNatClampNeg)]) (fun U => va_P D tk_cls (tk_wl ad cA u) U.heap ∧ va_K D tk_cls (tk_tyl cA) U)) (va_Qi (fun (ra : Int32) (u : tkW) => Fin cn (some (.inl r)) (some (.inl ra)) u) (fun u t => va_P D tk_cls (tk_wl ad cA u) t.heap ∧ tk_wok u) (fun q : Nat => s.heap.size ≤ q)) 0 0 (fun q : Nat => s.heap.size ≤ q) :=
    tk_contract (l := l) (E := te_183) lwm_183 (as := [.inr (.inr (6, 0, 0)), .inl (xs (x3 + 1).toNatClampNeg)]) (w := u) (Q := fun ra u => Fin cn (some (.inl r)) (ra) u) (hr) (Nat.le_of_ble_eq_true rfl) (vok6 [xs (x3 + 1).toNatClampNeg]) hw (D := D) (cA := cA) (ad := ad) (A := (fun q : Nat => s.heap.size ≤ q)) hij hA
  refine va_calli (va_runV (C := te_183.1.cls) (As := [.int (xs (x3 + 1).toNatClampNeg)]) (rest := [.int r]) (bytes := te_183.2.1) (maxL := te_183.2.2.1) (ret := te_183.2.2.2.1) (n := 1) ⟨hx, hb, hml, hown, hts⟩ hM6 ⟨callB_of _ hts (tk_good_in lwm_183) rfl rfl rfl (hts _ tk_ii_6) (hts _ lwl_183) (by decide +kernel) ⟨Nat.le_of_ble_eq_true rfl, Nat.le_of_ble_eq_true rfl⟩, hts _ lwi_183, hts _ lws_183⟩ ⟨fun a U g mk q => by obtain ⟨q0, qP, qK⟩ := q; exact ⟨q0, qP, va_K.moved (u := U) (U := U.calling g mk a) (Vm.Alike.refl U.vm) qK⟩, va_recv hK hP (ci := 6) (q0 := 29) rfl rfl, fun U hU hW => ⟨rfl, by rw [hU]; exact hP, va_K.moved hW.alike hK⟩⟩ rfl rfl hl.1 rfl (lv_room (Nat.le_of_ble_eq_true rfl)) dl_691 ⟨Nat.le_of_ble_eq_true rfl, Nat.le_of_ble_eq_true rfl⟩) hS (fun _ _ h => h) (fun _ h => h) (fun r2 u2 tr2 H locs ht hvm hr2 hB hz1 hk1 hS => ?_)
  obtain ⟨hP, hw⟩ := hB
  rw [ht] at hP
  obtain ⟨he, hI2⟩ := hr2
  have he : r2 = r := by cases he; rfl
  refine lv_icmp_eq (tgt := 830) hx hb dl_694 (by decide) (fun cc => ?_) (fun cc => ?_)
  · exact hN u2 _ _ ls hI2 hw hP hS hl
  · exact absurd he.symm cc
theorem lwm_118 : te_118 ∈ tk_all := List.mem_of_getElem? (i := 118) rfl
theorem lwl_118 : Cond.methodLink R_law 100 te_118.1 ∈ tk_TB := tkm 679 (by decide +kernel) rfl
theorem lwi_118 : Cond.instanceMethod te_118.1 ∈ tk_TB := tk_tb (tk_w1s (tk_w1 te_118) (List.mem_map.mpr ⟨te_118, lwm_118, rfl⟩)) rfl
theorem lws_118 : Cond.selects te_118.1.cls te_118.1 te_118.1 ∈ tk_TB := tk_tb (tk_w2s (tk_w2 te_118) (List.mem_map.mpr ⟨te_118, lwm_118, rfl⟩)) rfl
theorem lwm_184 : te_184 ∈ tk_all := List.mem_of_getElem? (i := 184) rfl
theorem lwl_184 : Cond.methodLink R_law 103 te_184.1 ∈ tk_TB := tkm 1125 (by decide +kernel) rfl
theorem lwi_184 : Cond.instanceMethod te_184.1 ∈ tk_TB := tk_tb (tk_w1s (tk_w1 te_184) (List.mem_map.mpr ⟨te_184, lwm_184, rfl⟩)) rfl
theorem lws_184 : Cond.selects te_184.1.cls te_184.1 te_184.1 ∈ tk_TB := tk_tb (tk_w2s (tk_w2 te_184) (List.mem_map.mpr ⟨te_184, lwm_184, rfl⟩)) rfl
set_option maxHeartbeats 4000000 in
set_option maxRecDepth 100000 in
theorem lc_goOn {p : Program} {l : Launch} {e : Env} {s : State} {m : MethodId} {below : List Frame} {meth : Method} {c : Code} {D : va_G} {cA : Nat → ClassId} {ad : tkAd} {b L : Nat} {xs : Nat → Int32} (C0 : lw_At p s m meth c b L xs) (hK : va_K D tk_cls (tk_tyl cA) s) (hij : ∀ t ∈ tk_ix, ∀ t' ∈ tk_ix, ad t = ad t' → t = t') (hA : ∀ t ∈ tk_ix, (fun q : Nat => s.heap.size ≤ q) (ad t)) {cn : Nat} (hcn : cn ≤ 600) {x3 : Int32} (hv : ∀ k, k < 6 → vp_in (x3 + nI k) L) {w : tkW} (hI : LawI cn w) (hw : tk_wok w) {H : Heap} {locs : List Loc} (hP : va_P D tk_cls (tk_wl ad cA w) H) (hS : va_S (fun q : Nat => s.heap.size ≤ q) s.heap H locs) {ls : Array Slot} (hl : lv_has ls 4 [(0, .ref b), (1, .ref (ad (5, 0, 0))), (2, .ref (ad (6, 0, 0))), (3, .int x3)]) (hN : ∀ (u : tkW) (H : Heap) (locs : List Loc) (ls : Array Slot), LawI (cn + 1) u → tk_wok u → va_P D tk_cls (tk_wl ad cA u) H → va_S (fun q : Nat => s.heap.size ≤ q) s.heap H locs → lv_has ls 4 [(0, .ref b), (1, .ref (ad (5, 0, 0))), (2, .ref (ad (6, 0, 0))), (3, .int x3)] → W p l e room_1 s m #[Value.ref b] below meth c H locs 47 5982 (lw_Z below #[Value.ref b] s) (F0 m 830 ls [])) : W p l e room_1 s m #[Value.ref b] below meth c H locs 47 5982 (lw_Z below #[Value.ref b] s) (F0 m 699 ls []) := by
  obtain ⟨hx, hb, hr, hml, hown, hts0, hX, hbl, hlocks, hgv⟩ := C0
  have hts : ∀ w ∈ tk_TB, w.before #[Value.ref b] s = true := fun w hw => hts0 w (List.mem_filter.mp hw).1
  have hbA : ¬ (fun q : Nat => s.heap.size ≤ q) b := Nat.not_le.mpr hbl
  obtain ⟨S, z, B, on, T, t, hA1, hC1, hM1⟩ := hI
  obtain ⟨I, J, R⟩ := w
  refine lv_aload_n hx hb dl_699 rfl (lv_at hl 1 rfl) ?_
  have hM5 : Met l te_118.1 (Cond.code te_118.1 te_118.2.1 te_118.2.2.1 te_118.2.2.2.1 :: tk_TB) ({ frames := te_118.2.2.2.2.2.2.2.2.1, cells := 0, slots := 0, locals := te_118.2.2.2.2.2.2.2.2.2.1 }) (va_Pc (.ref (ad (5, 0, 0)) :: []) (fun U => va_P D tk_cls (tk_wl ad cA (I, J, R)) U.heap ∧ va_K D tk_cls (tk_tyl cA) U)) (va_Qi (fun (ra : Int32) (u : tkW) => tkDn tm_184 (0, [some (.inr (.inr (6, 0, 0))), none, none], [], u) (Fin cn (some (.inl ra)))) (fun u t => va_P D tk_cls (tk_wl ad cA u) t.heap ∧ tk_wok u) (fun q : Nat => s.heap.size ≤ q)) 0 0 (fun q : Nat => s.heap.size ≤ q) :=
    tk_contract (l := l) (E := te_118) lwm_118 (as := [.inr (.inr (5, 0, 0))]) (w := (I, J, R)) (Q := fun ra u => tkDn tm_184 (0, [some (.inr (.inr (6, 0, 0))), none, none], [], u) (Fin cn (ra))) (pr_goOn hA1 hC1 hM1 hcn) (Nat.le_of_ble_eq_true rfl) (vok5 []) hw (D := D) (cA := cA) (ad := ad) (A := (fun q : Nat => s.heap.size ≤ q)) hij hA
  refine va_calli (va_runV (C := te_118.1.cls) (As := []) (rest := []) (bytes := te_118.2.1) (maxL := te_118.2.2.1) (ret := te_118.2.2.2.1) (n := 0) ⟨hx, hb, hml, hown, hts⟩ hM5 ⟨callB_of _ hts (tk_good_in lwm_118) rfl rfl rfl (hts _ tk_ii_5) (hts _ lwl_118) (by decide +kernel) ⟨Nat.le_of_ble_eq_true rfl, Nat.le_of_ble_eq_true rfl⟩, hts _ lwi_118, hts _ lws_118⟩ ⟨fun a U g mk q => by obtain ⟨q0, qP, qK⟩ := q; exact ⟨q0, qP, va_K.moved (u := U) (U := U.calling g mk a) (Vm.Alike.refl U.vm) qK⟩, va_recv hK hP (ci := 5) (q0 := 28) rfl rfl, fun U hU hW => ⟨rfl, by rw [hU]; exact hP, va_K.moved hW.alike hK⟩⟩ rfl rfl hl.1 rfl (lv_room (Nat.le_of_ble_eq_true rfl)) dl_700 ⟨Nat.le_of_ble_eq_true rfl, Nat.le_of_ble_eq_true rfl⟩) hS (fun _ _ h => h) (fun _ h => h) (fun r u tr H locs ht hvm hr hB hz1 hk1 hS => ?_)
  obtain ⟨hP, hw⟩ := hB
  rw [ht] at hP
  refine lv_aload_n hx hb dl_703 rfl (lv_at hl 2 rfl) ?_
  have hM6 : Met l te_184.1 (Cond.code te_184.1 te_184.2.1 te_184.2.2.1 te_184.2.2.2.1 :: tk_TB) ({ frames := te_184.2.2.2.2.2.2.2.2.1, cells := 0, slots := 0, locals := te_184.2.2.2.2.2.2.2.2.2.1 }) (va_Pc (.ref (ad (6, 0, 0)) :: []) (fun U => va_P D tk_cls (tk_wl ad cA u) U.heap ∧ va_K D tk_cls (tk_tyl cA) U)) (va_Qi (fun (ra : Int32) (u : tkW) => Fin cn (some (.inl r)) (some (.inl ra)) u) (fun u t => va_P D tk_cls (tk_wl ad cA u) t.heap ∧ tk_wok u) (fun q : Nat => s.heap.size ≤ q)) 0 0 (fun q : Nat => s.heap.size ≤ q) :=
    tk_contract (l := l) (E := te_184) lwm_184 (as := [.inr (.inr (6, 0, 0))]) (w := u) (Q := fun ra u => Fin cn (some (.inl r)) (ra) u) (hr) (Nat.le_of_ble_eq_true rfl) (vok6 []) hw (D := D) (cA := cA) (ad := ad) (A := (fun q : Nat => s.heap.size ≤ q)) hij hA
  refine va_calli (va_runV (C := te_184.1.cls) (As := []) (rest := [.int r]) (bytes := te_184.2.1) (maxL := te_184.2.2.1) (ret := te_184.2.2.2.1) (n := 0) ⟨hx, hb, hml, hown, hts⟩ hM6 ⟨callB_of _ hts (tk_good_in lwm_184) rfl rfl rfl (hts _ tk_ii_6) (hts _ lwl_184) (by decide +kernel) ⟨Nat.le_of_ble_eq_true rfl, Nat.le_of_ble_eq_true rfl⟩, hts _ lwi_184, hts _ lws_184⟩ ⟨fun a U g mk q => by obtain ⟨q0, qP, qK⟩ := q; exact ⟨q0, qP, va_K.moved (u := U) (U := U.calling g mk a) (Vm.Alike.refl U.vm) qK⟩, va_recv hK hP (ci := 6) (q0 := 29) rfl rfl, fun U hU hW => ⟨rfl, by rw [hU]; exact hP, va_K.moved hW.alike hK⟩⟩ rfl rfl hl.1 rfl (lv_room (Nat.le_of_ble_eq_true rfl)) dl_704 ⟨Nat.le_of_ble_eq_true rfl, Nat.le_of_ble_eq_true rfl⟩) hS (fun _ _ h => h) (fun _ h => h) (fun r2 u2 tr2 H locs ht hvm hr2 hB hz1 hk1 hS => ?_)
  obtain ⟨hP, hw⟩ := hB
  rw [ht] at hP
  obtain ⟨he, hI2⟩ := hr2
  have he : r2 = r := by cases he; rfl
  refine lv_icmp_eq (tgt := 830) hx hb dl_707 (by decide) (fun cc => ?_) (fun cc => ?_)
  · exact hN u2 _ _ ls hI2 hw hP hS hl
  · exact absurd he.symm cc
theorem lwm_119 : te_119 ∈ tk_all := List.mem_of_getElem? (i := 119) rfl
theorem lwl_119 : Cond.methodLink R_law 104 te_119.1 ∈ tk_TB := tkm 731 (by decide +kernel) rfl
theorem lwi_119 : Cond.instanceMethod te_119.1 ∈ tk_TB := tk_tb (tk_w1s (tk_w1 te_119) (List.mem_map.mpr ⟨te_119, lwm_119, rfl⟩)) rfl
theorem lws_119 : Cond.selects te_119.1.cls te_119.1 te_119.1 ∈ tk_TB := tk_tb (tk_w2s (tk_w2 te_119) (List.mem_map.mpr ⟨te_119, lwm_119, rfl⟩)) rfl
theorem lwm_185 : te_185 ∈ tk_all := List.mem_of_getElem? (i := 185) rfl
theorem lwl_185 : Cond.methodLink R_law 107 te_185.1 ∈ tk_TB := tkm 1141 (by decide +kernel) rfl
theorem lwi_185 : Cond.instanceMethod te_185.1 ∈ tk_TB := tk_tb (tk_w1s (tk_w1 te_185) (List.mem_map.mpr ⟨te_185, lwm_185, rfl⟩)) rfl
theorem lws_185 : Cond.selects te_185.1.cls te_185.1 te_185.1 ∈ tk_TB := tk_tb (tk_w2s (tk_w2 te_185) (List.mem_map.mpr ⟨te_185, lwm_185, rfl⟩)) rfl
set_option maxHeartbeats 4000000 in
set_option maxRecDepth 100000 in
theorem lc_idle {p : Program} {l : Launch} {e : Env} {s : State} {m : MethodId} {below : List Frame} {meth : Method} {c : Code} {D : va_G} {cA : Nat → ClassId} {ad : tkAd} {b L : Nat} {xs : Nat → Int32} (C0 : lw_At p s m meth c b L xs) (hK : va_K D tk_cls (tk_tyl cA) s) (hij : ∀ t ∈ tk_ix, ∀ t' ∈ tk_ix, ad t = ad t' → t = t') (hA : ∀ t ∈ tk_ix, (fun q : Nat => s.heap.size ≤ q) (ad t)) {cn : Nat} (hcn : cn ≤ 600) {x3 : Int32} (hv : ∀ k, k < 6 → vp_in (x3 + nI k) L) {w : tkW} (hI : LawI cn w) (hw : tk_wok w) {H : Heap} {locs : List Loc} (hP : va_P D tk_cls (tk_wl ad cA w) H) (hS : va_S (fun q : Nat => s.heap.size ≤ q) s.heap H locs) {ls : Array Slot} (hl : lv_has ls 4 [(0, .ref b), (1, .ref (ad (5, 0, 0))), (2, .ref (ad (6, 0, 0))), (3, .int x3)]) (hN : ∀ (u : tkW) (H : Heap) (locs : List Loc) (ls : Array Slot), LawI (cn + 1) u → tk_wok u → va_P D tk_cls (tk_wl ad cA u) H → va_S (fun q : Nat => s.heap.size ≤ q) s.heap H locs → lv_has ls 4 [(0, .ref b), (1, .ref (ad (5, 0, 0))), (2, .ref (ad (6, 0, 0))), (3, .int x3)] → W p l e room_1 s m #[Value.ref b] below meth c H locs 47 5982 (lw_Z below #[Value.ref b] s) (F0 m 830 ls [])) : W p l e room_1 s m #[Value.ref b] below meth c H locs 47 5982 (lw_Z below #[Value.ref b] s) (F0 m 712 ls []) := by
  obtain ⟨hx, hb, hr, hml, hown, hts0, hX, hbl, hlocks, hgv⟩ := C0
  have hts : ∀ w ∈ tk_TB, w.before #[Value.ref b] s = true := fun w hw => hts0 w (List.mem_filter.mp hw).1
  have hbA : ¬ (fun q : Nat => s.heap.size ≤ q) b := Nat.not_le.mpr hbl
  obtain ⟨S, z, B, on, T, t, hA1, hC1, hM1⟩ := hI
  obtain ⟨I, J, R⟩ := w
  refine lv_aload_n hx hb dl_712 rfl (lv_at hl 1 rfl) ?_
  refine lv_aload_n hx hb dl_713 rfl (lv_at hl 0 rfl) ?_
  refine lv_iload_n hx hb dl_714 rfl (lv_at hl 3 rfl) ?_
  refine lv_iconst (v := 1) hx hb dl_715 (by decide) ?_
  refine lv_iadd hx hb dl_716 ?_
  refine va_sld hx hb hX hbl hbA hS (show vp_in (x3 + 1) L from hv 1 (by decide)) dl_717 ?_
  have hM5 : Met l te_119.1 (Cond.code te_119.1 te_119.2.1 te_119.2.2.1 te_119.2.2.2.1 :: tk_TB) ({ frames := te_119.2.2.2.2.2.2.2.2.1, cells := 0, slots := 0, locals := te_119.2.2.2.2.2.2.2.2.2.1 }) (va_Pc (.ref (ad (5, 0, 0)) :: [.int (xs (x3 + 1).toNatClampNeg)]) (fun U => va_P D tk_cls (tk_wl ad cA (I, J, R)) U.heap ∧ va_K D tk_cls (tk_tyl cA) U)) (va_Qi (fun (ra : Int32) (u : tkW) => tkDn tm_185 (0, [some (.inr (.inr (6, 0, 0))), some (.inl (xs (x3 + 1).toNatClampNeg)), none, none, none, none, none], [], u) (Fin cn (some (.inl ra)))) (fun u t => va_P D tk_cls (tk_wl ad cA u) t.heap ∧ tk_wok u) (fun q : Nat => s.heap.size ≤ q)) 0 0 (fun q : Nat => s.heap.size ≤ q) :=
    tk_contract (l := l) (E := te_119) lwm_119 (as := [.inr (.inr (5, 0, 0)), .inl (xs (x3 + 1).toNatClampNeg)]) (w := (I, J, R)) (Q := fun ra u => tkDn tm_185 (0, [some (.inr (.inr (6, 0, 0))), some (.inl (xs (x3 + 1).toNatClampNeg)), none, none, none, none, none], [], u) (Fin cn (ra))) (pr_idle hA1 hC1 hM1 hcn) (Nat.le_of_ble_eq_true rfl) (vok5 [xs (x3 + 1).toNatClampNeg]) hw (D := D) (cA := cA) (ad := ad) (A := (fun q : Nat => s.heap.size ≤ q)) hij hA
  refine va_calli (va_runV (C := te_119.1.cls) (As := [.int (xs (x3 + 1).toNatClampNeg)]) (rest := []) (bytes := te_119.2.1) (maxL := te_119.2.2.1) (ret := te_119.2.2.2.1) (n := 1) ⟨hx, hb, hml, hown, hts⟩ hM5 ⟨callB_of _ hts (tk_good_in lwm_119) rfl rfl rfl (hts _ tk_ii_5) (hts _ lwl_119) (by decide +kernel) ⟨Nat.le_of_ble_eq_true rfl, Nat.le_of_ble_eq_true rfl⟩, hts _ lwi_119, hts _ lws_119⟩ ⟨fun a U g mk q => by obtain ⟨q0, qP, qK⟩ := q; exact ⟨q0, qP, va_K.moved (u := U) (U := U.calling g mk a) (Vm.Alike.refl U.vm) qK⟩, va_recv hK hP (ci := 5) (q0 := 28) rfl rfl, fun U hU hW => ⟨rfl, by rw [hU]; exact hP, va_K.moved hW.alike hK⟩⟩ rfl rfl hl.1 rfl (lv_room (Nat.le_of_ble_eq_true rfl)) dl_718 ⟨Nat.le_of_ble_eq_true rfl, Nat.le_of_ble_eq_true rfl⟩) hS (fun _ _ h => h) (fun _ h => h) (fun r u tr H locs ht hvm hr hB hz1 hk1 hS => ?_)
  obtain ⟨hP, hw⟩ := hB
  rw [ht] at hP
  refine lv_aload_n hx hb dl_721 rfl (lv_at hl 2 rfl) ?_
  refine lv_aload_n hx hb dl_722 rfl (lv_at hl 0 rfl) ?_
  refine lv_iload_n hx hb dl_723 rfl (lv_at hl 3 rfl) ?_
  refine lv_iconst (v := 1) hx hb dl_724 (by decide) ?_
  refine lv_iadd hx hb dl_725 ?_
  refine va_sld hx hb hX hbl hbA hS (show vp_in (x3 + 1) L from hv 1 (by decide)) dl_726 ?_
  have hM6 : Met l te_185.1 (Cond.code te_185.1 te_185.2.1 te_185.2.2.1 te_185.2.2.2.1 :: tk_TB) ({ frames := te_185.2.2.2.2.2.2.2.2.1, cells := 0, slots := 0, locals := te_185.2.2.2.2.2.2.2.2.2.1 }) (va_Pc (.ref (ad (6, 0, 0)) :: [.int (xs (x3 + 1).toNatClampNeg)]) (fun U => va_P D tk_cls (tk_wl ad cA u) U.heap ∧ va_K D tk_cls (tk_tyl cA) U)) (va_Qi (fun (ra : Int32) (u : tkW) => Fin cn (some (.inl r)) (some (.inl ra)) u) (fun u t => va_P D tk_cls (tk_wl ad cA u) t.heap ∧ tk_wok u) (fun q : Nat => s.heap.size ≤ q)) 0 0 (fun q : Nat => s.heap.size ≤ q) :=
    tk_contract (l := l) (E := te_185) lwm_185 (as := [.inr (.inr (6, 0, 0)), .inl (xs (x3 + 1).toNatClampNeg)]) (w := u) (Q := fun ra u => Fin cn (some (.inl r)) (ra) u) (hr) (Nat.le_of_ble_eq_true rfl) (vok6 [xs (x3 + 1).toNatClampNeg]) hw (D := D) (cA := cA) (ad := ad) (A := (fun q : Nat => s.heap.size ≤ q)) hij hA
  refine va_calli (va_runV (C := te_185.1.cls) (As := [.int (xs (x3 + 1).toNatClampNeg)]) (rest := [.int r]) (bytes := te_185.2.1) (maxL := te_185.2.2.1) (ret := te_185.2.2.2.1) (n := 1) ⟨hx, hb, hml, hown, hts⟩ hM6 ⟨callB_of _ hts (tk_good_in lwm_185) rfl rfl rfl (hts _ tk_ii_6) (hts _ lwl_185) (by decide +kernel) ⟨Nat.le_of_ble_eq_true rfl, Nat.le_of_ble_eq_true rfl⟩, hts _ lwi_185, hts _ lws_185⟩ ⟨fun a U g mk q => by obtain ⟨q0, qP, qK⟩ := q; exact ⟨q0, qP, va_K.moved (u := U) (U := U.calling g mk a) (Vm.Alike.refl U.vm) qK⟩, va_recv hK hP (ci := 6) (q0 := 29) rfl rfl, fun U hU hW => ⟨rfl, by rw [hU]; exact hP, va_K.moved hW.alike hK⟩⟩ rfl rfl hl.1 rfl (lv_room (Nat.le_of_ble_eq_true rfl)) dl_727 ⟨Nat.le_of_ble_eq_true rfl, Nat.le_of_ble_eq_true rfl⟩) hS (fun _ _ h => h) (fun _ h => h) (fun r2 u2 tr2 H locs ht hvm hr2 hB hz1 hk1 hS => ?_)
  obtain ⟨hP, hw⟩ := hB
  rw [ht] at hP
  obtain ⟨he, hI2⟩ := hr2
  have he : r2 = r := by cases he; rfl
  refine lv_icmp_eq (tgt := 830) hx hb dl_730 (by decide) (fun cc => ?_) (fun cc => ?_)
  · exact hN u2 _ _ ls hI2 hw hP hS hl
  · exact absurd he.symm cc
theorem lwm_120 : te_120 ∈ tk_all := List.mem_of_getElem? (i := 120) rfl
theorem lwl_120 : Cond.methodLink R_law 108 te_120.1 ∈ tk_TB := tkm 740 (by decide +kernel) rfl
theorem lwi_120 : Cond.instanceMethod te_120.1 ∈ tk_TB := tk_tb (tk_w1s (tk_w1 te_120) (List.mem_map.mpr ⟨te_120, lwm_120, rfl⟩)) rfl
theorem lws_120 : Cond.selects te_120.1.cls te_120.1 te_120.1 ∈ tk_TB := tk_tb (tk_w2s (tk_w2 te_120) (List.mem_map.mpr ⟨te_120, lwm_120, rfl⟩)) rfl
theorem lwm_186 : te_186 ∈ tk_all := List.mem_of_getElem? (i := 186) rfl
theorem lwl_186 : Cond.methodLink R_law 111 te_186.1 ∈ tk_TB := tkm 1146 (by decide +kernel) rfl
theorem lwi_186 : Cond.instanceMethod te_186.1 ∈ tk_TB := tk_tb (tk_w1s (tk_w1 te_186) (List.mem_map.mpr ⟨te_186, lwm_186, rfl⟩)) rfl
theorem lws_186 : Cond.selects te_186.1.cls te_186.1 te_186.1 ∈ tk_TB := tk_tb (tk_w2s (tk_w2 te_186) (List.mem_map.mpr ⟨te_186, lwm_186, rfl⟩)) rfl
set_option maxHeartbeats 4000000 in
set_option maxRecDepth 100000 in
theorem lc_came {p : Program} {l : Launch} {e : Env} {s : State} {m : MethodId} {below : List Frame} {meth : Method} {c : Code} {D : va_G} {cA : Nat → ClassId} {ad : tkAd} {b L : Nat} {xs : Nat → Int32} (C0 : lw_At p s m meth c b L xs) (hK : va_K D tk_cls (tk_tyl cA) s) (hij : ∀ t ∈ tk_ix, ∀ t' ∈ tk_ix, ad t = ad t' → t = t') (hA : ∀ t ∈ tk_ix, (fun q : Nat => s.heap.size ≤ q) (ad t)) {cn : Nat} (hcn : cn ≤ 600) {x3 : Int32} (hv : ∀ k, k < 6 → vp_in (x3 + nI k) L) {w : tkW} (hI : LawI cn w) (hw : tk_wok w) {H : Heap} {locs : List Loc} (hP : va_P D tk_cls (tk_wl ad cA w) H) (hS : va_S (fun q : Nat => s.heap.size ≤ q) s.heap H locs) {ls : Array Slot} (hl : lv_has ls 4 [(0, .ref b), (1, .ref (ad (5, 0, 0))), (2, .ref (ad (6, 0, 0))), (3, .int x3)]) (hN : ∀ (u : tkW) (H : Heap) (locs : List Loc) (ls : Array Slot), LawI (cn + 1) u → tk_wok u → va_P D tk_cls (tk_wl ad cA u) H → va_S (fun q : Nat => s.heap.size ≤ q) s.heap H locs → lv_has ls 4 [(0, .ref b), (1, .ref (ad (5, 0, 0))), (2, .ref (ad (6, 0, 0))), (3, .int x3)] → W p l e room_1 s m #[Value.ref b] below meth c H locs 47 5982 (lw_Z below #[Value.ref b] s) (F0 m 830 ls [])) : W p l e room_1 s m #[Value.ref b] below meth c H locs 47 5982 (lw_Z below #[Value.ref b] s) (F0 m 735 ls []) := by
  obtain ⟨hx, hb, hr, hml, hown, hts0, hX, hbl, hlocks, hgv⟩ := C0
  have hts : ∀ w ∈ tk_TB, w.before #[Value.ref b] s = true := fun w hw => hts0 w (List.mem_filter.mp hw).1
  have hbA : ¬ (fun q : Nat => s.heap.size ≤ q) b := Nat.not_le.mpr hbl
  obtain ⟨S, z, B, on, T, t, hA1, hC1, hM1⟩ := hI
  obtain ⟨I, J, R⟩ := w
  refine lv_aload_n hx hb dl_735 rfl (lv_at hl 1 rfl) ?_
  refine lv_aload_n hx hb dl_736 rfl (lv_at hl 0 rfl) ?_
  refine lv_iload_n hx hb dl_737 rfl (lv_at hl 3 rfl) ?_
  refine lv_iconst (v := 1) hx hb dl_738 (by decide) ?_
  refine lv_iadd hx hb dl_739 ?_
  refine va_sld hx hb hX hbl hbA hS (show vp_in (x3 + 1) L from hv 1 (by decide)) dl_740 ?_
  have hM5 : Met l te_120.1 (Cond.code te_120.1 te_120.2.1 te_120.2.2.1 te_120.2.2.2.1 :: tk_TB) ({ frames := te_120.2.2.2.2.2.2.2.2.1, cells := 0, slots := 0, locals := te_120.2.2.2.2.2.2.2.2.2.1 }) (va_Pc (.ref (ad (5, 0, 0)) :: [.int (xs (x3 + 1).toNatClampNeg)]) (fun U => va_P D tk_cls (tk_wl ad cA (I, J, R)) U.heap ∧ va_K D tk_cls (tk_tyl cA) U)) (va_Qi (fun (ra : Int32) (u : tkW) => tkDn tm_186 (0, [some (.inr (.inr (6, 0, 0))), some (.inl (xs (x3 + 1).toNatClampNeg))], [], u) (Fin cn (some (.inl ra)))) (fun u t => va_P D tk_cls (tk_wl ad cA u) t.heap ∧ tk_wok u) (fun q : Nat => s.heap.size ≤ q)) 0 0 (fun q : Nat => s.heap.size ≤ q) :=
    tk_contract (l := l) (E := te_120) lwm_120 (as := [.inr (.inr (5, 0, 0)), .inl (xs (x3 + 1).toNatClampNeg)]) (w := (I, J, R)) (Q := fun ra u => tkDn tm_186 (0, [some (.inr (.inr (6, 0, 0))), some (.inl (xs (x3 + 1).toNatClampNeg))], [], u) (Fin cn (ra))) (pr_came hA1 hC1 hM1) (Nat.le_of_ble_eq_true rfl) (vok5 [xs (x3 + 1).toNatClampNeg]) hw (D := D) (cA := cA) (ad := ad) (A := (fun q : Nat => s.heap.size ≤ q)) hij hA
  refine va_calli (va_runV (C := te_120.1.cls) (As := [.int (xs (x3 + 1).toNatClampNeg)]) (rest := []) (bytes := te_120.2.1) (maxL := te_120.2.2.1) (ret := te_120.2.2.2.1) (n := 1) ⟨hx, hb, hml, hown, hts⟩ hM5 ⟨callB_of _ hts (tk_good_in lwm_120) rfl rfl rfl (hts _ tk_ii_5) (hts _ lwl_120) (by decide +kernel) ⟨Nat.le_of_ble_eq_true rfl, Nat.le_of_ble_eq_true rfl⟩, hts _ lwi_120, hts _ lws_120⟩ ⟨fun a U g mk q => by obtain ⟨q0, qP, qK⟩ := q; exact ⟨q0, qP, va_K.moved (u := U) (U := U.calling g mk a) (Vm.Alike.refl U.vm) qK⟩, va_recv hK hP (ci := 5) (q0 := 28) rfl rfl, fun U hU hW => ⟨rfl, by rw [hU]; exact hP, va_K.moved hW.alike hK⟩⟩ rfl rfl hl.1 rfl (lv_room (Nat.le_of_ble_eq_true rfl)) dl_741 ⟨Nat.le_of_ble_eq_true rfl, Nat.le_of_ble_eq_true rfl⟩) hS (fun _ _ h => h) (fun _ h => h) (fun r u tr H locs ht hvm hr hB hz1 hk1 hS => ?_)
  obtain ⟨hP, hw⟩ := hB
  rw [ht] at hP
  refine lv_aload_n hx hb dl_744 rfl (lv_at hl 2 rfl) ?_
  refine lv_aload_n hx hb dl_745 rfl (lv_at hl 0 rfl) ?_
  refine lv_iload_n hx hb dl_746 rfl (lv_at hl 3 rfl) ?_
  refine lv_iconst (v := 1) hx hb dl_747 (by decide) ?_
  refine lv_iadd hx hb dl_748 ?_
  refine va_sld hx hb hX hbl hbA hS (show vp_in (x3 + 1) L from hv 1 (by decide)) dl_749 ?_
  have hM6 : Met l te_186.1 (Cond.code te_186.1 te_186.2.1 te_186.2.2.1 te_186.2.2.2.1 :: tk_TB) ({ frames := te_186.2.2.2.2.2.2.2.2.1, cells := 0, slots := 0, locals := te_186.2.2.2.2.2.2.2.2.2.1 }) (va_Pc (.ref (ad (6, 0, 0)) :: [.int (xs (x3 + 1).toNatClampNeg)]) (fun U => va_P D tk_cls (tk_wl ad cA u) U.heap ∧ va_K D tk_cls (tk_tyl cA) U)) (va_Qi (fun (ra : Int32) (u : tkW) => Fin cn (some (.inl r)) (some (.inl ra)) u) (fun u t => va_P D tk_cls (tk_wl ad cA u) t.heap ∧ tk_wok u) (fun q : Nat => s.heap.size ≤ q)) 0 0 (fun q : Nat => s.heap.size ≤ q) :=
    tk_contract (l := l) (E := te_186) lwm_186 (as := [.inr (.inr (6, 0, 0)), .inl (xs (x3 + 1).toNatClampNeg)]) (w := u) (Q := fun ra u => Fin cn (some (.inl r)) (ra) u) (hr) (Nat.le_of_ble_eq_true rfl) (vok6 [xs (x3 + 1).toNatClampNeg]) hw (D := D) (cA := cA) (ad := ad) (A := (fun q : Nat => s.heap.size ≤ q)) hij hA
  refine va_calli (va_runV (C := te_186.1.cls) (As := [.int (xs (x3 + 1).toNatClampNeg)]) (rest := [.int r]) (bytes := te_186.2.1) (maxL := te_186.2.2.1) (ret := te_186.2.2.2.1) (n := 1) ⟨hx, hb, hml, hown, hts⟩ hM6 ⟨callB_of _ hts (tk_good_in lwm_186) rfl rfl rfl (hts _ tk_ii_6) (hts _ lwl_186) (by decide +kernel) ⟨Nat.le_of_ble_eq_true rfl, Nat.le_of_ble_eq_true rfl⟩, hts _ lwi_186, hts _ lws_186⟩ ⟨fun a U g mk q => by obtain ⟨q0, qP, qK⟩ := q; exact ⟨q0, qP, va_K.moved (u := U) (U := U.calling g mk a) (Vm.Alike.refl U.vm) qK⟩, va_recv hK hP (ci := 6) (q0 := 29) rfl rfl, fun U hU hW => ⟨rfl, by rw [hU]; exact hP, va_K.moved hW.alike hK⟩⟩ rfl rfl hl.1 rfl (lv_room (Nat.le_of_ble_eq_true rfl)) dl_750 ⟨Nat.le_of_ble_eq_true rfl, Nat.le_of_ble_eq_true rfl⟩) hS (fun _ _ h => h) (fun _ h => h) (fun r2 u2 tr2 H locs ht hvm hr2 hB hz1 hk1 hS => ?_)
  obtain ⟨hP, hw⟩ := hB
  rw [ht] at hP
  obtain ⟨he, hI2⟩ := hr2
  have he : r2 = r := by cases he; rfl
  refine lv_icmp_eq (tgt := 830) hx hb dl_753 (by decide) (fun cc => ?_) (fun cc => ?_)
  · exact hN u2 _ _ ls hI2 hw hP hS hl
  · exact absurd he.symm cc
theorem lwm_121 : te_121 ∈ tk_all := List.mem_of_getElem? (i := 121) rfl
theorem lwl_121 : Cond.methodLink R_law 112 te_121.1 ∈ tk_TB := tkm 748 (by decide +kernel) rfl
theorem lwi_121 : Cond.instanceMethod te_121.1 ∈ tk_TB := tk_tb (tk_w1s (tk_w1 te_121) (List.mem_map.mpr ⟨te_121, lwm_121, rfl⟩)) rfl
theorem lws_121 : Cond.selects te_121.1.cls te_121.1 te_121.1 ∈ tk_TB := tk_tb (tk_w2s (tk_w2 te_121) (List.mem_map.mpr ⟨te_121, lwm_121, rfl⟩)) rfl
theorem lwm_187 : te_187 ∈ tk_all := List.mem_of_getElem? (i := 187) rfl
theorem lwl_187 : Cond.methodLink R_law 115 te_187.1 ∈ tk_TB := tkm 1150 (by decide +kernel) rfl
theorem lwi_187 : Cond.instanceMethod te_187.1 ∈ tk_TB := tk_tb (tk_w1s (tk_w1 te_187) (List.mem_map.mpr ⟨te_187, lwm_187, rfl⟩)) rfl
theorem lws_187 : Cond.selects te_187.1.cls te_187.1 te_187.1 ∈ tk_TB := tk_tb (tk_w2s (tk_w2 te_187) (List.mem_map.mpr ⟨te_187, lwm_187, rfl⟩)) rfl
set_option maxHeartbeats 4000000 in
set_option maxRecDepth 100000 in
theorem lc_may {p : Program} {l : Launch} {e : Env} {s : State} {m : MethodId} {below : List Frame} {meth : Method} {c : Code} {D : va_G} {cA : Nat → ClassId} {ad : tkAd} {b L : Nat} {xs : Nat → Int32} (C0 : lw_At p s m meth c b L xs) (hK : va_K D tk_cls (tk_tyl cA) s) (hij : ∀ t ∈ tk_ix, ∀ t' ∈ tk_ix, ad t = ad t' → t = t') (hA : ∀ t ∈ tk_ix, (fun q : Nat => s.heap.size ≤ q) (ad t)) {cn : Nat} (hcn : cn ≤ 600) {x3 : Int32} (hv : ∀ k, k < 6 → vp_in (x3 + nI k) L) {w : tkW} (hI : LawI cn w) (hw : tk_wok w) {H : Heap} {locs : List Loc} (hP : va_P D tk_cls (tk_wl ad cA w) H) (hS : va_S (fun q : Nat => s.heap.size ≤ q) s.heap H locs) {ls : Array Slot} (hl : lv_has ls 4 [(0, .ref b), (1, .ref (ad (5, 0, 0))), (2, .ref (ad (6, 0, 0))), (3, .int x3)]) (hN : ∀ (u : tkW) (H : Heap) (locs : List Loc) (ls : Array Slot), LawI (cn + 1) u → tk_wok u → va_P D tk_cls (tk_wl ad cA u) H → va_S (fun q : Nat => s.heap.size ≤ q) s.heap H locs → lv_has ls 4 [(0, .ref b), (1, .ref (ad (5, 0, 0))), (2, .ref (ad (6, 0, 0))), (3, .int x3)] → W p l e room_1 s m #[Value.ref b] below meth c H locs 47 5982 (lw_Z below #[Value.ref b] s) (F0 m 830 ls [])) : W p l e room_1 s m #[Value.ref b] below meth c H locs 47 5982 (lw_Z below #[Value.ref b] s) (F0 m 758 ls []) := by
  obtain ⟨hx, hb, hr, hml, hown, hts0, hX, hbl, hlocks, hgv⟩ := C0
  have hts : ∀ w ∈ tk_TB, w.before #[Value.ref b] s = true := fun w hw => hts0 w (List.mem_filter.mp hw).1
  have hbA : ¬ (fun q : Nat => s.heap.size ≤ q) b := Nat.not_le.mpr hbl
  obtain ⟨S, z, B, on, T, t, hA1, hC1, hM1⟩ := hI
  obtain ⟨I, J, R⟩ := w
  refine lv_aload_n hx hb dl_758 rfl (lv_at hl 1 rfl) ?_
  refine lv_aload_n hx hb dl_759 rfl (lv_at hl 0 rfl) ?_
  refine lv_iload_n hx hb dl_760 rfl (lv_at hl 3 rfl) ?_
  refine lv_iconst (v := 1) hx hb dl_761 (by decide) ?_
  refine lv_iadd hx hb dl_762 ?_
  refine va_sld hx hb hX hbl hbA hS (show vp_in (x3 + 1) L from hv 1 (by decide)) dl_763 ?_
  have hM5 : Met l te_121.1 (Cond.code te_121.1 te_121.2.1 te_121.2.2.1 te_121.2.2.2.1 :: tk_TB) ({ frames := te_121.2.2.2.2.2.2.2.2.1, cells := 0, slots := 0, locals := te_121.2.2.2.2.2.2.2.2.2.1 }) (va_Pc (.ref (ad (5, 0, 0)) :: [.int (xs (x3 + 1).toNatClampNeg)]) (fun U => va_P D tk_cls (tk_wl ad cA (I, J, R)) U.heap ∧ va_K D tk_cls (tk_tyl cA) U)) (va_Qi (fun (ra : Int32) (u : tkW) => tkDn tm_187 (0, [some (.inr (.inr (6, 0, 0))), some (.inl (xs (x3 + 1).toNatClampNeg))], [], u) (Fin cn (some (.inl ra)))) (fun u t => va_P D tk_cls (tk_wl ad cA u) t.heap ∧ tk_wok u) (fun q : Nat => s.heap.size ≤ q)) 0 0 (fun q : Nat => s.heap.size ≤ q) :=
    tk_contract (l := l) (E := te_121) lwm_121 (as := [.inr (.inr (5, 0, 0)), .inl (xs (x3 + 1).toNatClampNeg)]) (w := (I, J, R)) (Q := fun ra u => tkDn tm_187 (0, [some (.inr (.inr (6, 0, 0))), some (.inl (xs (x3 + 1).toNatClampNeg))], [], u) (Fin cn (ra))) (pr_may hA1 hC1 hM1) (Nat.le_of_ble_eq_true rfl) (vok5 [xs (x3 + 1).toNatClampNeg]) hw (D := D) (cA := cA) (ad := ad) (A := (fun q : Nat => s.heap.size ≤ q)) hij hA
  refine va_calli (va_runV (C := te_121.1.cls) (As := [.int (xs (x3 + 1).toNatClampNeg)]) (rest := []) (bytes := te_121.2.1) (maxL := te_121.2.2.1) (ret := te_121.2.2.2.1) (n := 1) ⟨hx, hb, hml, hown, hts⟩ hM5 ⟨callB_of _ hts (tk_good_in lwm_121) rfl rfl rfl (hts _ tk_ii_5) (hts _ lwl_121) (by decide +kernel) ⟨Nat.le_of_ble_eq_true rfl, Nat.le_of_ble_eq_true rfl⟩, hts _ lwi_121, hts _ lws_121⟩ ⟨fun a U g mk q => by obtain ⟨q0, qP, qK⟩ := q; exact ⟨q0, qP, va_K.moved (u := U) (U := U.calling g mk a) (Vm.Alike.refl U.vm) qK⟩, va_recv hK hP (ci := 5) (q0 := 28) rfl rfl, fun U hU hW => ⟨rfl, by rw [hU]; exact hP, va_K.moved hW.alike hK⟩⟩ rfl rfl hl.1 rfl (lv_room (Nat.le_of_ble_eq_true rfl)) dl_764 ⟨Nat.le_of_ble_eq_true rfl, Nat.le_of_ble_eq_true rfl⟩) hS (fun _ _ h => h) (fun _ h => h) (fun r u tr H locs ht hvm hr hB hz1 hk1 hS => ?_)
  obtain ⟨hP, hw⟩ := hB
  rw [ht] at hP
  refine lv_aload_n hx hb dl_767 rfl (lv_at hl 2 rfl) ?_
  refine lv_aload_n hx hb dl_768 rfl (lv_at hl 0 rfl) ?_
  refine lv_iload_n hx hb dl_769 rfl (lv_at hl 3 rfl) ?_
  refine lv_iconst (v := 1) hx hb dl_770 (by decide) ?_
  refine lv_iadd hx hb dl_771 ?_
  refine va_sld hx hb hX hbl hbA hS (show vp_in (x3 + 1) L from hv 1 (by decide)) dl_772 ?_
  have hM6 : Met l te_187.1 (Cond.code te_187.1 te_187.2.1 te_187.2.2.1 te_187.2.2.2.1 :: tk_TB) ({ frames := te_187.2.2.2.2.2.2.2.2.1, cells := 0, slots := 0, locals := te_187.2.2.2.2.2.2.2.2.2.1 }) (va_Pc (.ref (ad (6, 0, 0)) :: [.int (xs (x3 + 1).toNatClampNeg)]) (fun U => va_P D tk_cls (tk_wl ad cA u) U.heap ∧ va_K D tk_cls (tk_tyl cA) U)) (va_Qi (fun (ra : Int32) (u : tkW) => Fin cn (some (.inl r)) (some (.inl ra)) u) (fun u t => va_P D tk_cls (tk_wl ad cA u) t.heap ∧ tk_wok u) (fun q : Nat => s.heap.size ≤ q)) 0 0 (fun q : Nat => s.heap.size ≤ q) :=
    tk_contract (l := l) (E := te_187) lwm_187 (as := [.inr (.inr (6, 0, 0)), .inl (xs (x3 + 1).toNatClampNeg)]) (w := u) (Q := fun ra u => Fin cn (some (.inl r)) (ra) u) (hr) (Nat.le_of_ble_eq_true rfl) (vok6 [xs (x3 + 1).toNatClampNeg]) hw (D := D) (cA := cA) (ad := ad) (A := (fun q : Nat => s.heap.size ≤ q)) hij hA
  refine va_calli (va_runV (C := te_187.1.cls) (As := [.int (xs (x3 + 1).toNatClampNeg)]) (rest := [.int r]) (bytes := te_187.2.1) (maxL := te_187.2.2.1) (ret := te_187.2.2.2.1) (n := 1) ⟨hx, hb, hml, hown, hts⟩ hM6 ⟨callB_of _ hts (tk_good_in lwm_187) rfl rfl rfl (hts _ tk_ii_6) (hts _ lwl_187) (by decide +kernel) ⟨Nat.le_of_ble_eq_true rfl, Nat.le_of_ble_eq_true rfl⟩, hts _ lwi_187, hts _ lws_187⟩ ⟨fun a U g mk q => by obtain ⟨q0, qP, qK⟩ := q; exact ⟨q0, qP, va_K.moved (u := U) (U := U.calling g mk a) (Vm.Alike.refl U.vm) qK⟩, va_recv hK hP (ci := 6) (q0 := 29) rfl rfl, fun U hU hW => ⟨rfl, by rw [hU]; exact hP, va_K.moved hW.alike hK⟩⟩ rfl rfl hl.1 rfl (lv_room (Nat.le_of_ble_eq_true rfl)) dl_773 ⟨Nat.le_of_ble_eq_true rfl, Nat.le_of_ble_eq_true rfl⟩) hS (fun _ _ h => h) (fun _ h => h) (fun r2 u2 tr2 H locs ht hvm hr2 hB hz1 hk1 hS => ?_)
  obtain ⟨hP, hw⟩ := hB
  rw [ht] at hP
  obtain ⟨he, hI2⟩ := hr2
  have he : r2 = r := by cases he; rfl
  refine lv_icmp_eq (tgt := 830) hx hb dl_776 (by decide) (fun cc => ?_) (fun cc => ?_)
  · exact hN u2 _ _ ls hI2 hw hP hS hl
  · exact absurd he.symm cc
theorem lwm_122 : te_122 ∈ tk_all := List.mem_of_getElem? (i := 122) rfl
theorem lwl_122 : Cond.methodLink R_law 116 te_122.1 ∈ tk_TB := tkm 757 (by decide +kernel) rfl
theorem lwi_122 : Cond.instanceMethod te_122.1 ∈ tk_TB := tk_tb (tk_w1s (tk_w1 te_122) (List.mem_map.mpr ⟨te_122, lwm_122, rfl⟩)) rfl
theorem lws_122 : Cond.selects te_122.1.cls te_122.1 te_122.1 ∈ tk_TB := tk_tb (tk_w2s (tk_w2 te_122) (List.mem_map.mpr ⟨te_122, lwm_122, rfl⟩)) rfl
theorem lwm_188 : te_188 ∈ tk_all := List.mem_of_getElem? (i := 188) rfl
theorem lwl_188 : Cond.methodLink R_law 119 te_188.1 ∈ tk_TB := tkm 1154 (by decide +kernel) rfl
theorem lwi_188 : Cond.instanceMethod te_188.1 ∈ tk_TB := tk_tb (tk_w1s (tk_w1 te_188) (List.mem_map.mpr ⟨te_188, lwm_188, rfl⟩)) rfl
theorem lws_188 : Cond.selects te_188.1.cls te_188.1 te_188.1 ∈ tk_TB := tk_tb (tk_w2s (tk_w2 te_188) (List.mem_map.mpr ⟨te_188, lwm_188, rfl⟩)) rfl
set_option maxHeartbeats 4000000 in
set_option maxRecDepth 100000 in
theorem lc_now {p : Program} {l : Launch} {e : Env} {s : State} {m : MethodId} {below : List Frame} {meth : Method} {c : Code} {D : va_G} {cA : Nat → ClassId} {ad : tkAd} {b L : Nat} {xs : Nat → Int32} (C0 : lw_At p s m meth c b L xs) (hK : va_K D tk_cls (tk_tyl cA) s) (hij : ∀ t ∈ tk_ix, ∀ t' ∈ tk_ix, ad t = ad t' → t = t') (hA : ∀ t ∈ tk_ix, (fun q : Nat => s.heap.size ≤ q) (ad t)) {cn : Nat} (hcn : cn ≤ 600) {x3 : Int32} (hv : ∀ k, k < 6 → vp_in (x3 + nI k) L) {w : tkW} (hI : LawI cn w) (hw : tk_wok w) {H : Heap} {locs : List Loc} (hP : va_P D tk_cls (tk_wl ad cA w) H) (hS : va_S (fun q : Nat => s.heap.size ≤ q) s.heap H locs) {ls : Array Slot} (hl : lv_has ls 4 [(0, .ref b), (1, .ref (ad (5, 0, 0))), (2, .ref (ad (6, 0, 0))), (3, .int x3)]) (hN : ∀ (u : tkW) (H : Heap) (locs : List Loc) (ls : Array Slot), LawI (cn + 1) u → tk_wok u → va_P D tk_cls (tk_wl ad cA u) H → va_S (fun q : Nat => s.heap.size ≤ q) s.heap H locs → lv_has ls 4 [(0, .ref b), (1, .ref (ad (5, 0, 0))), (2, .ref (ad (6, 0, 0))), (3, .int x3)] → W p l e room_1 s m #[Value.ref b] below meth c H locs 47 5982 (lw_Z below #[Value.ref b] s) (F0 m 830 ls [])) : W p l e room_1 s m #[Value.ref b] below meth c H locs 47 5982 (lw_Z below #[Value.ref b] s) (F0 m 781 ls []) := by
  obtain ⟨hx, hb, hr, hml, hown, hts0, hX, hbl, hlocks, hgv⟩ := C0
  have hts : ∀ w ∈ tk_TB, w.before #[Value.ref b] s = true := fun w hw => hts0 w (List.mem_filter.mp hw).1
  have hbA : ¬ (fun q : Nat => s.heap.size ≤ q) b := Nat.not_le.mpr hbl
  obtain ⟨S, z, B, on, T, t, hA1, hC1, hM1⟩ := hI
  obtain ⟨I, J, R⟩ := w
  refine lv_aload_n hx hb dl_781 rfl (lv_at hl 1 rfl) ?_
  have hM5 : Met l te_122.1 (Cond.code te_122.1 te_122.2.1 te_122.2.2.1 te_122.2.2.2.1 :: tk_TB) ({ frames := te_122.2.2.2.2.2.2.2.2.1, cells := 0, slots := 0, locals := te_122.2.2.2.2.2.2.2.2.2.1 }) (va_Pc (.ref (ad (5, 0, 0)) :: []) (fun U => va_P D tk_cls (tk_wl ad cA (I, J, R)) U.heap ∧ va_K D tk_cls (tk_tyl cA) U)) (va_Qi (fun (ra : Int32) (u : tkW) => tkDn tm_188 (0, [some (.inr (.inr (6, 0, 0)))], [], u) (Fin cn (some (.inl ra)))) (fun u t => va_P D tk_cls (tk_wl ad cA u) t.heap ∧ tk_wok u) (fun q : Nat => s.heap.size ≤ q)) 0 0 (fun q : Nat => s.heap.size ≤ q) :=
    tk_contract (l := l) (E := te_122) lwm_122 (as := [.inr (.inr (5, 0, 0))]) (w := (I, J, R)) (Q := fun ra u => tkDn tm_188 (0, [some (.inr (.inr (6, 0, 0)))], [], u) (Fin cn (ra))) (pr_now hA1 hC1 hM1) (Nat.le_of_ble_eq_true rfl) (vok5 []) hw (D := D) (cA := cA) (ad := ad) (A := (fun q : Nat => s.heap.size ≤ q)) hij hA
  refine va_calli (va_runV (C := te_122.1.cls) (As := []) (rest := []) (bytes := te_122.2.1) (maxL := te_122.2.2.1) (ret := te_122.2.2.2.1) (n := 0) ⟨hx, hb, hml, hown, hts⟩ hM5 ⟨callB_of _ hts (tk_good_in lwm_122) rfl rfl rfl (hts _ tk_ii_5) (hts _ lwl_122) (by decide +kernel) ⟨Nat.le_of_ble_eq_true rfl, Nat.le_of_ble_eq_true rfl⟩, hts _ lwi_122, hts _ lws_122⟩ ⟨fun a U g mk q => by obtain ⟨q0, qP, qK⟩ := q; exact ⟨q0, qP, va_K.moved (u := U) (U := U.calling g mk a) (Vm.Alike.refl U.vm) qK⟩, va_recv hK hP (ci := 5) (q0 := 28) rfl rfl, fun U hU hW => ⟨rfl, by rw [hU]; exact hP, va_K.moved hW.alike hK⟩⟩ rfl rfl hl.1 rfl (lv_room (Nat.le_of_ble_eq_true rfl)) dl_782 ⟨Nat.le_of_ble_eq_true rfl, Nat.le_of_ble_eq_true rfl⟩) hS (fun _ _ h => h) (fun _ h => h) (fun r u tr H locs ht hvm hr hB hz1 hk1 hS => ?_)
  obtain ⟨hP, hw⟩ := hB
  rw [ht] at hP
  refine lv_aload_n hx hb dl_785 rfl (lv_at hl 2 rfl) ?_
  have hM6 : Met l te_188.1 (Cond.code te_188.1 te_188.2.1 te_188.2.2.1 te_188.2.2.2.1 :: tk_TB) ({ frames := te_188.2.2.2.2.2.2.2.2.1, cells := 0, slots := 0, locals := te_188.2.2.2.2.2.2.2.2.2.1 }) (va_Pc (.ref (ad (6, 0, 0)) :: []) (fun U => va_P D tk_cls (tk_wl ad cA u) U.heap ∧ va_K D tk_cls (tk_tyl cA) U)) (va_Qi (fun (ra : Int32) (u : tkW) => Fin cn (some (.inl r)) (some (.inl ra)) u) (fun u t => va_P D tk_cls (tk_wl ad cA u) t.heap ∧ tk_wok u) (fun q : Nat => s.heap.size ≤ q)) 0 0 (fun q : Nat => s.heap.size ≤ q) :=
    tk_contract (l := l) (E := te_188) lwm_188 (as := [.inr (.inr (6, 0, 0))]) (w := u) (Q := fun ra u => Fin cn (some (.inl r)) (ra) u) (hr) (Nat.le_of_ble_eq_true rfl) (vok6 []) hw (D := D) (cA := cA) (ad := ad) (A := (fun q : Nat => s.heap.size ≤ q)) hij hA
  refine va_calli (va_runV (C := te_188.1.cls) (As := []) (rest := [.int r]) (bytes := te_188.2.1) (maxL := te_188.2.2.1) (ret := te_188.2.2.2.1) (n := 0) ⟨hx, hb, hml, hown, hts⟩ hM6 ⟨callB_of _ hts (tk_good_in lwm_188) rfl rfl rfl (hts _ tk_ii_6) (hts _ lwl_188) (by decide +kernel) ⟨Nat.le_of_ble_eq_true rfl, Nat.le_of_ble_eq_true rfl⟩, hts _ lwi_188, hts _ lws_188⟩ ⟨fun a U g mk q => by obtain ⟨q0, qP, qK⟩ := q; exact ⟨q0, qP, va_K.moved (u := U) (U := U.calling g mk a) (Vm.Alike.refl U.vm) qK⟩, va_recv hK hP (ci := 6) (q0 := 29) rfl rfl, fun U hU hW => ⟨rfl, by rw [hU]; exact hP, va_K.moved hW.alike hK⟩⟩ rfl rfl hl.1 rfl (lv_room (Nat.le_of_ble_eq_true rfl)) dl_786 ⟨Nat.le_of_ble_eq_true rfl, Nat.le_of_ble_eq_true rfl⟩) hS (fun _ _ h => h) (fun _ h => h) (fun r2 u2 tr2 H locs ht hvm hr2 hB hz1 hk1 hS => ?_)
  obtain ⟨hP, hw⟩ := hB
  rw [ht] at hP
  obtain ⟨he, hI2⟩ := hr2
  have he : r2 = r := by cases he; rfl
  refine lv_icmp_eq (tgt := 830) hx hb dl_789 (by decide) (fun cc => ?_) (fun cc => ?_)
  · exact hN u2 _ _ ls hI2 hw hP hS hl
  · exact absurd he.symm cc
theorem lwm_123 : te_123 ∈ tk_all := List.mem_of_getElem? (i := 123) rfl
theorem lwl_123 : Cond.methodLink R_law 120 te_123.1 ∈ tk_TB := tkm 765 (by decide +kernel) rfl
theorem lwi_123 : Cond.instanceMethod te_123.1 ∈ tk_TB := tk_tb (tk_w1s (tk_w1 te_123) (List.mem_map.mpr ⟨te_123, lwm_123, rfl⟩)) rfl
theorem lws_123 : Cond.selects te_123.1.cls te_123.1 te_123.1 ∈ tk_TB := tk_tb (tk_w2s (tk_w2 te_123) (List.mem_map.mpr ⟨te_123, lwm_123, rfl⟩)) rfl
theorem lwm_189 : te_189 ∈ tk_all := List.mem_of_getElem? (i := 189) rfl
theorem lwl_189 : Cond.methodLink R_law 123 te_189.1 ∈ tk_TB := tkm 1158 (by decide +kernel) rfl
theorem lwi_189 : Cond.instanceMethod te_189.1 ∈ tk_TB := tk_tb (tk_w1s (tk_w1 te_189) (List.mem_map.mpr ⟨te_189, lwm_189, rfl⟩)) rfl
theorem lws_189 : Cond.selects te_189.1.cls te_189.1 te_189.1 ∈ tk_TB := tk_tb (tk_w2s (tk_w2 te_189) (List.mem_map.mpr ⟨te_189, lwm_189, rfl⟩)) rfl
set_option maxHeartbeats 4000000 in
set_option maxRecDepth 100000 in
theorem lc_check {p : Program} {l : Launch} {e : Env} {s : State} {m : MethodId} {below : List Frame} {meth : Method} {c : Code} {D : va_G} {cA : Nat → ClassId} {ad : tkAd} {b L : Nat} {xs : Nat → Int32} (C0 : lw_At p s m meth c b L xs) (hK : va_K D tk_cls (tk_tyl cA) s) (hij : ∀ t ∈ tk_ix, ∀ t' ∈ tk_ix, ad t = ad t' → t = t') (hA : ∀ t ∈ tk_ix, (fun q : Nat => s.heap.size ≤ q) (ad t)) {cn : Nat} (hcn : cn ≤ 600) {x3 : Int32} (hv : ∀ k, k < 6 → vp_in (x3 + nI k) L) {w : tkW} (hI : LawI cn w) (hw : tk_wok w) {H : Heap} {locs : List Loc} (hP : va_P D tk_cls (tk_wl ad cA w) H) (hS : va_S (fun q : Nat => s.heap.size ≤ q) s.heap H locs) {ls : Array Slot} (hl : lv_has ls 4 [(0, .ref b), (1, .ref (ad (5, 0, 0))), (2, .ref (ad (6, 0, 0))), (3, .int x3)]) (hN : ∀ (u : tkW) (H : Heap) (locs : List Loc) (ls : Array Slot), LawI (cn + 1) u → tk_wok u → va_P D tk_cls (tk_wl ad cA u) H → va_S (fun q : Nat => s.heap.size ≤ q) s.heap H locs → lv_has ls 4 [(0, .ref b), (1, .ref (ad (5, 0, 0))), (2, .ref (ad (6, 0, 0))), (3, .int x3)] → W p l e room_1 s m #[Value.ref b] below meth c H locs 47 5982 (lw_Z below #[Value.ref b] s) (F0 m 830 ls [])) : W p l e room_1 s m #[Value.ref b] below meth c H locs 47 5982 (lw_Z below #[Value.ref b] s) (F0 m 794 ls []) := by
  obtain ⟨hx, hb, hr, hml, hown, hts0, hX, hbl, hlocks, hgv⟩ := C0
  have hts : ∀ w ∈ tk_TB, w.before #[Value.ref b] s = true := fun w hw => hts0 w (List.mem_filter.mp hw).1
  have hbA : ¬ (fun q : Nat => s.heap.size ≤ q) b := Nat.not_le.mpr hbl
  obtain ⟨S, z, B, on, T, t, hA1, hC1, hM1⟩ := hI
  obtain ⟨I, J, R⟩ := w
  refine lv_aload_n hx hb dl_794 rfl (lv_at hl 1 rfl) ?_
  have hM5 : Met l te_123.1 (Cond.code te_123.1 te_123.2.1 te_123.2.2.1 te_123.2.2.2.1 :: tk_TB) ({ frames := te_123.2.2.2.2.2.2.2.2.1, cells := 0, slots := 0, locals := te_123.2.2.2.2.2.2.2.2.2.1 }) (va_Pc (.ref (ad (5, 0, 0)) :: []) (fun U => va_P D tk_cls (tk_wl ad cA (I, J, R)) U.heap ∧ va_K D tk_cls (tk_tyl cA) U)) (va_Qi (fun (ra : Int32) (u : tkW) => tkDn tm_189 (0, [some (.inr (.inr (6, 0, 0))), none], [], u) (Fin cn (some (.inl ra)))) (fun u t => va_P D tk_cls (tk_wl ad cA u) t.heap ∧ tk_wok u) (fun q : Nat => s.heap.size ≤ q)) 0 0 (fun q : Nat => s.heap.size ≤ q) :=
    tk_contract (l := l) (E := te_123) lwm_123 (as := [.inr (.inr (5, 0, 0))]) (w := (I, J, R)) (Q := fun ra u => tkDn tm_189 (0, [some (.inr (.inr (6, 0, 0))), none], [], u) (Fin cn (ra))) (pr_check hA1 hC1 hM1) (Nat.le_of_ble_eq_true rfl) (vok5 []) hw (D := D) (cA := cA) (ad := ad) (A := (fun q : Nat => s.heap.size ≤ q)) hij hA
  refine va_calli (va_runV (C := te_123.1.cls) (As := []) (rest := []) (bytes := te_123.2.1) (maxL := te_123.2.2.1) (ret := te_123.2.2.2.1) (n := 0) ⟨hx, hb, hml, hown, hts⟩ hM5 ⟨callB_of _ hts (tk_good_in lwm_123) rfl rfl rfl (hts _ tk_ii_5) (hts _ lwl_123) (by decide +kernel) ⟨Nat.le_of_ble_eq_true rfl, Nat.le_of_ble_eq_true rfl⟩, hts _ lwi_123, hts _ lws_123⟩ ⟨fun a U g mk q => by obtain ⟨q0, qP, qK⟩ := q; exact ⟨q0, qP, va_K.moved (u := U) (U := U.calling g mk a) (Vm.Alike.refl U.vm) qK⟩, va_recv hK hP (ci := 5) (q0 := 28) rfl rfl, fun U hU hW => ⟨rfl, by rw [hU]; exact hP, va_K.moved hW.alike hK⟩⟩ rfl rfl hl.1 rfl (lv_room (Nat.le_of_ble_eq_true rfl)) dl_795 ⟨Nat.le_of_ble_eq_true rfl, Nat.le_of_ble_eq_true rfl⟩) hS (fun _ _ h => h) (fun _ h => h) (fun r u tr H locs ht hvm hr hB hz1 hk1 hS => ?_)
  obtain ⟨hP, hw⟩ := hB
  rw [ht] at hP
  refine lv_aload_n hx hb dl_798 rfl (lv_at hl 2 rfl) ?_
  have hM6 : Met l te_189.1 (Cond.code te_189.1 te_189.2.1 te_189.2.2.1 te_189.2.2.2.1 :: tk_TB) ({ frames := te_189.2.2.2.2.2.2.2.2.1, cells := 0, slots := 0, locals := te_189.2.2.2.2.2.2.2.2.2.1 }) (va_Pc (.ref (ad (6, 0, 0)) :: []) (fun U => va_P D tk_cls (tk_wl ad cA u) U.heap ∧ va_K D tk_cls (tk_tyl cA) U)) (va_Qi (fun (ra : Int32) (u : tkW) => Fin cn (some (.inl r)) (some (.inl ra)) u) (fun u t => va_P D tk_cls (tk_wl ad cA u) t.heap ∧ tk_wok u) (fun q : Nat => s.heap.size ≤ q)) 0 0 (fun q : Nat => s.heap.size ≤ q) :=
    tk_contract (l := l) (E := te_189) lwm_189 (as := [.inr (.inr (6, 0, 0))]) (w := u) (Q := fun ra u => Fin cn (some (.inl r)) (ra) u) (hr) (Nat.le_of_ble_eq_true rfl) (vok6 []) hw (D := D) (cA := cA) (ad := ad) (A := (fun q : Nat => s.heap.size ≤ q)) hij hA
  refine va_calli (va_runV (C := te_189.1.cls) (As := []) (rest := [.int r]) (bytes := te_189.2.1) (maxL := te_189.2.2.1) (ret := te_189.2.2.2.1) (n := 0) ⟨hx, hb, hml, hown, hts⟩ hM6 ⟨callB_of _ hts (tk_good_in lwm_189) rfl rfl rfl (hts _ tk_ii_6) (hts _ lwl_189) (by decide +kernel) ⟨Nat.le_of_ble_eq_true rfl, Nat.le_of_ble_eq_true rfl⟩, hts _ lwi_189, hts _ lws_189⟩ ⟨fun a U g mk q => by obtain ⟨q0, qP, qK⟩ := q; exact ⟨q0, qP, va_K.moved (u := U) (U := U.calling g mk a) (Vm.Alike.refl U.vm) qK⟩, va_recv hK hP (ci := 6) (q0 := 29) rfl rfl, fun U hU hW => ⟨rfl, by rw [hU]; exact hP, va_K.moved hW.alike hK⟩⟩ rfl rfl hl.1 rfl (lv_room (Nat.le_of_ble_eq_true rfl)) dl_799 ⟨Nat.le_of_ble_eq_true rfl, Nat.le_of_ble_eq_true rfl⟩) hS (fun _ _ h => h) (fun _ h => h) (fun r2 u2 tr2 H locs ht hvm hr2 hB hz1 hk1 hS => ?_)
  obtain ⟨hP, hw⟩ := hB
  rw [ht] at hP
  obtain ⟨he, hI2⟩ := hr2
  have he : r2 = r := by cases he; rfl
  refine lv_icmp_eq (tgt := 830) hx hb dl_802 (by decide) (fun cc => ?_) (fun cc => ?_)
  · exact hN u2 _ _ ls hI2 hw hP hS hl
  · exact absurd he.symm cc
theorem lwm_124 : te_124 ∈ tk_all := List.mem_of_getElem? (i := 124) rfl
theorem lwl_124 : Cond.methodLink R_law 124 te_124.1 ∈ tk_TB := tkm 783 (by decide +kernel) rfl
theorem lwi_124 : Cond.instanceMethod te_124.1 ∈ tk_TB := tk_tb (tk_w1s (tk_w1 te_124) (List.mem_map.mpr ⟨te_124, lwm_124, rfl⟩)) rfl
theorem lws_124 : Cond.selects te_124.1.cls te_124.1 te_124.1 ∈ tk_TB := tk_tb (tk_w2s (tk_w2 te_124) (List.mem_map.mpr ⟨te_124, lwm_124, rfl⟩)) rfl
theorem lwm_190 : te_190 ∈ tk_all := List.mem_of_getElem? (i := 190) rfl
theorem lwl_190 : Cond.methodLink R_law 127 te_190.1 ∈ tk_TB := tkm 1162 (by decide +kernel) rfl
theorem lwi_190 : Cond.instanceMethod te_190.1 ∈ tk_TB := tk_tb (tk_w1s (tk_w1 te_190) (List.mem_map.mpr ⟨te_190, lwm_190, rfl⟩)) rfl
theorem lws_190 : Cond.selects te_190.1.cls te_190.1 te_190.1 ∈ tk_TB := tk_tb (tk_w2s (tk_w2 te_190) (List.mem_map.mpr ⟨te_190, lwm_190, rfl⟩)) rfl
set_option maxHeartbeats 4000000 in
set_option maxRecDepth 100000 in
theorem lc_told {p : Program} {l : Launch} {e : Env} {s : State} {m : MethodId} {below : List Frame} {meth : Method} {c : Code} {D : va_G} {cA : Nat → ClassId} {ad : tkAd} {b L : Nat} {xs : Nat → Int32} (C0 : lw_At p s m meth c b L xs) (hK : va_K D tk_cls (tk_tyl cA) s) (hij : ∀ t ∈ tk_ix, ∀ t' ∈ tk_ix, ad t = ad t' → t = t') (hA : ∀ t ∈ tk_ix, (fun q : Nat => s.heap.size ≤ q) (ad t)) {cn : Nat} (hcn : cn ≤ 600) {x3 : Int32} (hv : ∀ k, k < 6 → vp_in (x3 + nI k) L) {w : tkW} (hI : LawI cn w) (hw : tk_wok w) {H : Heap} {locs : List Loc} (hP : va_P D tk_cls (tk_wl ad cA w) H) (hS : va_S (fun q : Nat => s.heap.size ≤ q) s.heap H locs) {ls : Array Slot} (hl : lv_has ls 4 [(0, .ref b), (1, .ref (ad (5, 0, 0))), (2, .ref (ad (6, 0, 0))), (3, .int x3)]) (hN : ∀ (u : tkW) (H : Heap) (locs : List Loc) (ls : Array Slot), LawI (cn + 1) u → tk_wok u → va_P D tk_cls (tk_wl ad cA u) H → va_S (fun q : Nat => s.heap.size ≤ q) s.heap H locs → lv_has ls 4 [(0, .ref b), (1, .ref (ad (5, 0, 0))), (2, .ref (ad (6, 0, 0))), (3, .int x3)] → W p l e room_1 s m #[Value.ref b] below meth c H locs 47 5982 (lw_Z below #[Value.ref b] s) (F0 m 830 ls [])) : W p l e room_1 s m #[Value.ref b] below meth c H locs 47 5982 (lw_Z below #[Value.ref b] s) (F0 m 807 ls []) := by
  obtain ⟨hx, hb, hr, hml, hown, hts0, hX, hbl, hlocks, hgv⟩ := C0
  have hts : ∀ w ∈ tk_TB, w.before #[Value.ref b] s = true := fun w hw => hts0 w (List.mem_filter.mp hw).1
  have hbA : ¬ (fun q : Nat => s.heap.size ≤ q) b := Nat.not_le.mpr hbl
  obtain ⟨S, z, B, on, T, t, hA1, hC1, hM1⟩ := hI
  obtain ⟨I, J, R⟩ := w
  refine lv_aload_n hx hb dl_807 rfl (lv_at hl 1 rfl) ?_
  refine lv_aload_n hx hb dl_808 rfl (lv_at hl 0 rfl) ?_
  refine lv_iload_n hx hb dl_809 rfl (lv_at hl 3 rfl) ?_
  refine lv_iconst (v := 1) hx hb dl_810 (by decide) ?_
  refine lv_iadd hx hb dl_811 ?_
  refine va_sld hx hb hX hbl hbA hS (show vp_in (x3 + 1) L from hv 1 (by decide)) dl_812 ?_
  have hM5 : Met l te_124.1 (Cond.code te_124.1 te_124.2.1 te_124.2.2.1 te_124.2.2.2.1 :: tk_TB) ({ frames := te_124.2.2.2.2.2.2.2.2.1, cells := 0, slots := 0, locals := te_124.2.2.2.2.2.2.2.2.2.1 }) (va_Pc (.ref (ad (5, 0, 0)) :: [.int (xs (x3 + 1).toNatClampNeg)]) (fun U => va_P D tk_cls (tk_wl ad cA (I, J, R)) U.heap ∧ va_K D tk_cls (tk_tyl cA) U)) (va_Qi (fun (ra : Int32) (u : tkW) => tkDn tm_190 (0, [some (.inr (.inr (6, 0, 0))), some (.inl (xs (x3 + 1).toNatClampNeg)), none, none], [], u) (Fin cn (some (.inl ra)))) (fun u t => va_P D tk_cls (tk_wl ad cA u) t.heap ∧ tk_wok u) (fun q : Nat => s.heap.size ≤ q)) 0 0 (fun q : Nat => s.heap.size ≤ q) :=
    tk_contract (l := l) (E := te_124) lwm_124 (as := [.inr (.inr (5, 0, 0)), .inl (xs (x3 + 1).toNatClampNeg)]) (w := (I, J, R)) (Q := fun ra u => tkDn tm_190 (0, [some (.inr (.inr (6, 0, 0))), some (.inl (xs (x3 + 1).toNatClampNeg)), none, none], [], u) (Fin cn (ra))) (pr_told hA1 hC1 hM1) (Nat.le_of_ble_eq_true rfl) (vok5 [xs (x3 + 1).toNatClampNeg]) hw (D := D) (cA := cA) (ad := ad) (A := (fun q : Nat => s.heap.size ≤ q)) hij hA
  refine va_calli (va_runV (C := te_124.1.cls) (As := [.int (xs (x3 + 1).toNatClampNeg)]) (rest := []) (bytes := te_124.2.1) (maxL := te_124.2.2.1) (ret := te_124.2.2.2.1) (n := 1) ⟨hx, hb, hml, hown, hts⟩ hM5 ⟨callB_of _ hts (tk_good_in lwm_124) rfl rfl rfl (hts _ tk_ii_5) (hts _ lwl_124) (by decide +kernel) ⟨Nat.le_of_ble_eq_true rfl, Nat.le_of_ble_eq_true rfl⟩, hts _ lwi_124, hts _ lws_124⟩ ⟨fun a U g mk q => by obtain ⟨q0, qP, qK⟩ := q; exact ⟨q0, qP, va_K.moved (u := U) (U := U.calling g mk a) (Vm.Alike.refl U.vm) qK⟩, va_recv hK hP (ci := 5) (q0 := 28) rfl rfl, fun U hU hW => ⟨rfl, by rw [hU]; exact hP, va_K.moved hW.alike hK⟩⟩ rfl rfl hl.1 rfl (lv_room (Nat.le_of_ble_eq_true rfl)) dl_813 ⟨Nat.le_of_ble_eq_true rfl, Nat.le_of_ble_eq_true rfl⟩) hS (fun _ _ h => h) (fun _ h => h) (fun r u tr H locs ht hvm hr hB hz1 hk1 hS => ?_)
  obtain ⟨hP, hw⟩ := hB
  rw [ht] at hP
  refine lv_aload_n hx hb dl_816 rfl (lv_at hl 2 rfl) ?_
  refine lv_aload_n hx hb dl_817 rfl (lv_at hl 0 rfl) ?_
  refine lv_iload_n hx hb dl_818 rfl (lv_at hl 3 rfl) ?_
  refine lv_iconst (v := 1) hx hb dl_819 (by decide) ?_
  refine lv_iadd hx hb dl_820 ?_
  refine va_sld hx hb hX hbl hbA hS (show vp_in (x3 + 1) L from hv 1 (by decide)) dl_821 ?_
  have hM6 : Met l te_190.1 (Cond.code te_190.1 te_190.2.1 te_190.2.2.1 te_190.2.2.2.1 :: tk_TB) ({ frames := te_190.2.2.2.2.2.2.2.2.1, cells := 0, slots := 0, locals := te_190.2.2.2.2.2.2.2.2.2.1 }) (va_Pc (.ref (ad (6, 0, 0)) :: [.int (xs (x3 + 1).toNatClampNeg)]) (fun U => va_P D tk_cls (tk_wl ad cA u) U.heap ∧ va_K D tk_cls (tk_tyl cA) U)) (va_Qi (fun (ra : Int32) (u : tkW) => Fin cn (some (.inl r)) (some (.inl ra)) u) (fun u t => va_P D tk_cls (tk_wl ad cA u) t.heap ∧ tk_wok u) (fun q : Nat => s.heap.size ≤ q)) 0 0 (fun q : Nat => s.heap.size ≤ q) :=
    tk_contract (l := l) (E := te_190) lwm_190 (as := [.inr (.inr (6, 0, 0)), .inl (xs (x3 + 1).toNatClampNeg)]) (w := u) (Q := fun ra u => Fin cn (some (.inl r)) (ra) u) (hr) (Nat.le_of_ble_eq_true rfl) (vok6 [xs (x3 + 1).toNatClampNeg]) hw (D := D) (cA := cA) (ad := ad) (A := (fun q : Nat => s.heap.size ≤ q)) hij hA
  refine va_calli (va_runV (C := te_190.1.cls) (As := [.int (xs (x3 + 1).toNatClampNeg)]) (rest := [.int r]) (bytes := te_190.2.1) (maxL := te_190.2.2.1) (ret := te_190.2.2.2.1) (n := 1) ⟨hx, hb, hml, hown, hts⟩ hM6 ⟨callB_of _ hts (tk_good_in lwm_190) rfl rfl rfl (hts _ tk_ii_6) (hts _ lwl_190) (by decide +kernel) ⟨Nat.le_of_ble_eq_true rfl, Nat.le_of_ble_eq_true rfl⟩, hts _ lwi_190, hts _ lws_190⟩ ⟨fun a U g mk q => by obtain ⟨q0, qP, qK⟩ := q; exact ⟨q0, qP, va_K.moved (u := U) (U := U.calling g mk a) (Vm.Alike.refl U.vm) qK⟩, va_recv hK hP (ci := 6) (q0 := 29) rfl rfl, fun U hU hW => ⟨rfl, by rw [hU]; exact hP, va_K.moved hW.alike hK⟩⟩ rfl rfl hl.1 rfl (lv_room (Nat.le_of_ble_eq_true rfl)) dl_822 ⟨Nat.le_of_ble_eq_true rfl, Nat.le_of_ble_eq_true rfl⟩) hS (fun _ _ h => h) (fun _ h => h) (fun r2 u2 tr2 H locs ht hvm hr2 hB hz1 hk1 hS => ?_)
  obtain ⟨hP, hw⟩ := hB
  rw [ht] at hP
  obtain ⟨he, hI2⟩ := hr2
  have he : r2 = r := by cases he; rfl
  refine lv_icmp_eq (tgt := 830) hx hb dl_825 (by decide) (fun cc => ?_) (fun cc => ?_)
  · exact hN u2 _ _ ls hI2 hw hP hS hl
  · exact absurd he.symm cc
