/-! calls, and the end of it: what tkDn says, the machine does -/
theorem tk_good_in {e : tkE} (he : e ∈ tk_all) : GoodIn tk_TB (Cond.code e.1 e.2.1 e.2.2.1 e.2.2.2.1 :: tk_TB) := by
  intro w hw
  have hc : tk_code e ∈ lw_tbl := tk_codes _ (List.mem_map.mpr ⟨e, he, rfl⟩)
  rcases List.mem_cons.mp hw with rfl | hw
  · exact ⟨tk_tb hc rfl, Or.inl rfl⟩
  · exact ⟨hw, good_of_word (List.mem_filter.mp hw).2⟩
theorem tk_Qc_case {rk : Nat} (h : rk ≤ 3) : rk = 0 ∨ rk = 1 ∨ rk = 2 ∨ rk = 3 := by omega
section TKC
variable {p : Program} {l : Launch} {e0 : Env} {R : Room} {s : State} {m : MethodId} {args : Array Value} {below : List Frame} {meth : Method} {c0 : Code} {cells slots : Nat} {QQ : State → Prop} {E : tkE} {D : va_G} {cA : Nat → ClassId} {ad : tkAd} {A : Nat → Prop} {H0 : Heap}
/-- behind a call, by the kind of the answer -/
theorem tw_back {e : tkE} (he : e ∈ tk_all) {pc : Nat} {L : tkL} {rest : List tkV} {Q' : tkQ} {H : Heap} {locs : List Loc} {ls : Array Slot} {st0 : List Value} {a : Array Value} (hS : va_S A H0 H locs) (hL : tk_LR ad L ls E.2.2.1) (hrest : ∀ v ∈ rest, tk_vok v)
    (hrun : va_Run p l e0 R s m args below meth c0 H locs cells slots 0 0 (F0 m pc ls st0) (rest.map (tk_cv ad)) (tk_Qc e.2.2.2.2.2.2.2.1 Q' (fun u t => va_P D tk_cls (tk_wl ad cA u) t.heap ∧ tk_wok u) A a) A)
    (k : ∀ (r : Option tkV) (u : tkW), Q' r u → (∀ v, r = some v → tk_vok v) → tk_Wd p l e0 R s m args below meth c0 cells slots QQ E D cA ad A H0 (pc + 3, L, r.toList ++ rest, u)) :
    W p l e0 R s m args below meth c0 H locs cells slots QQ (F0 m pc ls st0) := by
  obtain ⟨f1, f2, f3, f4, f5, f6⟩ := tk_factd he
  rcases tk_Qc_case f6 with q | q | q | q <;> rw [q] at hrun
  · refine va_calli (a := a) hrun hS (fun _ _ h => h) (fun _ h => h) (fun r u t H1 locs1 ht hvm hw hB hz1 hk1 hS1 => ?_)
    exact k (some (.inl r)) u hw (fun v hv => by cases hv; trivial) H1 locs1 ls (by rw [← ht]; exact hB.1) hS1 hL (fun v hv => by
      rcases List.mem_cons.mp hv with rfl | hv
      · trivial
      · exact hrest v hv) hB.2
  · refine va_calli (a := a) hrun hS (fun _ _ h => h) (fun _ h => h) (fun r u t H1 locs1 ht hvm hw hB hz1 hk1 hS1 => ?_)
    exact k (some (.inl r)) u hw (fun v hv => by cases hv; trivial) H1 locs1 ls (by rw [← ht]; exact hB.1) hS1 hL (fun v hv => by
      rcases List.mem_cons.mp hv with rfl | hv
      · trivial
      · exact hrest v hv) hB.2
  · refine va_calll (a := a) hrun hS (fun _ _ h => h) (fun _ h => h) (fun r u t H1 locs1 ht hvm hw hB hz1 hk1 hS1 => ?_)
    exact k (some (.inr (.inl r))) u hw (fun v hv => by cases hv; trivial) H1 locs1 ls (by rw [← ht]; exact hB.1) hS1 hL (fun v hv => by
      rcases List.mem_cons.mp hv with rfl | hv
      · trivial
      · exact hrest v hv) hB.2
  · refine va_callv (a := a) hrun hS (fun _ _ h => h) (fun _ h => h) (fun u t H1 locs1 ht hvm hw hB hz1 hk1 hS1 => ?_)
    exact k none u hw (fun v hv => by cases hv) H1 locs1 ls (by rw [← ht]; exact hB.1) hS1 hL hrest hB.2
theorem tk_call_ok {i : Jvm.ClassFile.Instr} {n : Nat} {c : tkC} {e : tkE} {as rest : List tkV} {Q' : tkQ} (hcs : cells ≤ R.cells ∧ slots ≤ R.slots) (C : tk_Cx p R s m args meth c0 E D cA ad A) (hE : E ∈ tk_all) (hat : tk_at E.2.2.2.2.2.2.2.2.2.2 c.1 = some (i, n)) (hc : tk_call E.2.2.2.2.2.2 i c.2.2.1 = some (e, as, rest)) (h : tk_X l e.2.2.2.2.2.2 (0, tk_ent as e.2.2.1, [], c.2.2.2) Q')
    (k : ∀ (r : Option tkV) (u : tkW), Q' r u → tk_Wd p l e0 R s m args below meth c0 cells slots QQ E D cA ad A H0 (c.1 + 3, c.2.1, r.toList ++ rest, u)) : tk_Wd p l e0 R s m args below meth c0 cells slots QQ E D cA ad A H0 c := by
  have hdg : decode E.2.1 c.1 = .ok (i, n) := tk_decs E hE (c.1, i, n) (tk_at_mem hat)
  have hck := tk_chks E hE (c.1, i, n) (tk_at_mem hat)
  unfold tk_chk at hck
  dsimp only at hck
  obtain ⟨hx, hb, hml, hown, hts, hr, hlk, hf, hlo, hK, hij, hA⟩ := id C
  obtain ⟨pc, L, st, w⟩ := c
  dsimp only at hdg hc h k
  cases i with
  | invokestatic idx =>
    have hn : n = 3 := by
      have hck : (Nat.beq n 3 && ((tk_cp E.2.2.2.2.2.2.1 idx).isNone || (Nat.ble 1 E.2.2.2.2.2.2.2.2.1 && Nat.ble 23 E.2.2.2.2.2.2.2.2.2.1))) = true := hck
      rw [Bool.and_eq_true] at hck
      exact Nat.eq_of_beq_eq_true hck.1
    subst hn
    unfold tk_call at hc
    dsimp only at hc
    split at hc
    · rename_i kk hk
      split at hc
      · rename_i e1 he1
        split at hc
        · rename_i hbool
          cases hc
          simp only [Bool.and_eq_true] at hbool
          obtain ⟨⟨⟨⟨b1, b2⟩, b3⟩, b4⟩, b5⟩ := hbool
          have he := List.mem_of_getElem? he1
          obtain ⟨f1, f2, f3, f4, f5, f6⟩ := tk_factd he
          unfold tk_rm at b2
          rw [Bool.and_eq_true] at b2
          have r1 := Nat.le_of_ble_eq_true b2.1
          have r2 := Nat.le_of_ble_eq_true b2.2
          have l1 := Nat.le_of_ble_eq_true b3
          have l2 := Nat.le_of_ble_eq_true b4
          have l3 := Nat.le_of_ble_eq_true b5
          intro H locs ls hP hS hL hst hw
          have hvs : ∀ v ∈ (st.take e.2.2.2.2.2.1).reverse, tk_vok v := fun v hv => hst v (List.mem_of_mem_take (List.mem_reverse.mp hv))
          have hvr : ∀ v ∈ st.drop e.2.2.2.2.2.1, tk_vok v := fun v hv => hst v (List.mem_of_mem_drop hv)
          have hlen : (tk_en (st.take e.2.2.2.2.2.1).reverse).length ≤ e.2.2.1 := by
            have : ∀ (l1 l2 : List tkV), (tk_en (l1 ++ l2)).length = (tk_en l1).length + (tk_en l2).length := by
              intro l1 l2
              induction l1 with
              | nil => show _ = 0 + _; rw [Nat.zero_add]; rfl
              | cons v t ih =>
                match v with
                | .inl x => show (tk_en (t ++ l2)).length + 1 = (tk_en t).length + 1 + _; omega
                | .inr (.inl x) => show (tk_en (t ++ l2)).length + 1 + 1 = (tk_en t).length + 1 + 1 + _; omega
                | .inr (.inr x) => show (tk_en (t ++ l2)).length + 1 = (tk_en t).length + 1 + _; omega
            have hrev : ∀ (l1 : List tkV), (tk_en l1.reverse).length = (tk_en l1).length := by
              intro l1
              induction l1 with
              | nil => rfl
              | cons v t ih => rw [List.reverse_cons, this, ih, show v :: t = [v] ++ t from rfl, this]; omega
            rw [hrev]; exact l3
          have hM := tk_met (D := D) (cA := cA) (ad := ad) (A := A) he h hlen hvs hw hij hA
          have hw1 : tk_w1 e ∈ lw_tbl := tk_w1s _ (List.mem_map.mpr ⟨e, he, rfl⟩)
          have hst1 : Cond.static e.1 ∈ lw_tbl := by
            unfold tk_w1 at hw1
            rw [if_pos b1] at hw1
            exact hw1
          have hini : Cond.initialized e.1.cls ∈ lw_tbl := tk_inis _ (List.mem_map.mpr ⟨e, he, rfl⟩)
          have hml1 : Cond.methodLink (tk_cn E.2.2.2.2.2.2.1) idx e.1 ∈ lw_tbl := by
            have := tk_mws _ (List.mem_map.mpr ⟨_, tk_lk2_mem hk, rfl⟩)
            unfold tk_mw at this
            dsimp only at this
            rw [he1] at this
            exact this
          refine tw_back (Q' := Q') he hS hL hvr (a := ((st.take e.2.2.2.2.2.1).reverse.map (tk_cv ad)).toArray) ?_ (fun r u hq _ => k r u hq)
          refine va_runS (As := (st.take e.2.2.2.2.2.1).reverse.map (tk_cv ad)) (bytes := e.2.1) (maxL := e.2.2.1) (ret := e.2.2.2.1) (n := e.2.2.2.2.2.1) ⟨hx, hb, hml, hown, hts⟩ hM ⟨callB_of _ hts (tk_good_in he) rfl rfl rfl (hts _ (tk_tb hini rfl)) (hts _ (tk_tb hml1 rfl)) ⟨f3, f4, f5⟩ ⟨Nat.le_trans r1 hf, Nat.le_trans r2 hlo⟩, hts _ (tk_tb hst1 rfl)⟩ ⟨fun a U g mk q => ?_, fun U hU hW => ?_⟩ rfl ?_ hL.2.1.1 ?_ ?_ hdg ⟨hcs.1, hcs.2⟩
          · obtain ⟨q0, qP, qK⟩ := q
            exact ⟨q0, qP, va_K.moved (u := U) (U := U.calling g mk a) (Vm.Alike.refl U.vm) qK⟩
          · exact ⟨rfl, by rw [hU]; exact hP, va_K.moved hW.alike hK⟩
          · rw [List.length_map, List.length_reverse, List.length_take]; omega
          · show st.map (tk_cv ad) = ((st.take _).reverse.map (tk_cv ad)).reverse ++ (st.drop _).map (tk_cv ad)
            rw [← List.map_reverse, List.reverse_reverse, ← List.map_append, List.take_append_drop]
          · exact lv_room (by rw [tk_cat_sum]; exact l2)
        · cases hc
      · cases hc
    · cases hc
  | invokevirtual idx =>
    have hn : n = 3 := Nat.eq_of_beq_eq_true hck
    subst hn
    unfold tk_call at hc
    dsimp only at hc
    split at hc
    · rename_i kk hk
      split at hc
      · rename_i e1 he1
        split at hc
        · rename_i hbool
          split at hc
          · rename_i ci bb r hdrop
            split at hc
            · rename_i hbool2
              cases hc
              simp only [Bool.and_eq_true] at hbool hbool2
              obtain ⟨⟨⟨⟨b1, b2⟩, b3⟩, b4⟩, b5⟩ := hbool
              have hci := Nat.eq_of_beq_eq_true hbool2.1
              have hci6 := Nat.le_of_ble_eq_true hbool2.2
              have he := List.mem_of_getElem? he1
              obtain ⟨f1, f2, f3, f4, f5, f6⟩ := tk_factd he
              unfold tk_rm at b2
              rw [Bool.and_eq_true] at b2
              have r1 := Nat.le_of_ble_eq_true b2.1
              have r2 := Nat.le_of_ble_eq_true b2.2
              have l1 := Nat.le_of_ble_eq_true b3
              have l2 := Nat.le_of_ble_eq_true b4
              have l3 := Nat.le_of_ble_eq_true b5
              have hdr1 : st.drop (e.2.2.2.2.2.1 + 1) = rest := by
                have : st.drop (e.2.2.2.2.2.1 + 1) = (st.drop e.2.2.2.2.2.1).drop 1 := by rw [List.drop_drop]
                rw [this, hdrop]; rfl
              have htk1 : st.take (e.2.2.2.2.2.1 + 1) = st.take e.2.2.2.2.2.1 ++ [.inr (.inr (ci, bb, 0))] := by
                rw [List.take_add, hdrop]; rfl
              rw [hdr1] at l2
              intro H locs ls hP hS hL hst hw
              have ht : (ci, bb, 0) ∈ tk_ix := hst (.inr (.inr (ci, bb, 0))) (List.mem_of_mem_drop (i := e.2.2.2.2.2.1) (by rw [hdrop]; exact List.mem_cons_self))
              have hvs : ∀ v ∈ (Sum.inr (Sum.inr (ci, bb, 0)) : tkV) :: (st.take e.2.2.2.2.2.1).reverse, tk_vok v := fun v hv => by
                rcases List.mem_cons.mp hv with rfl | hv
                · exact ht
                · exact hst v (List.mem_of_mem_take (List.mem_reverse.mp hv))
              have hvr : ∀ v ∈ rest, tk_vok v := fun v hv => hst v (List.mem_of_mem_drop (i := e.2.2.2.2.2.1 + 1) (by rw [hdr1]; exact hv))
              have hlen : (tk_en ((Sum.inr (Sum.inr (ci, bb, 0)) : tkV) :: (st.take e.2.2.2.2.2.1).reverse)).length ≤ e.2.2.1 := by
                have : ∀ (l1 l2 : List tkV), (tk_en (l1 ++ l2)).length = (tk_en l1).length + (tk_en l2).length := by
                  intro l1 l2
                  induction l1 with
                  | nil => show _ = 0 + _; rw [Nat.zero_add]; rfl
                  | cons v t ih =>
                    match v with
                    | .inl x => show (tk_en (t ++ l2)).length + 1 = (tk_en t).length + 1 + _; omega
                    | .inr (.inl x) => show (tk_en (t ++ l2)).length + 1 + 1 = (tk_en t).length + 1 + 1 + _; omega
                    | .inr (.inr x) => show (tk_en (t ++ l2)).length + 1 = (tk_en t).length + 1 + _; omega
                have hrev : ∀ (l1 : List tkV), (tk_en l1.reverse).length = (tk_en l1).length := by
                  intro l1
                  induction l1 with
                  | nil => rfl
                  | cons v t ih => rw [List.reverse_cons, this, ih, show v :: t = [v] ++ t from rfl, this]; omega
                rw [htk1, this] at l3
                rw [show (Sum.inr (Sum.inr (ci, bb, 0)) : tkV) :: (st.take e.2.2.2.2.2.1).reverse = [Sum.inr (Sum.inr (ci, bb, 0))] ++ (st.take e.2.2.2.2.2.1).reverse from rfl, this, hrev]
                omega
              have hM := tk_met (D := D) (cA := cA) (ad := ad) (A := A) he h hlen hvs hw hij hA
              have b1' : e.2.2.2.2.1 = false := by simpa using b1
              have hin1 : Cond.instanceMethod e.1 ∈ lw_tbl := by
                have hw1 : tk_w1 e ∈ lw_tbl := tk_w1s _ (List.mem_map.mpr ⟨e, he, rfl⟩)
                unfold tk_w1 at hw1
                rw [b1'] at hw1
                exact hw1
              have hse1 : Cond.selects e.1.cls e.1 e.1 ∈ lw_tbl := by
                have hw2 : tk_w2 e ∈ lw_tbl := tk_w2s _ (List.mem_map.mpr ⟨e, he, rfl⟩)
                unfold tk_w2 at hw2
                rw [b1'] at hw2
                exact hw2
              have hini : Cond.initialized e.1.cls ∈ lw_tbl := tk_inis _ (List.mem_map.mpr ⟨e, he, rfl⟩)
              have hml1 : Cond.methodLink (tk_cn E.2.2.2.2.2.2.1) idx e.1 ∈ lw_tbl := by
                have := tk_mws _ (List.mem_map.mpr ⟨_, tk_lk2_mem hk, rfl⟩)
                unfold tk_mw at this
                dsimp only at this
                rw [he1] at this
                exact this
              obtain ⟨q0, -, -, hq0⟩ := tk_wl_at (ad := ad) (cA := cA) (w := w) ht
              have hrecv := va_recv hK hP (tk_clsAt ci (by omega)) hq0
              dsimp only at hrecv
              rw [hci, f1] at hrecv
              refine tw_back (Q' := Q') he hS hL hvr (a := (Value.ref (ad (ci, bb, 0)) :: (st.take e.2.2.2.2.2.1).reverse.map (tk_cv ad)).toArray) ?_ (fun r u hq _ => k r u hq)
              refine va_runV (C := e.1.cls) (As := (st.take e.2.2.2.2.2.1).reverse.map (tk_cv ad)) (bytes := e.2.1) (maxL := e.2.2.1) (ret := e.2.2.2.1) (n := e.2.2.2.2.2.1) ⟨hx, hb, hml, hown, hts⟩ hM ⟨callB_of _ hts (tk_good_in he) rfl rfl rfl (hts _ (tk_tb hini rfl)) (hts _ (tk_tb hml1 rfl)) ⟨f3, f4, f5⟩ ⟨Nat.le_trans r1 hf, Nat.le_trans r2 hlo⟩, hts _ (tk_tb hin1 rfl), hts _ (tk_tb hse1 rfl)⟩ ⟨fun a U g mk q => ?_, ?_, fun U hU hW => ?_⟩ rfl ?_ hL.2.1.1 ?_ ?_ hdg ⟨hcs.1, hcs.2⟩
              · obtain ⟨q0, qP, qK⟩ := q
                exact ⟨q0, qP, va_K.moved (u := U) (U := U.calling g mk a) (Vm.Alike.refl U.vm) qK⟩
              · rw [← hci] at hrecv
                exact hrecv
              · exact ⟨rfl, by rw [hU]; exact hP, va_K.moved hW.alike hK⟩
              · rw [List.length_map, List.length_reverse, List.length_take]; omega
              · show st.map (tk_cv ad) = ((st.take _).reverse.map (tk_cv ad)).reverse ++ Value.ref (ad (ci, bb, 0)) :: rest.map (tk_cv ad)
                rw [← List.map_reverse, List.reverse_reverse]
                have : st.map (tk_cv ad) = (st.take e.2.2.2.2.2.1 ++ st.drop e.2.2.2.2.2.1).map (tk_cv ad) := by rw [List.take_append_drop]
                rw [this, hdrop, List.map_append]; rfl
              · exact lv_room (by rw [tk_cat_sum]; exact l2)
            · cases hc
          · cases hc
        · cases hc
      · cases hc
    · cases hc
  | _ => cases hc
end TKC
theorem tk_X_closed (l : Launch) : ∀ M c Q, tk_F (tk_X l) M c Q → tk_X l M c Q := by
  intro M c Q h E hE hM p e R s m args below meth c0 cells slots QQ D cA ad A H0 C k1 k2 k
  subst hM
  unfold tk_F at h
  split at h
  · exact h.elim
  · rename_i i n hat
    split at h
    · rename_i P d hi
      exact tk_ins_ok ⟨k1, k2⟩ C hE hat hi (tk_and_mono (fun z => z E hE rfl p e R s m args below meth c0 cells slots QQ D cA ad A H0 C k1 k2 k) h)
    · split at h
      · rename_i P c1 c2 hb
        exact tk_br_ok C hE hat hb (fun q => h.1 q E hE rfl p e R s m args below meth c0 cells slots QQ D cA ad A H0 C k1 k2 k) (fun q => h.2 q E hE rfl p e R s m args below meth c0 cells slots QQ D cA ad A H0 C k1 k2 k)
      · split at h
        · rename_i P r hr
          exact k c i n P r hat hr h
        · split at h
          · rename_i e1 as rest hc
            exact tk_call_ok ⟨k1, k2⟩ C hE hat hc h (fun r u z => z E hE rfl p e R s m args below meth c0 cells slots QQ D cA ad A H0 C k1 k2 k)
          · exact h.elim
theorem tk_sound (l : Launch) {M : tkM} {c : tkC} {Q : tkQ} (h : tkDn M c Q) : tk_X l M c Q := h (tk_X l) (tk_X_mono l) (tk_X_closed l)
/-- a method's contract out of tkDn -/
theorem tk_contract {l : Launch} {E : tkE} (hE : E ∈ tk_all) {as : List tkV} {w : tkW} {Q : tkQ} (h : tkDn E.2.2.2.2.2.2 (0, tk_ent as E.2.2.1, [], w) Q) (hlen : (tk_en as).length ≤ E.2.2.1) (hv : ∀ v ∈ as, tk_vok v) (hw : tk_wok w) {D : va_G} {cA : Nat → ClassId} {ad : tkAd} {A : Nat → Prop} (hij : ∀ t ∈ tk_ix, ∀ t' ∈ tk_ix, ad t = ad t' → t = t') (hA : ∀ t ∈ tk_ix, A (ad t)) :
    Met l E.1 (Cond.code E.1 E.2.1 E.2.2.1 E.2.2.2.1 :: tk_TB) ({ frames := E.2.2.2.2.2.2.2.2.1, cells := 0, slots := 0, locals := E.2.2.2.2.2.2.2.2.2.1 }) (va_Pc (as.map (tk_cv ad)) (fun U => va_P D tk_cls (tk_wl ad cA w) U.heap ∧ va_K D tk_cls (tk_tyl cA) U)) (tk_Qc E.2.2.2.2.2.2.2.1 Q (fun u t => va_P D tk_cls (tk_wl ad cA u) t.heap ∧ tk_wok u) A) 0 0 A :=
  tk_met hE (tk_sound l h) hlen hv hw hij hA
