/-! the whole machine over pictures tells the truth -/
theorem tk_and_r {P : Option Prop} {X : Prop} (h : tk_and P X) : X := by
  cases P with
  | none => exact h
  | some P => exact h.2
def tk_chk (q : tkE) (x : Nat × Jvm.ClassFile.Instr × Nat) : Bool := match x.2.1 with
  | .iconst _ => Nat.beq x.2.2 1
  | .bipush _ => Nat.beq x.2.2 2
  | .sipush _ => Nat.beq x.2.2 3
  | .lconst _ => Nat.beq x.2.2 1
  | .ldc _ => Nat.beq x.2.2 2
  | .ldc_w _ => Nat.beq x.2.2 3
  | .ldc2_w _ => Nat.beq x.2.2 3
  | .iload _ => Nat.beq x.2.2 2
  | .iload_n _ => Nat.beq x.2.2 1
  | .istore _ => Nat.beq x.2.2 2
  | .istore_n _ => Nat.beq x.2.2 1
  | .lload _ => Nat.beq x.2.2 2
  | .lload_n _ => Nat.beq x.2.2 1
  | .lstore _ => Nat.beq x.2.2 2
  | .lstore_n _ => Nat.beq x.2.2 1
  | .aload _ => Nat.beq x.2.2 2
  | .aload_n _ => Nat.beq x.2.2 1
  | .astore _ => Nat.beq x.2.2 2
  | .astore_n _ => Nat.beq x.2.2 1
  | .iinc _ _ => Nat.beq x.2.2 3
  | .iadd => Nat.beq x.2.2 1
  | .isub => Nat.beq x.2.2 1
  | .imul => Nat.beq x.2.2 1
  | .iand => Nat.beq x.2.2 1
  | .ior => Nat.beq x.2.2 1
  | .ixor => Nat.beq x.2.2 1
  | .ishl => Nat.beq x.2.2 1
  | .ishr => Nat.beq x.2.2 1
  | .idiv => Nat.beq x.2.2 1
  | .ineg => Nat.beq x.2.2 1
  | .i2l => Nat.beq x.2.2 1
  | .i2b => Nat.beq x.2.2 1
  | .l2i => Nat.beq x.2.2 1
  | .lneg => Nat.beq x.2.2 1
  | .ladd => Nat.beq x.2.2 1
  | .lsub => Nat.beq x.2.2 1
  | .lcmp => Nat.beq x.2.2 1
  | .dup => Nat.beq x.2.2 1
  | .getfield _ => Nat.beq x.2.2 3
  | .putfield _ => Nat.beq x.2.2 3
  | .iaload => Nat.beq x.2.2 1
  | .laload => Nat.beq x.2.2 1
  | .baload => Nat.beq x.2.2 1
  | .iastore => Nat.beq x.2.2 1
  | .lastore => Nat.beq x.2.2 1
  | .bastore => Nat.beq x.2.2 1
  | .arraylength => Nat.beq x.2.2 1
  | .goto _ => Nat.beq x.2.2 3
  | .tableswitch _ _ _ _ => true
  | .ifCond _ _ => Nat.beq x.2.2 3
  | .if_icmp _ _ => Nat.beq x.2.2 3
  | .ireturn => Nat.beq x.2.2 1
  | .lreturn => Nat.beq x.2.2 1
  | .return_ => Nat.beq x.2.2 1
  | .invokevirtual _ => Nat.beq x.2.2 3
  | .invokestatic idx => Nat.beq x.2.2 3 && ((tk_cp q.2.2.2.2.2.2.1 idx).isNone || (Nat.ble 1 q.2.2.2.2.2.2.2.2.1 && Nat.ble 23 q.2.2.2.2.2.2.2.2.2.1))
  | _ => false
theorem tk_chks : ∀ q ∈ tk_all, ∀ x ∈ q.2.2.2.2.2.2.2.2.2.2, tk_chk q x = true := by decide +kernel
def tk_fact (q : tkE) : Bool := tk_cn q.2.2.2.2.2.2.1 == q.1.cls && plainName q.1.cls && !(q.1.cls == "java/lang/invoke/MethodHandle") && !(q.1.cls == "java/lang/invoke/VarHandle") && decide ((parseMethodDescriptor q.1.desc).map (fun d => d.parameters.length) = some q.2.2.2.2.2.1) && Nat.ble q.2.2.2.2.2.2.2.1 3
theorem tk_facts : ∀ q ∈ tk_all, tk_fact q = true := by decide +kernel
theorem tk_rks : ∀ q ∈ tk_all, (q.2.2.2.2.2.2.2.1 = 0 → q.2.2.2.1 = some .int) ∧ (q.2.2.2.2.2.2.2.1 = 1 → q.2.2.2.1 = some .boolean) ∧ (q.2.2.2.2.2.2.2.1 = 2 → q.2.2.2.1 = some .long) ∧ (q.2.2.2.2.2.2.2.1 = 3 → q.2.2.2.1 = none) := by decide +kernel
theorem tk_factd {q : tkE} (h : q ∈ tk_all) : tk_cn q.2.2.2.2.2.2.1 = q.1.cls ∧ plainName q.1.cls = true ∧ q.1.cls ≠ "java/lang/invoke/MethodHandle" ∧ q.1.cls ≠ "java/lang/invoke/VarHandle" ∧ (parseMethodDescriptor q.1.desc).map (fun d => d.parameters.length) = some q.2.2.2.2.2.1 ∧ q.2.2.2.2.2.2.2.1 ≤ 3 := by
  have h := tk_facts q h
  unfold tk_fact at h
  simp only [Bool.and_eq_true, beq_iff_eq, Bool.not_eq_true', decide_eq_true_eq] at h
  obtain ⟨⟨⟨⟨⟨h1, h2⟩, h3⟩, h4⟩, h5⟩, h6⟩ := h
  exact ⟨h1, h2, beq_eq_false_iff_ne.mp h3, beq_eq_false_iff_ne.mp h4, h5, Nat.le_of_ble_eq_true h6⟩
section TKW
variable {p : Program} {l : Launch} {e : Env} {R : Room} {s : State} {m : MethodId} {args : Array Value} {below : List Frame} {meth : Method} {c0 : Code} {cells slots : Nat} {QQ : State → Prop} {E : tkE} {D : va_G} {cA : Nat → ClassId} {ad : tkAd} {A : Nat → Prop} {H0 : Heap}
theorem tk_m8_ok {o : tkO} {c : tkC} {r : Option Prop × tkC} (h : tk_m8 o c = some r) : ((c.2.2.1.drop 2).map tk_cat).sum ≤ 8 ∧ o = some r := by
  unfold tk_m8 at h
  split at h
  · rename_i hb
    exact ⟨Nat.le_of_ble_eq_true hb, h⟩
  · cases h
theorem tk_cat_sum (ad : tkAd) : ∀ (r : List tkV), ((r.map (tk_cv ad)).map fun v => v.category).sum = (r.map tk_cat).sum := by
  intro r
  induction r with
  | nil => rfl
  | cons v t ih =>
    match v with
    | .inl x => exact congrArg (fun z => 1 + z) ih
    | .inr (.inl x) => exact congrArg (fun z => 2 + z) ih
    | .inr (.inr x) => exact congrArg (fun z => 1 + z) ih
theorem tw_m2 {f : Int64 → Int64 → Int64} {n : Nat} {c d : tkC} {P : Option Prop} (hml : c0.maxLocals = E.2.2.1) (row : ∀ {H : Heap} {locs : List Loc} {ls : Array Slot} {rest : List Value} {x y : Int64}, c0.maxLocals = ls.size → (rest.map fun v => v.category).sum ≤ 8 → W p l e R s m args below meth c0 H locs cells slots QQ (F0 m (c.1 + n) ls (.long (f x y) :: rest)) → W p l e R s m args below meth c0 H locs cells slots QQ (F0 m c.1 ls (.long y :: .long x :: rest))) (h8 : ((c.2.2.1.drop 2).map tk_cat).sum ≤ 8) (h : tk_l2 f n c = some (P, d)) (k : tk_Wd p l e R s m args below meth c0 cells slots QQ E D cA ad A H0 d) : tk_Wd p l e R s m args below meth c0 cells slots QQ E D cA ad A H0 c := by
  obtain ⟨pc, L, st, w⟩ := c
  unfold tk_l2 at h
  dsimp only at h row h8
  split at h
  · cases h
    intro H locs ls hP hS hL hst hw
    exact row (by rw [hml]; exact hL.2.1.1.symm) (by rw [tk_cat_sum]; exact h8) (k H locs ls hP hS hL (fun u hu => by
      rcases List.mem_cons.mp hu with rfl | hu
      · trivial
      · exact hst u (List.mem_cons_of_mem _ (List.mem_cons_of_mem _ hu))) hw)
  · cases h
theorem tw_m1 {f : Int32 → Int32 → Int32} {n : Nat} {c d : tkC} {P : Option Prop} (hml : c0.maxLocals = E.2.2.1) (row : ∀ {H : Heap} {locs : List Loc} {ls : Array Slot} {rest : List Value} {x y : Int32}, c0.maxLocals = ls.size → (rest.map fun v => v.category).sum ≤ 8 → W p l e R s m args below meth c0 H locs cells slots QQ (F0 m (c.1 + n) ls (.int (f x y) :: rest)) → W p l e R s m args below meth c0 H locs cells slots QQ (F0 m c.1 ls (.int y :: .int x :: rest))) (h8 : ((c.2.2.1.drop 2).map tk_cat).sum ≤ 8) (h : tk_i2 f n c = some (P, d)) (k : tk_Wd p l e R s m args below meth c0 cells slots QQ E D cA ad A H0 d) : tk_Wd p l e R s m args below meth c0 cells slots QQ E D cA ad A H0 c := by
  obtain ⟨pc, L, st, w⟩ := c
  unfold tk_i2 at h
  dsimp only at h row h8
  split at h
  · cases h
    intro H locs ls hP hS hL hst hw
    exact row (by rw [hml]; exact hL.2.1.1.symm) (by rw [tk_cat_sum]; exact h8) (k H locs ls hP hS hL (fun u hu => by
      rcases List.mem_cons.mp hu with rfl | hu
      · trivial
      · exact hst u (List.mem_cons_of_mem _ (List.mem_cons_of_mem _ hu))) hw)
  · cases h
theorem tk_ins_ok {i : Jvm.ClassFile.Instr} {n : Nat} {c d : tkC} {P : Option Prop} (hcs : cells ≤ R.cells ∧ slots ≤ R.slots) (C : tk_Cx p R s m args meth c0 E D cA ad A) (hE : E ∈ tk_all) (hat : tk_at E.2.2.2.2.2.2.2.2.2.2 c.1 = some (i, n)) (h : tk_ins E.2.2.2.2.2.2.1 i n c = some (P, d)) (k : tk_and P (tk_Wd p l e R s m args below meth c0 cells slots QQ E D cA ad A H0 d)) : tk_Wd p l e R s m args below meth c0 cells slots QQ E D cA ad A H0 c := by
  have hdg : decode E.2.1 c.1 = .ok (i, n) := tk_decs E hE (c.1, i, n) (tk_at_mem hat)
  have hc := tk_chks E hE (c.1, i, n) (tk_at_mem hat)
  unfold tk_chk at hc
  dsimp only at hc
  obtain ⟨hx, hb, hml, hown, hts, hr, hlk, hf, hlo, hK, hij, hA⟩ := id C
  cases i with
  | iconst v =>
    have hn : n = 1 := Nat.eq_of_beq_eq_true hc
    subst hn
    exact tw_push (v := .inl (Int32.ofInt v)) trivial (fun z => lv_iconst hx hb hdg rfl z) h (tk_and_r k)
  | bipush v =>
    have hn : n = 2 := Nat.eq_of_beq_eq_true hc
    subst hn
    exact tw_push (v := .inl (Int8.ofInt v).toInt32) trivial (fun z => lv_bipush hx hb hdg rfl z) h (tk_and_r k)
  | sipush v =>
    have hn : n = 3 := Nat.eq_of_beq_eq_true hc
    subst hn
    exact tw_push (v := .inl (Int16.ofInt v).toInt32) trivial (fun z => lv_sipush hx hb hdg rfl z) h (tk_and_r k)
  | lconst v =>
    have hn : n = 1 := Nat.eq_of_beq_eq_true hc
    subst hn
    exact tw_push (v := .inr (.inl (Int64.ofNat (v : Nat)))) trivial (fun z => lv_lconst hx hb hdg rfl z) h (tk_and_r k)
  | ldc idx =>
    have hn : n = 2 := Nat.eq_of_beq_eq_true hc
    subst hn
    have h : tk_kI E.2.2.2.2.2.2.1 idx 2 c = some (P, d) := h
    unfold tk_kI at h
    split at h
    · rename_i v hv
      exact tw_push (v := .inl v) trivial (fun z => lv_ldc hx hb hown (hts _ (tk_tb (tk_kis _ (List.mem_map.mpr ⟨_, tk_lk2_mem hv, rfl⟩)) rfl)) hdg z) h (tk_and_r k)
    · cases h
  | ldc_w idx =>
    have hn : n = 3 := Nat.eq_of_beq_eq_true hc
    subst hn
    have h : tk_kI E.2.2.2.2.2.2.1 idx 3 c = some (P, d) := h
    unfold tk_kI at h
    split at h
    · rename_i v hv
      exact tw_push (v := .inl v) trivial (fun z => lv_ldcw hx hb hown (hts _ (tk_tb (tk_kis _ (List.mem_map.mpr ⟨_, tk_lk2_mem hv, rfl⟩)) rfl)) hdg z) h (tk_and_r k)
    · cases h
  | ldc2_w idx =>
    have hn : n = 3 := Nat.eq_of_beq_eq_true hc
    subst hn
    have h : tk_kL E.2.2.2.2.2.2.1 idx 3 c = some (P, d) := h
    unfold tk_kL at h
    split at h
    · rename_i v hv
      exact tw_push (v := .inr (.inl v)) trivial (fun z => lv_ldc2 hx hb hown (hts _ (tk_tb (tk_kls _ (List.mem_map.mpr ⟨_, tk_lk2_mem hv, rfl⟩)) rfl)) hdg z) h (tk_and_r k)
    · cases h
  | iload j =>
    have hn : n = 2 := Nat.eq_of_beq_eq_true hc
    subst hn
    exact tw_ld0 (fun q z => lv_iload hx hb hdg q z) h (tk_and_r k)
  | iload_n j =>
    have hn : n = 1 := Nat.eq_of_beq_eq_true hc
    subst hn
    exact tw_ld0 (fun q z => lv_iload_n hx hb hdg rfl q z) h (tk_and_r k)
  | istore j =>
    have hn : n = 2 := Nat.eq_of_beq_eq_true hc
    subst hn
    exact tw_sto0 (fun q1 q2 z => lv_istore hx hb hdg q1 q2 rfl z) h (tk_and_r k)
  | istore_n j =>
    have hn : n = 1 := Nat.eq_of_beq_eq_true hc
    subst hn
    exact tw_sto0 (fun q1 q2 z => lv_istore_n hx hb hdg rfl q1 q2 rfl z) h (tk_and_r k)
  | lload j =>
    have hn : n = 2 := Nat.eq_of_beq_eq_true hc
    subst hn
    exact tw_ld1 (fun q z => lv_lload hx hb hdg q z) h (tk_and_r k)
  | lload_n j =>
    have hn : n = 1 := Nat.eq_of_beq_eq_true hc
    subst hn
    exact tw_ld1 (fun q z => lv_lload_n hx hb hdg rfl q z) h (tk_and_r k)
  | lstore j =>
    have hn : n = 2 := Nat.eq_of_beq_eq_true hc
    subst hn
    exact tw_sto1 (fun q1 q2 z => lv_lstore hx hb hdg q1 q2 rfl z) h (tk_and_r k)
  | lstore_n j =>
    have hn : n = 1 := Nat.eq_of_beq_eq_true hc
    subst hn
    exact tw_sto1 (fun q1 q2 z => lv_lstore_n hx hb hdg rfl q1 q2 rfl z) h (tk_and_r k)
  | aload j =>
    have hn : n = 2 := Nat.eq_of_beq_eq_true hc
    subst hn
    exact tw_ld2 (fun q z => lv_aload hx hb hdg q z) h (tk_and_r k)
  | aload_n j =>
    have hn : n = 1 := Nat.eq_of_beq_eq_true hc
    subst hn
    exact tw_ld2 (fun q z => lv_aload_n hx hb hdg rfl q z) h (tk_and_r k)
  | astore j =>
    have hn : n = 2 := Nat.eq_of_beq_eq_true hc
    subst hn
    exact tw_sto2 (fun q1 q2 z => lv_astore hx hb hdg q1 q2 rfl z) h (tk_and_r k)
  | astore_n j =>
    have hn : n = 1 := Nat.eq_of_beq_eq_true hc
    subst hn
    exact tw_sto2 (fun q1 q2 z => lv_astore_n hx hb hdg rfl q1 q2 rfl z) h (tk_and_r k)
  | iinc j z0 =>
    have hn : n = 3 := Nat.eq_of_beq_eq_true hc
    subst hn
    exact tw_inc (fun q1 q2 q3 z => lv_iinc hx hb hdg q1 q2 rfl q3 rfl z) h (tk_and_r k)
  | iadd =>
    have hn : n = 1 := Nat.eq_of_beq_eq_true hc
    subst hn
    exact tw_i2 (fun z => lv_iadd hx hb hdg z) h (tk_and_r k)
  | isub =>
    have hn : n = 1 := Nat.eq_of_beq_eq_true hc
    subst hn
    exact tw_i2 (fun z => lv_isub hx hb hdg z) h (tk_and_r k)
  | imul =>
    have hn : n = 1 := Nat.eq_of_beq_eq_true hc
    subst hn
    exact tw_i2 (fun z => lv_imul hx hb hdg z) h (tk_and_r k)
  | iand =>
    have hn : n = 1 := Nat.eq_of_beq_eq_true hc
    subst hn
    exact tw_i2 (fun z => lv_iand hx hb hdg z) h (tk_and_r k)
  | ior =>
    have hn : n = 1 := Nat.eq_of_beq_eq_true hc
    subst hn
    exact tw_i2 (fun z => lv_ior hx hb hdg z) h (tk_and_r k)
  | ixor =>
    have hn : n = 1 := Nat.eq_of_beq_eq_true hc
    subst hn
    exact tw_i2 (fun z => lv_ixor hx hb hdg z) h (tk_and_r k)
  | ishl =>
    have hn : n = 1 := Nat.eq_of_beq_eq_true hc
    subst hn
    exact tw_i2 (fun z => lv_ishl hx hb hdg z) h (tk_and_r k)
  | ishr =>
    have hn : n = 1 := Nat.eq_of_beq_eq_true hc
    subst hn
    exact tw_i2 (fun z => lv_ishr hx hb hdg z) h (tk_and_r k)
  | idiv =>
    have hn : n = 1 := Nat.eq_of_beq_eq_true hc
    subst hn
    exact tw_div (fun q z => lv_idiv hx hb hdg q z) h k
  | ineg =>
    have hn : n = 1 := Nat.eq_of_beq_eq_true hc
    subst hn
    exact tw_i1 (f := (fun x => .inl (-x))) (fun _ => trivial) (fun z => lv_ineg hx hb hdg z) h (tk_and_r k)
  | i2l =>
    have hn : n = 1 := Nat.eq_of_beq_eq_true hc
    subst hn
    exact tw_i1 (f := (fun x => .inr (.inl x.toInt64))) (fun _ => trivial) (fun z => lv_i2l hx hb hdg rfl z) h (tk_and_r k)
  | i2b =>
    have hn : n = 1 := Nat.eq_of_beq_eq_true hc
    subst hn
    exact tw_i1 (f := (fun x => .inl x.toInt8.toInt32)) (fun _ => trivial) (fun z => lv_i2b hx hb hdg rfl z) h (tk_and_r k)
  | l2i =>
    have hn : n = 1 := Nat.eq_of_beq_eq_true hc
    subst hn
    exact tw_l1 (f := (fun x => .inl x.toInt32)) (fun _ => trivial) (fun z => lv_l2i hx hb hdg rfl z) h (tk_and_r k)
  | lneg =>
    have hn : n = 1 := Nat.eq_of_beq_eq_true hc
    subst hn
    exact tw_l1 (f := (fun x => .inr (.inl (-x)))) (fun _ => trivial) (fun z => lv_lneg hx hb hdg z) h (tk_and_r k)
  | ladd =>
    have hn : n = 1 := Nat.eq_of_beq_eq_true hc
    subst hn
    exact tw_l2 (fun z => lv_ladd hx hb hdg z) h (tk_and_r k)
  | lsub =>
    have hn : n = 1 := Nat.eq_of_beq_eq_true hc
    subst hn
    exact tw_l2 (fun z => lv_lsub hx hb hdg z) h (tk_and_r k)
  | lcmp =>
    have hn : n = 1 := Nat.eq_of_beq_eq_true hc
    subst hn
    exact tw_cmp (fun z => W.lcmp hx hb hdg z) h (tk_and_r k)
  | dup =>
    have hn : n = 1 := Nat.eq_of_beq_eq_true hc
    subst hn
    exact tw_dup (fun q z => lv_dup hx hb hdg q z) h (tk_and_r k)
  | getfield idx =>
    have hn : n = 3 := Nat.eq_of_beq_eq_true hc
    subst hn
    exact tw_getf C hdg h (tk_and_r k)
  | putfield idx =>
    have hn : n = 3 := Nat.eq_of_beq_eq_true hc
    subst hn
    exact tw_putf C hdg h k
  | iaload =>
    have hn : n = 1 := Nat.eq_of_beq_eq_true hc
    subst hn
    exact tw_ald3 C hdg h k
  | laload =>
    have hn : n = 1 := Nat.eq_of_beq_eq_true hc
    subst hn
    exact tw_ald4 C hdg h k
  | baload =>
    have hn : n = 1 := Nat.eq_of_beq_eq_true hc
    subst hn
    exact tw_ald5 C hdg h k
  | iastore =>
    have hn : n = 1 := Nat.eq_of_beq_eq_true hc
    subst hn
    exact tw_ast3 C hdg h k
  | lastore =>
    have hn : n = 1 := Nat.eq_of_beq_eq_true hc
    subst hn
    exact tw_ast4 C hdg h k
  | bastore =>
    have hn : n = 1 := Nat.eq_of_beq_eq_true hc
    subst hn
    exact tw_ast5 C hdg h k
  | arraylength =>
    have hn : n = 1 := Nat.eq_of_beq_eq_true hc
    subst hn
    exact tw_alen C hdg h (tk_and_r k)
  | goto off =>
    have hn : n = 3 := Nat.eq_of_beq_eq_true hc
    subst hn
    exact tw_go (fun q z => lv_goto hx hb hdg q z) h (tk_and_r k)
  | tableswitch dflt lo hi offs => exact tw_sw C hdg h k
  | invokestatic idx =>
    have hc : (Nat.beq n 3 && ((tk_cp E.2.2.2.2.2.2.1 idx).isNone || (Nat.ble 1 E.2.2.2.2.2.2.2.2.1 && Nat.ble 23 E.2.2.2.2.2.2.2.2.2.1))) = true := hc
    rw [Bool.and_eq_true] at hc
    have hn : n = 3 := Nat.eq_of_beq_eq_true hc.1
    subst hn
    have h : (match tk_cp E.2.2.2.2.2.2.1 idx with | some 1 => tk_copy 3 c | some 2 => tk_m8 (tk_l2 (fun x y => if y < x then x else y) 3 c) c | some 3 => tk_m8 (tk_l2 (fun x y => if y < x then y else x) 3 c) c | some 4 => tk_m8 (tk_i2 (fun x y => if y < x then y else x) 3 c) c | _ => none) = some (P, d) := h
    have hroom : ∀ {z : Nat}, tk_cp E.2.2.2.2.2.2.1 idx = some z → 1 ≤ R.frames ∧ 23 ≤ R.locals := by
      intro z hz
      have h2 := hc.2
      rw [hz] at h2
      simp only [Option.isNone_some, Bool.false_or, Bool.and_eq_true] at h2
      exact ⟨Nat.le_trans (Nat.le_of_ble_eq_true h2.1) hf, Nat.le_trans (Nat.le_of_ble_eq_true h2.2) hlo⟩
    split at h
    · rename_i hcp
      have h2 := hc.2
      rw [hcp] at h2
      simp only [Option.isNone_some, Bool.false_or, Bool.and_eq_true] at h2
      exact tw_copy C ⟨Nat.le_of_ble_eq_true h2.1, Nat.le_trans (by decide) (Nat.le_of_ble_eq_true h2.2)⟩ (tk_lk2_mem hcp) hdg h k
    · rename_i hcp
      obtain ⟨h8, h⟩ := tk_m8_ok h
      obtain ⟨g1, g2⟩ := hroom hcp
      exact tw_m2 hml (fun q1 q2 z => va_mmax_long hx hb q1 hown (hts _ (tk_tb (tk_cps _ (List.mem_map.mpr ⟨_, tk_lk2_mem hcp, rfl⟩)) rfl)) (hts _ (tk_tb (tk_cpw _ (List.mem_of_getElem? (i := 3) rfl)) rfl)) (hts _ (tk_tb (tk_cpw _ (List.mem_of_getElem? (i := 6) rfl)) rfl)) (hts _ (tk_tb (tk_cpc _ (List.mem_of_getElem? (i := 0) rfl)) rfl)) g1 (by omega) hcs.1 hcs.2 hdg z) h8 h (tk_and_r k)
    · rename_i hcp
      obtain ⟨h8, h⟩ := tk_m8_ok h
      obtain ⟨g1, g2⟩ := hroom hcp
      exact tw_m2 hml (fun q1 q2 z => va_mmin_long hx hb q1 hown (hts _ (tk_tb (tk_cps _ (List.mem_map.mpr ⟨_, tk_lk2_mem hcp, rfl⟩)) rfl)) (hts _ (tk_tb (tk_cpw _ (List.mem_of_getElem? (i := 4) rfl)) rfl)) (hts _ (tk_tb (tk_cpw _ (List.mem_of_getElem? (i := 6) rfl)) rfl)) (hts _ (tk_tb (tk_cpc _ (List.mem_of_getElem? (i := 1) rfl)) rfl)) g1 (by omega) hcs.1 hcs.2 hdg z) h8 h (tk_and_r k)
    · rename_i hcp
      obtain ⟨h8, h⟩ := tk_m8_ok h
      obtain ⟨g1, g2⟩ := hroom hcp
      exact tw_m1 hml (fun q1 q2 z => va_mmin hx hb q1 hown (hts _ (tk_tb (tk_cps _ (List.mem_map.mpr ⟨_, tk_lk2_mem hcp, rfl⟩)) rfl)) (hts _ (tk_tb (tk_cpw _ (List.mem_of_getElem? (i := 5) rfl)) rfl)) (hts _ (tk_tb (tk_cpw _ (List.mem_of_getElem? (i := 6) rfl)) rfl)) (hts _ (tk_tb (tk_cpc _ (List.mem_of_getElem? (i := 2) rfl)) rfl)) g1 (by omega) hcs.1 hcs.2 hdg z) h8 h (tk_and_r k)
    · cases h
  | _ => cases h
theorem tk_br_ok {i : Jvm.ClassFile.Instr} {n : Nat} {c c1 c2 : tkC} {P : Prop × Prop} (C : tk_Cx p R s m args meth c0 E D cA ad A) (hE : E ∈ tk_all) (hat : tk_at E.2.2.2.2.2.2.2.2.2.2 c.1 = some (i, n)) (h : tk_br i n c = some (P, c1, c2)) (k1 : P.1 → tk_Wd p l e R s m args below meth c0 cells slots QQ E D cA ad A H0 c1) (k2 : P.2 → tk_Wd p l e R s m args below meth c0 cells slots QQ E D cA ad A H0 c2) : tk_Wd p l e R s m args below meth c0 cells slots QQ E D cA ad A H0 c := by
  have hdg : decode E.2.1 c.1 = .ok (i, n) := tk_decs E hE (c.1, i, n) (tk_at_mem hat)
  have hc := tk_chks E hE (c.1, i, n) (tk_at_mem hat)
  unfold tk_chk at hc
  dsimp only at hc
  obtain ⟨hx, hb, hml, hown, hts, hr, hlk, hf, hlo, hK, hij, hA⟩ := id C
  have jmp : ∀ {off : Int} {t : Nat}, tk_jmp c.1 off = some t → (c.1 : Int) + off = (t : Int) := by
    intro off t ht
    unfold tk_jmp at ht
    split at ht
    · rename_i t2 h2
      cases ht
      exact h2
    · cases ht
  cases i with
  | ifCond cd off =>
    have hn : n = 3 := Nat.eq_of_beq_eq_true hc
    subst hn
    obtain ⟨pc, L, st, w⟩ := c
    unfold tk_br at h
    dsimp only at h hdg jmp
    split at h
    · rename_i x r t hj
      cases h
      have hj := jmp hj
      intro H locs ls hP hS hL hst hw
      have hst' : ∀ v ∈ r, tk_vok v := fun u hu => hst u (List.mem_cons_of_mem _ hu)
      cases cd
      · exact lv_if_eq hx hb hdg hj (fun q => k1 q H locs ls hP hS hL hst' hw) (fun q => k2 q H locs ls hP hS hL hst' hw)
      · exact lv_if_ne hx hb hdg hj (fun q => k1 q H locs ls hP hS hL hst' hw) (fun q => k2 q H locs ls hP hS hL hst' hw)
      · exact lv_if_lt hx hb hdg hj (fun q => k1 q H locs ls hP hS hL hst' hw) (fun q => k2 q H locs ls hP hS hL hst' hw)
      · exact lv_if_ge hx hb hdg hj (fun q => k1 q H locs ls hP hS hL hst' hw) (fun q => k2 q H locs ls hP hS hL hst' hw)
      · exact lv_if_gt hx hb hdg hj (fun q => k1 q H locs ls hP hS hL hst' hw) (fun q => k2 q H locs ls hP hS hL hst' hw)
      · exact lv_if_le hx hb hdg hj (fun q => k1 q H locs ls hP hS hL hst' hw) (fun q => k2 q H locs ls hP hS hL hst' hw)
    · cases h
  | if_icmp cd off =>
    have hn : n = 3 := Nat.eq_of_beq_eq_true hc
    subst hn
    obtain ⟨pc, L, st, w⟩ := c
    unfold tk_br at h
    dsimp only at h hdg jmp
    split at h
    · rename_i y x r t hj
      cases h
      have hj := jmp hj
      intro H locs ls hP hS hL hst hw
      have hst' : ∀ v ∈ r, tk_vok v := fun u hu => hst u (List.mem_cons_of_mem _ (List.mem_cons_of_mem _ hu))
      cases cd
      · exact lv_icmp_eq hx hb hdg hj (fun q => k1 q H locs ls hP hS hL hst' hw) (fun q => k2 q H locs ls hP hS hL hst' hw)
      · exact lv_icmp_ne hx hb hdg hj (fun q => k1 q H locs ls hP hS hL hst' hw) (fun q => k2 q H locs ls hP hS hL hst' hw)
      · exact lv_icmp_lt hx hb hdg hj (fun q => k1 q H locs ls hP hS hL hst' hw) (fun q => k2 q H locs ls hP hS hL hst' hw)
      · exact lv_icmp_ge hx hb hdg hj (fun q => k1 q H locs ls hP hS hL hst' hw) (fun q => k2 q H locs ls hP hS hL hst' hw)
      · exact lv_icmp_gt hx hb hdg hj (fun q => k1 q H locs ls hP hS hL hst' hw) (fun q => k2 q H locs ls hP hS hL hst' hw)
      · exact lv_icmp_le hx hb hdg hj (fun q => k1 q H locs ls hP hS hL hst' hw) (fun q => k2 q H locs ls hP hS hL hst' hw)
    · cases h
  | _ => cases h
end TKW
/-- what tkDn is taken for -/
def tk_X (l : Launch) : tkM → tkC → tkQ → Prop := fun M c Q => ∀ (E : tkE), E ∈ tk_all → E.2.2.2.2.2.2 = M → ∀ (p : Program) (e : Env) (R : Room) (s : State) (m : MethodId) (args : Array Value) (below : List Frame) (meth : Method) (c0 : Code) (cells slots : Nat) (QQ : State → Prop) (D : va_G) (cA : Nat → ClassId) (ad : tkAd) (A : Nat → Prop) (H0 : Heap), tk_Cx p R s m args meth c0 E D cA ad A → cells ≤ R.cells → slots ≤ R.slots →
  (∀ (d : tkC) (i : Jvm.ClassFile.Instr) (n : Nat) (P : Option Prop) (r : Option tkV), tk_at M.2.2.2.2 d.1 = some (i, n) → tk_ret M.2.1 i d.2.2.1 = some (P, r) → tk_and P (Q r d.2.2.2) → tk_Wd p l e R s m args below meth c0 cells slots QQ E D cA ad A H0 d) → tk_Wd p l e R s m args below meth c0 cells slots QQ E D cA ad A H0 c
theorem tk_X_mono (l : Launch) : tk_mono (tk_X l) := by
  intro M c Q Q' hQ h E hE hM p e R s m args below meth c0 cells slots QQ D cA ad A H0 C k1 k2 k
  exact h E hE hM p e R s m args below meth c0 cells slots QQ D cA ad A H0 C k1 k2 (fun d i n P r a1 a2 a3 => k d i n P r a1 a2 (tk_and_mono (hQ _ _) a3))
theorem tk_as_rep (ad : tkAd) : ∀ (n i : Nat), tk_as ad i (List.replicate n none) = [] := by
  intro n
  induction n with
  | zero => intro i; rfl
  | succ n ih => intro i; exact ih (i + 1)
theorem tk_as_en (ad : tkAd) (n : Nat) : ∀ (as : List tkV) (i : Nat), tk_as ad i (tk_en as ++ List.replicate n none) = lv_args i (as.map (tk_cv ad)) := by
  intro as
  induction as with
  | nil => intro i; exact tk_as_rep ad n i
  | cons v r ih =>
    intro i
    match v with
    | .inl x => exact congrArg (fun z => (i, Value.int x) :: z) (ih (i + 1))
    | .inr (.inl x) => exact congrArg (fun z => (i, Value.long x) :: z) (ih (i + 1 + 1))
    | .inr (.inr x) => exact congrArg (fun z => (i, Value.ref (ad x)) :: z) (ih (i + 1))
theorem tk_en_len (ad : tkAd) : ∀ (as : List tkV), (lg_sl (as.map (tk_cv ad))).length = (tk_en as).length := by
  intro as
  induction as with
  | nil => rfl
  | cons v r ih =>
    match v with
    | .inl x => exact congrArg (fun z => z + 1) ih
    | .inr (.inl x) => exact congrArg (fun z => z + 1 + 1) ih
    | .inr (.inr x) => exact congrArg (fun z => z + 1) ih
theorem tk_en_vok {as : List tkV} (h : ∀ v ∈ as, tk_vok v) : ∀ u, some u ∈ tk_en as → tk_vok u := by
  induction as with
  | nil => intro u hu; cases hu
  | cons v r ih =>
    have ih := ih (fun v hv => h v (List.mem_cons_of_mem _ hv))
    have hv := h v List.mem_cons_self
    intro u hu
    match v, hv, hu with
    | .inl x, hv, hu =>
      rcases List.mem_cons.mp hu with q | hu
      · cases q; exact hv
      · exact ih u hu
    | .inr (.inl x), hv, hu =>
      rcases List.mem_cons.mp hu with q | hu
      · cases q; exact hv
      · rcases List.mem_cons.mp hu with q | hu
        · cases q
        · exact ih u hu
    | .inr (.inr x), hv, hu =>
      rcases List.mem_cons.mp hu with q | hu
      · cases q; exact hv
      · exact ih u hu
theorem tk_LR_entry {ad : tkAd} {as : List tkV} {n : Nat} (h : (tk_en as).length ≤ n) (hv : ∀ v ∈ as, tk_vok v) : tk_LR ad (tk_ent as n) ((lg_sl (as.map (tk_cv ad)) ++ List.replicate (n - (lg_sl (as.map (tk_cv ad))).length) Slot.unset).toArray) n := by
  refine ⟨?_, ?_, fun i v hi => ?_⟩
  · unfold tk_ent
    rw [List.length_append, List.length_replicate]; omega
  · unfold tk_ent
    rw [tk_as_en]
    exact lv_entry _ (by rw [tk_en_len]; exact h)
  · have hm := List.mem_of_getElem? hi
    unfold tk_ent at hm
    rcases List.mem_append.mp hm with q | q
    · exact tk_en_vok hv v q
    · have := List.eq_of_mem_replicate q
      cases this
def tk_Qc (rk : Nat) (Q : tkQ) (B : tkW → State → Prop) (A : Nat → Prop) : Array Value → State → Outcome → State → Prop := match rk with
  | 2 => va_Ql (fun r u => Q (some (.inr (.inl r))) u) B A
  | 3 => va_Qv (fun u => Q none u) B A
  | _ => va_Qi (fun r u => Q (some (.inl r)) u) B A
set_option maxHeartbeats 1000000 in
theorem tk_met {l : Launch} {E : tkE} (hE : E ∈ tk_all) {as : List tkV} {w : tkW} {Q : tkQ} (h : tk_X l E.2.2.2.2.2.2 (0, tk_ent as E.2.2.1, [], w) Q) (hlen : (tk_en as).length ≤ E.2.2.1) (hv : ∀ v ∈ as, tk_vok v) (hw : tk_wok w) {D : va_G} {cA : Nat → ClassId} {ad : tkAd} {A : Nat → Prop} (hij : ∀ t ∈ tk_ix, ∀ t' ∈ tk_ix, ad t = ad t' → t = t') (hA : ∀ t ∈ tk_ix, A (ad t)) :
    Met l E.1 (Cond.code E.1 E.2.1 E.2.2.1 E.2.2.2.1 :: tk_TB) ({ frames := E.2.2.2.2.2.2.2.2.1, cells := 0, slots := 0, locals := E.2.2.2.2.2.2.2.2.2.1 }) (va_Pc (as.map (tk_cv ad)) (fun U => va_P D tk_cls (tk_wl ad cA w) U.heap ∧ va_K D tk_cls (tk_tyl cA) U)) (tk_Qc E.2.2.2.2.2.2.2.1 Q (fun u t => va_P D tk_cls (tk_wl ad cA u) t.heap ∧ tk_wok u) A) 0 0 A := by
  obtain ⟨f1, f2, f3, f4, f5, f6⟩ := tk_factd hE
  obtain ⟨r0, r1, r2, r3⟩ := tk_rks E hE
  refine Met.ofW (cc := E.2.1) (maxL := E.2.2.1) (ret := E.2.2.2.1) f2 rfl ?_
  intro p e s m args below meth c s₁ B hml hv0
  obtain ⟨rfl, hP, hK⟩ := hv0
  have hts := atoms_spec (ws := Cond.code E.1 E.2.1 E.2.2.1 E.2.2.2.1 :: tk_TB) B.pre
  have hown : s.vm.findClass (tk_cn E.2.2.2.2.2.2.1) = some m.cls := by rw [f1]; exact findClass_of_methodNamed B.named
  have C : tk_Cx p { frames := E.2.2.2.2.2.2.2.2.1, cells := 0, slots := 0, locals := E.2.2.2.2.2.2.2.2.2.1 } s m (as.map (tk_cv ad)).toArray meth c E D cA ad A := ⟨B.exec, B.bytes, hml, hown, fun w hw => hts w (List.mem_cons_of_mem _ hw), B.returns, B.notSynchronized, Nat.le_refl _, Nat.le_refl _, hK, hij, hA⟩
  have hlocks := B.notSynchronized
  have hx := B.exec
  have hb := B.bytes
  have hr := B.returns
  rw [lg_entry_eq]
  refine h E hE rfl p e _ s m _ below meth c 0 0 _ D cA ad A s.heap C (Nat.zero_le _) (Nat.zero_le _) ?_ s.heap [] _ hP va_S.rf (tk_LR_entry hlen hv) (fun v hv => by cases hv) hw
  intro d i n P r hat hret hq H locs ls hP hS hL hst hw
  have hdg : decode E.2.1 d.1 = .ok (i, n) := tk_decs E hE (d.1, i, n) (tk_at_mem hat)
  have hc := tk_chks E hE (d.1, i, n) (tk_at_mem hat)
  unfold tk_chk at hc
  dsimp only at hc
  obtain ⟨pc, L, st, w2⟩ := d
  dsimp only at hret hq hP hS hL hst hw hdg ⊢
  cases i with
  | ireturn =>
    have hn : n = 1 := Nat.eq_of_beq_eq_true hc
    subst hn
    unfold tk_ret at hret
    dsimp only at hret
    split at hret
    · rename_i x hrk
      cases hret
      refine W.iret (v := x) hx hb (by rw [hr]; exact r0 hrk) (fun t ht hW => ?_) hS.2.2 hdg
      rw [hrk]
      exact ⟨⟨x, w2, rfl, hq, by rw [ht]; exact hP, hw⟩, hS.F ht⟩
    · rename_i x hrk
      cases hret
      refine W.zret (v := x) hx hb (by rw [hr]; exact r1 hrk) (by rcases hq.1 with rfl | rfl <;> rfl) (fun t ht hW => ?_) hS.2.2 hdg
      rw [hrk]
      exact ⟨⟨x, w2, rfl, hq.2, by rw [ht]; exact hP, hw⟩, hS.F ht⟩
    · cases hret
  | lreturn =>
    have hn : n = 1 := Nat.eq_of_beq_eq_true hc
    subst hn
    unfold tk_ret at hret
    dsimp only at hret
    split at hret
    · rename_i x hrk
      cases hret
      refine W.lret (v := x) hx hb (by rw [hr]; exact r2 hrk) (fun t ht hW => ?_) hS.2.2 hdg
      rw [hrk]
      exact ⟨⟨x, w2, rfl, hq, by rw [ht]; exact hP, hw⟩, hS.F ht⟩
    · cases hret
  | return_ =>
    have hn : n = 1 := Nat.eq_of_beq_eq_true hc
    subst hn
    unfold tk_ret at hret
    dsimp only at hret
    split at hret
    · rename_i hrk
      cases hret
      refine W.vret hx hb (by rw [hr]; exact r3 hrk) (fun t ht hW => ?_) hS.2.2 hdg
      rw [hrk]
      exact ⟨⟨w2, rfl, hq, by rw [ht]; exact hP, hw⟩, hS.F ht⟩
    · cases hret
  | _ => cases hret
