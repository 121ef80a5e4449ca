/-! A machine over pictures: the system's cells as three functions, its code as the data says; tkDn M c Q: from the configuration c of the method M its return is reached, with Q of the answer and the world. -/
abbrev tkV : Type := Int32 ⊕ (Int64 ⊕ (Nat × Nat × Nat))
abbrev tkI : Type := Nat → Nat → Nat → Nat → Int32
abbrev tkJ : Type := Nat → Nat → Nat → Nat → Int64
abbrev tkW : Type := tkI × tkJ × (Nat → Nat)
abbrev tkL : Type := List (Option tkV)
abbrev tkC : Type := Nat × tkL × List tkV × tkW
abbrev tkQ : Type := Option tkV → tkW → Prop
def tk_so {α : Type} (I : Nat → Nat → α) (ci b : Nat) (N : α) : Nat → Nat → α := fun a d => if a = ci ∧ d = b then N else I a d
def tk_u1 {α : Type} (f : Nat → α) (k : Nat) (x : α) : Nat → α := fun j => if j = k then x else f j
def tk_u2 {α : Type} (N : Nat → Nat → α) (s k : Nat) (x : α) : Nat → Nat → α := tk_u1 N s (tk_u1 (N s) k x)
def tk_at : tkT → Nat → Option (Jvm.ClassFile.Instr × Nat)
  | [], _ => none
  | x :: t, pc => match Nat.beq x.1 pc with
    | true => some x.2
    | false => tk_at t pc
def tk_lk2 {α : Type} : List (Nat × Nat × α) → Nat → Nat → Option α
  | [], _, _ => none
  | x :: t, a, b => match Nat.beq x.1 a && Nat.beq x.2.1 b with
    | true => some x.2.2
    | false => tk_lk2 t a b
def tk_fl (own idx : Nat) : Option Nat := tk_lk2 tk_FL own idx
def tk_ml (own idx : Nat) : Option Nat := tk_lk2 tk_ML own idx
def tk_cp (own idx : Nat) : Option Nat := tk_lk2 tk_CP own idx
def tk_clr (L : tkL) (i : Nat) : tkL := match i with
  | 0 => L
  | j + 1 => match L.getD j none with
    | some (.inr (.inl _)) => L.set j none
    | _ => L
def tk_st1 (L : tkL) (i : Nat) (v : tkV) : tkL := (tk_clr L i).set i (some v)
def tk_st2 (L : tkL) (i : Nat) (v : tkV) : tkL := ((tk_clr L i).set i (some v)).set (i + 1) none
abbrev tkO : Type := Option (Option Prop × tkC)
def tk_ld (k : Nat) (i n : Nat) (c : tkC) : tkO := match k, c.2.1.getD i none with
  | 0, some (.inl x) => some (none, (c.1 + n, c.2.1, .inl x :: c.2.2.1, c.2.2.2))
  | 1, some (.inr (.inl x)) => some (none, (c.1 + n, c.2.1, .inr (.inl x) :: c.2.2.1, c.2.2.2))
  | 2, some (.inr (.inr x)) => some (none, (c.1 + n, c.2.1, .inr (.inr x) :: c.2.2.1, c.2.2.2))
  | _, _ => none
def tk_sto (k : Nat) (i n : Nat) (c : tkC) : tkO := match k, c.2.2.1 with
  | 0, .inl x :: r => if i < c.2.1.length then some (none, (c.1 + n, tk_st1 c.2.1 i (.inl x), r, c.2.2.2)) else none
  | 1, .inr (.inl x) :: r => if i + 1 < c.2.1.length then some (none, (c.1 + n, tk_st2 c.2.1 i (.inr (.inl x)), r, c.2.2.2)) else none
  | 2, .inr (.inr x) :: r => if i < c.2.1.length then some (none, (c.1 + n, tk_st1 c.2.1 i (.inr (.inr x)), r, c.2.2.2)) else none
  | _, _ => none
def tk_inc (i : Nat) (d : Int) (n : Nat) (c : tkC) : tkO := match c.2.1.getD i none with
  | some (.inl x) => if i < c.2.1.length then some (none, (c.1 + n, tk_st1 c.2.1 i (.inl (x + Int32.ofInt d)), c.2.2.1, c.2.2.2)) else none
  | _ => none
def tk_i2 (f : Int32 → Int32 → Int32) (n : Nat) (c : tkC) : tkO := match c.2.2.1 with
  | .inl y :: .inl x :: r => some (none, (c.1 + n, c.2.1, .inl (f x y) :: r, c.2.2.2))
  | _ => none
def tk_l2 (f : Int64 → Int64 → Int64) (n : Nat) (c : tkC) : tkO := match c.2.2.1 with
  | .inr (.inl y) :: .inr (.inl x) :: r => some (none, (c.1 + n, c.2.1, .inr (.inl (f x y)) :: r, c.2.2.2))
  | _ => none
def tk_div (n : Nat) (c : tkC) : tkO := match c.2.2.1 with
  | .inl y :: .inl x :: r => some (some (¬ y = 0), (c.1 + n, c.2.1, .inl (x / y) :: r, c.2.2.2))
  | _ => none
def tk_i1 (f : Int32 → tkV) (n : Nat) (c : tkC) : tkO := match c.2.2.1 with
  | .inl x :: r => some (none, (c.1 + n, c.2.1, f x :: r, c.2.2.2))
  | _ => none
def tk_l1 (f : Int64 → tkV) (n : Nat) (c : tkC) : tkO := match c.2.2.1 with
  | .inr (.inl x) :: r => some (none, (c.1 + n, c.2.1, f x :: r, c.2.2.2))
  | _ => none
def tk_cmp (n : Nat) (c : tkC) : tkO := match c.2.2.1 with
  | .inr (.inl y) :: .inr (.inl x) :: r => some (none, (c.1 + n, c.2.1, .inl (lg_cmp x y) :: r, c.2.2.2))
  | _ => none
def tk_dup (n : Nat) (c : tkC) : tkO := match c.2.2.1 with
  | .inl x :: r => some (none, (c.1 + n, c.2.1, .inl x :: .inl x :: r, c.2.2.2))
  | .inr (.inr x) :: r => some (none, (c.1 + n, c.2.1, .inr (.inr x) :: .inr (.inr x) :: r, c.2.2.2))
  | _ => none
def tk_push (v : tkV) (n : Nat) (c : tkC) : tkO := some (none, (c.1 + n, c.2.1, v :: c.2.2.1, c.2.2.2))
def tk_kI (own idx n : Nat) (c : tkC) : tkO := match tk_lk2 tk_KI own idx with
  | some v => tk_push (.inl v) n c
  | none => none
def tk_kL (own idx n : Nat) (c : tkC) : tkO := match tk_lk2 tk_KL own idx with
  | some v => tk_push (.inr (.inl v)) n c
  | none => none
/-- a field of an object -/
def tk_rd (w : tkW) (ci b k : Nat) : tkV := match (tk_fk ci k).1 with
  | 0 => .inl (w.1 ci b 0 k)
  | 1 => .inl (w.1 ci b 0 k)
  | 2 => .inr (.inl (w.2.1 ci b 0 k))
  | 6 => .inr (.inr ((tk_fk ci k).2, 0, 0))
  | 7 => .inr (.inr (1, w.2.2 k, 0))
  | _ => .inr (.inr (ci, b, k + 1))
def tk_getf (own idx n : Nat) (c : tkC) : tkO := match c.2.2.1, tk_fl own idx with
  | .inr (.inr (ci, b, 0)) :: r, some k => match Nat.beq ci own with
    | true => some (none, (c.1 + n, c.2.1, tk_rd c.2.2.2 ci b k :: r, c.2.2.2))
    | false => none
  | _, _ => none
def tk_wI (w : tkW) (ci b s k : Nat) (x : Int32) : tkW := (tk_so w.1 ci b (tk_u2 (w.1 ci b) s k x), w.2.1, w.2.2)
def tk_wJ (w : tkW) (ci b s k : Nat) (x : Int64) : tkW := (w.1, tk_so w.2.1 ci b (tk_u2 (w.2.1 ci b) s k x), w.2.2)
def tk_wr (own b k : Nat) (v : tkV) (pc : Nat) (L : tkL) (r : List tkV) (w : tkW) : tkO := match (tk_fk own k).1, v with
  | 0, .inl x => some (none, (pc, L, r, tk_wI w own b 0 k x))
  | 1, .inl x => some (some (x = 0 ∨ x = 1), (pc, L, r, tk_wI w own b 0 k x))
  | 2, .inr (.inl x) => some (none, (pc, L, r, tk_wJ w own b 0 k x))
  | 7, .inr (.inr (1, d, 0)) => some (none, (pc, L, r, (w.1, w.2.1, tk_u1 w.2.2 k d)))
  | _, _ => none
def tk_putf (own idx n : Nat) (c : tkC) : tkO := match c.2.2.1, tk_fl own idx with
  | v :: .inr (.inr (ci, b, 0)) :: r, some k => match Nat.beq ci own && !(tk_T own k).2.2.2 with
    | true => tk_wr own b k v (c.1 + n) c.2.1 r c.2.2.2
    | false => none
  | _, _ => none
def tk_ak (ci s : Nat) : Nat × Nat := match s with
  | 0 => (8, 0)
  | k + 1 => tk_fk ci k
def tk_ald (kd : Nat) (n : Nat) (c : tkC) : tkO := match c.2.2.1 with
  | .inl j :: .inr (.inr (ci, b, s)) :: r => match Nat.beq (tk_ak ci s).1 kd with
    | true => some (some (vp_in j (tk_ak ci s).2), (c.1 + n, c.2.1, (match kd with | 4 => .inr (.inl (c.2.2.2.2.1 ci b s j.toNatClampNeg)) | _ => .inl (c.2.2.2.1 ci b s j.toNatClampNeg)) :: r, c.2.2.2))
    | false => none
  | _ => none
def tk_ast (kd : Nat) (n : Nat) (c : tkC) : tkO := match c.2.2.1 with
  | .inl x :: .inl j :: .inr (.inr (ci, b, s)) :: r => match Nat.beq (tk_ak ci s).1 kd with
    | true => match kd with
      | 3 => some (some (vp_in j (tk_ak ci s).2), (c.1 + n, c.2.1, r, tk_wI c.2.2.2 ci b s j.toNatClampNeg x))
      | 5 => some (some (vp_in j (tk_ak ci s).2), (c.1 + n, c.2.1, r, tk_wI c.2.2.2 ci b s j.toNatClampNeg (vp_nar .byte x)))
      | _ => none
    | false => none
  | .inr (.inl x) :: .inl j :: .inr (.inr (ci, b, s)) :: r => match Nat.beq (tk_ak ci s).1 kd with
    | true => match kd with
      | 4 => some (some (vp_in j (tk_ak ci s).2), (c.1 + n, c.2.1, r, tk_wJ c.2.2.2 ci b s j.toNatClampNeg x))
      | _ => none
    | false => none
  | _ => none
def tk_alen (n : Nat) (c : tkC) : tkO := match c.2.2.1 with
  | .inr (.inr (ci, b, s)) :: r => match Nat.ble 3 (tk_ak ci s).1 && Nat.ble (tk_ak ci s).1 5 with
    | true => some (none, (c.1 + n, c.2.1, .inl (Int32.ofNat (tk_ak ci s).2) :: r, c.2.2.2))
    | false => none
  | _ => none
def tk_copy (n : Nat) (c : tkC) : tkO := match c.2.2.1 with
  | .inl k :: .inl dp :: .inr (.inr (c1, b1, s1)) :: .inl sp :: .inr (.inr (c0, b0, s0)) :: [] => match Nat.beq (tk_ak c0 s0).1 4 && Nat.beq (tk_ak c1 s1).1 4 with
    | true => some (some (¬ sp < 0 ∧ ¬ dp < 0 ∧ ¬ k < 0 ∧ sp.toNatClampNeg + k.toNatClampNeg ≤ (tk_ak c0 s0).2 ∧ dp.toNatClampNeg + k.toNatClampNeg ≤ (tk_ak c1 s1).2), (c.1 + n, c.2.1, [], (c.2.2.2.1, tk_so c.2.2.2.2.1 c1 b1 (tk_u1 (c.2.2.2.2.1 c1 b1) s1 (va_cpy (c.2.2.2.2.1 c0 b0 s0) (c.2.2.2.2.1 c1 b1 s1) sp.toNatClampNeg dp.toNatClampNeg k.toNatClampNeg)), c.2.2.2.2.2)))
    | false => none
  | _ => none
def tk_cat (v : tkV) : Nat := match v with
  | .inr (.inl _) => 2
  | _ => 1
def tk_m8 (o : tkO) (c : tkC) : tkO := match Nat.ble (((c.2.2.1.drop 2).map tk_cat).sum) 8 with
  | true => o
  | false => none
def tk_jmp (pc : Nat) (off : Int) : Option Nat := match (pc : Int) + off with
  | .ofNat t => some t
  | .negSucc _ => none
def tk_go (off : Int) (c : tkC) : tkO := match tk_jmp c.1 off with
  | some t => some (none, (t, c.2.1, c.2.2.1, c.2.2.2))
  | none => none
def tk_swo (dflt lo hi : Int) (offs : Array Int) (x : Int32) : Int := if x.toInt < lo ∨ hi < x.toInt then dflt else offs.getD (x.toInt - lo).toNat 0
def tk_sw (dflt lo hi : Int) (offs : Array Int) (c : tkC) : tkO := match c.2.2.1 with
  | .inl x :: r => some (some ((hi - lo + 1).toNat = offs.size ∧ lo ≤ hi ∧ 0 ≤ (c.1 : Int) + tk_swo dflt lo hi offs x), (((c.1 : Int) + tk_swo dflt lo hi offs x).toNat, c.2.1, r, c.2.2.2))
  | _ => none
def tk_ins (own : Nat) (i : Jvm.ClassFile.Instr) (n : Nat) (c : tkC) : tkO := match i with
  | .iconst v => tk_push (.inl (Int32.ofInt v)) n c
  | .bipush v => tk_push (.inl (Int8.ofInt v).toInt32) n c
  | .sipush v => tk_push (.inl (Int16.ofInt v).toInt32) n c
  | .lconst v => tk_push (.inr (.inl (Int64.ofNat (v : Nat)))) n c
  | .ldc idx => tk_kI own idx n c
  | .ldc_w idx => tk_kI own idx n c
  | .ldc2_w idx => tk_kL own idx n c
  | .iload j => tk_ld 0 j n c
  | .iload_n j => tk_ld 0 j n c
  | .lload j => tk_ld 1 j n c
  | .lload_n j => tk_ld 1 j n c
  | .aload j => tk_ld 2 j n c
  | .aload_n j => tk_ld 2 j n c
  | .istore j => tk_sto 0 j n c
  | .istore_n j => tk_sto 0 j n c
  | .lstore j => tk_sto 1 j n c
  | .lstore_n j => tk_sto 1 j n c
  | .astore j => tk_sto 2 j n c
  | .astore_n j => tk_sto 2 j n c
  | .iinc j d => tk_inc j d n c
  | .iadd => tk_i2 (fun x y => x + y) n c
  | .isub => tk_i2 (fun x y => x - y) n c
  | .imul => tk_i2 (fun x y => x * y) n c
  | .iand => tk_i2 (fun x y => x &&& y) n c
  | .ior => tk_i2 (fun x y => x ||| y) n c
  | .ixor => tk_i2 (fun x y => x ^^^ y) n c
  | .ishl => tk_i2 (fun x y => x <<< (y &&& 31)) n c
  | .ishr => tk_i2 (fun x y => x >>> (y &&& 31)) n c
  | .idiv => tk_div n c
  | .ineg => tk_i1 (fun x => .inl (-x)) n c
  | .i2l => tk_i1 (fun x => .inr (.inl x.toInt64)) n c
  | .i2b => tk_i1 (fun x => .inl x.toInt8.toInt32) n c
  | .l2i => tk_l1 (fun x => .inl x.toInt32) n c
  | .lneg => tk_l1 (fun x => .inr (.inl (-x))) n c
  | .ladd => tk_l2 (fun x y => x + y) n c
  | .lsub => tk_l2 (fun x y => x - y) n c
  | .lcmp => tk_cmp n c
  | .dup => tk_dup n c
  | .getfield idx => tk_getf own idx n c
  | .putfield idx => tk_putf own idx n c
  | .iaload => tk_ald 3 n c
  | .laload => tk_ald 4 n c
  | .baload => tk_ald 5 n c
  | .iastore => tk_ast 3 n c
  | .lastore => tk_ast 4 n c
  | .bastore => tk_ast 5 n c
  | .arraylength => tk_alen n c
  | .goto off => tk_go off c
  | .tableswitch dflt lo hi offs => tk_sw dflt lo hi offs c
  | .invokestatic idx => match tk_cp own idx with
    | some 1 => tk_copy n c
    | some 2 => tk_m8 (tk_l2 (fun x y => if y < x then x else y) n c) c
    | some 3 => tk_m8 (tk_l2 (fun x y => if y < x then y else x) n c) c
    | some 4 => tk_m8 (tk_i2 (fun x y => if y < x then y else x) n c) c
    | _ => none
  | _ => none
def tk_c1 (cd : Jvm.ClassFile.Cond) (x : Int32) : Prop × Prop := match cd with
  | .eq => (x = 0, ¬ x = 0)
  | .ne => (¬ x = 0, x = 0)
  | .lt => (x < 0, ¬ x < 0)
  | .ge => (0 ≤ x, ¬ 0 ≤ x)
  | .gt => (0 < x, ¬ 0 < x)
  | .le => (x ≤ 0, ¬ x ≤ 0)
def tk_c2 (cd : Jvm.ClassFile.Cond) (x y : Int32) : Prop × Prop := match cd with
  | .eq => (x = y, ¬ x = y)
  | .ne => (¬ x = y, x = y)
  | .lt => (x < y, ¬ x < y)
  | .ge => (y ≤ x, ¬ y ≤ x)
  | .gt => (y < x, ¬ y < x)
  | .le => (x ≤ y, ¬ x ≤ y)
def tk_br (i : Jvm.ClassFile.Instr) (n : Nat) (c : tkC) : Option ((Prop × Prop) × tkC × tkC) := match i with
  | .ifCond cd off => match c.2.2.1, tk_jmp c.1 off with
    | .inl x :: r, some t => some (tk_c1 cd x, (t, c.2.1, r, c.2.2.2), (c.1 + n, c.2.1, r, c.2.2.2))
    | _, _ => none
  | .if_icmp cd off => match c.2.2.1, tk_jmp c.1 off with
    | .inl y :: .inl x :: r, some t => some (tk_c2 cd x y, (t, c.2.1, r, c.2.2.2), (c.1 + n, c.2.1, r, c.2.2.2))
    | _, _ => none
  | _ => none
def tk_ret (rk : Nat) (i : Jvm.ClassFile.Instr) (st : List tkV) : Option (Option Prop × Option tkV) := match i with
  | .ireturn => match st, rk with
    | [.inl x], 0 => some (none, some (.inl x))
    | [.inl x], 1 => some (some (x = 0 ∨ x = 1), some (.inl x))
    | _, _ => none
  | .lreturn => match st, rk with
    | [.inr (.inl x)], 2 => some (none, some (.inr (.inl x)))
    | _, _ => none
  | .return_ => match st, rk with
    | [], 3 => some (none, none)
    | _, _ => none
  | _ => none
/-- locals at a method's entry -/
def tk_en : List tkV → tkL
  | [] => []
  | .inl x :: r => some (.inl x) :: tk_en r
  | .inr (.inl x) :: r => some (.inr (.inl x)) :: none :: tk_en r
  | .inr (.inr x) :: r => some (.inr (.inr x)) :: tk_en r
def tk_ent (as : List tkV) (ml : Nat) : tkL := tk_en as ++ List.replicate (ml - (tk_en as).length) none
def tk_rm (M : tkM) (e : tkE) : Bool := Nat.ble (e.2.2.2.2.2.2.2.2.1 + 1) M.2.2.1 && Nat.ble (8 + (e.2.2.1 + 11) + e.2.2.2.2.2.2.2.2.2.1) M.2.2.2.1
/-- a call: the callee, its arguments, what stays on the stack -/
def tk_call (M : tkM) (i : Jvm.ClassFile.Instr) (st : List tkV) : Option (tkE × List tkV × List tkV) := match i with
  | .invokestatic idx => match tk_ml M.1 idx with
    | some k => match tk_all[k]? with
      | some e => match e.2.2.2.2.1 && tk_rm M e && Nat.ble e.2.2.2.2.2.1 st.length && Nat.ble (((st.drop e.2.2.2.2.2.1).map tk_cat).sum) 8 && Nat.ble (tk_en (st.take e.2.2.2.2.2.1)).length e.2.2.1 with
        | true => some (e, (st.take e.2.2.2.2.2.1).reverse, st.drop e.2.2.2.2.2.1)
        | false => none
      | none => none
    | none => none
  | .invokevirtual idx => match tk_ml M.1 idx with
    | some k => match tk_all[k]? with
      | some e => match !e.2.2.2.2.1 && tk_rm M e && Nat.ble e.2.2.2.2.2.1 st.length && Nat.ble (((st.drop (e.2.2.2.2.2.1 + 1)).map tk_cat).sum) 8 && Nat.ble (tk_en (st.take (e.2.2.2.2.2.1 + 1))).length e.2.2.1 with
        | true => match st.drop e.2.2.2.2.2.1 with
          | .inr (.inr (ci, b, 0)) :: r => match Nat.beq ci e.2.2.2.2.2.2.1 && Nat.ble ci 6 with
            | true => some (e, .inr (.inr (ci, b, 0)) :: (st.take e.2.2.2.2.2.1).reverse, r)
            | false => none
          | _ => none
        | false => none
      | none => none
    | none => none
  | _ => none
def tk_and (P : Option Prop) (R : Prop) : Prop := match P with
  | none => R
  | some P => P ∧ R
/-- one instruction -/
def tk_F (X : tkM → tkC → tkQ → Prop) (M : tkM) (c : tkC) (Q : tkQ) : Prop := match tk_at M.2.2.2.2 c.1 with
  | none => False
  | some (i, n) => match tk_ins M.1 i n c with
    | some (P, d) => tk_and P (X M d Q)
    | none => match tk_br i n c with
      | some (P, c1, c2) => (P.1 → X M c1 Q) ∧ (P.2 → X M c2 Q)
      | none => match tk_ret M.2.1 i c.2.2.1 with
        | some (P, r) => tk_and P (Q r c.2.2.2)
        | none => match tk_call M i c.2.2.1 with
          | some (e, as, rest) => X e.2.2.2.2.2.2 (0, tk_ent as e.2.2.1, [], c.2.2.2) (fun r w => X M (c.1 + 3, c.2.1, r.toList ++ rest, w) Q)
          | none => False
def tk_mono (X : tkM → tkC → tkQ → Prop) : Prop := ∀ M c (Q Q' : tkQ), (∀ r w, Q r w → Q' r w) → X M c Q → X M c Q'
def tkDn (M : tkM) (c : tkC) (Q : tkQ) : Prop := ∀ X : tkM → tkC → tkQ → Prop, tk_mono X → (∀ M c Q, tk_F X M c Q → X M c Q) → X M c Q
theorem tk_and_mono {P : Option Prop} {R R' : Prop} (h : R → R') (k : tk_and P R) : tk_and P R' := by
  cases P with
  | none => exact h k
  | some P => exact ⟨k.1, h k.2⟩
theorem tk_F_mono {X Y : tkM → tkC → tkQ → Prop} (hXY : ∀ M c Q, X M c Q → Y M c Q) (hY : tk_mono Y) {M : tkM} {c : tkC} {Q : tkQ} (h : tk_F X M c Q) : tk_F Y M c Q := by
  unfold tk_F at h ⊢
  split at h
  · exact h
  · split at h
    · exact tk_and_mono (hXY _ _ _) h
    · split at h
      · exact ⟨fun p => hXY _ _ _ (h.1 p), fun p => hXY _ _ _ (h.2 p)⟩
      · split at h
        · exact h
        · split at h
          · exact hY _ _ _ _ (fun r w => hXY _ _ _) (hXY _ _ _ h)
          · exact h
theorem tkDn.fold {M : tkM} {c : tkC} {Q : tkQ} (h : tk_F tkDn M c Q) : tkDn M c Q := fun X hm hX => hX _ _ _ (tk_F_mono (fun _ _ _ k => k X hm hX) hm h)
theorem tk_F_monoQ {X : tkM → tkC → tkQ → Prop} (hX : tk_mono X) {M : tkM} {c : tkC} {Q Q' : tkQ} (hQ : ∀ r w, Q r w → Q' r w) (h : tk_F X M c Q) : tk_F X M c Q' := by
  unfold tk_F at h ⊢
  split at h
  · exact h
  · split at h
    · exact tk_and_mono (hX _ _ _ _ hQ) h
    · split at h
      · exact ⟨fun p => hX _ _ _ _ hQ (h.1 p), fun p => hX _ _ _ _ hQ (h.2 p)⟩
      · split at h
        · exact tk_and_mono (hQ _ _) h
        · split at h
          · exact hX _ _ _ _ (fun r w => hX _ _ _ _ hQ) h
          · exact h
/-- Dn is the least: Q may be widened -/
theorem tkDn.mono {M : tkM} {c : tkC} {Q Q' : tkQ} (hQ : ∀ r w, Q r w → Q' r w) (h : tkDn M c Q) : tkDn M c Q' := by
  have hm : tk_mono (fun M c Q => ∀ Q' : tkQ, (∀ r w, Q r w → Q' r w) → tkDn M c Q') := fun M c Q Q' hq k Q2 h2 => k Q2 (fun r w a => h2 r w (hq r w a))
  refine h (fun M c Q => ∀ Q' : tkQ, (∀ r w, Q r w → Q' r w) → tkDn M c Q') hm (fun M c Q k Q' hq => ?_) Q' hQ
  refine tkDn.fold ?_
  have k1 := tk_F_monoQ hm hq k
  unfold tk_F at k1 ⊢
  split at k1
  · exact k1
  · split at k1
    · exact tk_and_mono (fun z => z Q' (fun _ _ a => a)) k1
    · split at k1
      · exact ⟨fun p => k1.1 p Q' (fun _ _ a => a), fun p => k1.2 p Q' (fun _ _ a => a)⟩
      · split at k1
        · exact k1
        · split at k1
          · exact k1 _ (fun r w z => z Q' (fun _ _ a => a))
          · exact k1
/-! rows -/
/-- n instructions that neither branch nor call -/
def tk_stps : Nat → tkM → tkC → (tkC → Prop) → Prop
  | 0, _, c, K => K c
  | n + 1, M, c, K => match tk_at M.2.2.2.2 c.1 with
    | none => False
    | some (i, l) => match tk_ins M.1 i l c with
      | none => False
      | some (none, d) => tk_stps n M d K
      | some (some P, d) => P ∧ tk_stps n M d K
theorem dn_run (n : Nat) {M : tkM} {c : tkC} {Q : tkQ} (h : tk_stps n M c (fun d => tkDn M d Q)) : tkDn M c Q := by
  induction n generalizing c with
  | zero => exact h
  | succ n ih =>
    unfold tk_stps at h
    refine tkDn.fold ?_
    unfold tk_F
    split at h
    · exact h.elim
    · rename_i i l he
      try rw [he]
      try dsimp only
      split at h
      · exact h.elim
      · rename_i d hd
        try rw [hd]
        exact ih h
      · rename_i P d hd
        try rw [hd]
        exact ⟨h.1, ih h.2⟩
theorem dn_if {M : tkM} {c c1 c2 : tkC} {Q : tkQ} {i : Jvm.ClassFile.Instr} {n : Nat} {P : Prop × Prop} (ha : tk_at M.2.2.2.2 c.1 = some (i, n)) (hi : tk_ins M.1 i n c = none) (hb : tk_br i n c = some (P, c1, c2)) (h1 : P.1 → tkDn M c1 Q) (h2 : P.2 → tkDn M c2 Q) : tkDn M c Q := by
  refine tkDn.fold ?_
  unfold tk_F
  rw [ha]
  dsimp only
  rw [hi]
  dsimp only
  rw [hb]
  exact ⟨h1, h2⟩
theorem dn_ret {M : tkM} {c : tkC} {Q : tkQ} {i : Jvm.ClassFile.Instr} {n : Nat} {P : Option Prop} {r : Option tkV} (ha : tk_at M.2.2.2.2 c.1 = some (i, n)) (hi : tk_ins M.1 i n c = none) (hb : tk_br i n c = none) (hr : tk_ret M.2.1 i c.2.2.1 = some (P, r)) (h : tk_and P (Q r c.2.2.2)) : tkDn M c Q := by
  refine tkDn.fold ?_
  unfold tk_F
  rw [ha]
  dsimp only
  rw [hi]
  dsimp only
  rw [hb]
  dsimp only
  rw [hr]
  exact h
theorem dn_call {M : tkM} {c : tkC} {Q : tkQ} {i : Jvm.ClassFile.Instr} {n : Nat} {e : tkE} {as rest : List tkV} (ha : tk_at M.2.2.2.2 c.1 = some (i, n)) (hi : tk_ins M.1 i n c = none) (hb : tk_br i n c = none) (hr : tk_ret M.2.1 i c.2.2.1 = none) (hc : tk_call M i c.2.2.1 = some (e, as, rest)) (h : tkDn e.2.2.2.2.2.2 (0, tk_ent as e.2.2.1, [], c.2.2.2) (fun r w => tkDn M (c.1 + 3, c.2.1, r.toList ++ rest, w) Q)) : tkDn M c Q := by
  refine tkDn.fold ?_
  unfold tk_F
  rw [ha]
  dsimp only
  rw [hi]
  dsimp only
  rw [hb]
  dsimp only
  rw [hr]
  dsimp only
  rw [hc]
  exact h
