/-! A small machine over a heap of numbered cells: what a method of the system does, as a function. -/
abbrev am_H : Type := Nat × (Nat → Nat → Value)
abbrev am_C : Type := Nat × List Value × List Value × am_H
abbrev am_E : Type := am_MI → List Value → am_H → Option (Option Value × am_H)
def am_kd (a : Nat) : Nat × Nat := am_kl.getD a (99, 0)
def am_sk (a k : Nat) : Option Nat := (am_rl.getD a []).getD k none
def am_lkF (own idx : Nat) : Option (Nat × Nat) := (am_F.find? (fun e => e.1 == own && e.2.1 == idx)).map (fun e => (e.2.2.1, e.2.2.2.1))
def am_lkM (own idx : Nat) : Option (am_MI × Nat × Nat) := ((am_M own).find? (fun e => e.2.1 == idx)).map (fun e => (e.2.2.1, e.2.2.2.1, e.2.2.2.2.1))
def am_lkX (own idx : Nat) : Option Nat := (am_X.find? (fun e => e.1 == own && e.2.1 == idx)).map (fun e => e.2.2.1)
def am_lkL (own idx : Nat) : Option Nat := (am_L.find? (fun e => e.1 == own && e.2.1 == idx)).map (fun e => e.2.2.1)
def am_lkS (own idx : Nat) : Option Nat := (am_S.find? (fun e => e.1 == own && e.2.1 == idx)).map (fun e => e.2.2.1)
def am_lkN (own idx : Nat) : Option Int := (am_N.find? (fun e => e.1 == own && e.2.1 == idx)).map (fun e => e.2.2.1)
def am_ty : Nat → Nat → FieldType := fun c k => match c with
  | 0 => tyX0 k
  | 1 => tyX1 k
  | 2 => tyX2 k
  | 3 => tyX3 k
  | 4 => tyX4 k
  | 5 => tyX5 k
  | 6 => tyX6 k
  | 7 => tyX7 k
  | _ => tyX8 k
def am_T : Nat → u_T := fun c => match c with
  | 0 => TX0
  | 1 => TX1
  | 2 => TX2
  | 3 => TX3
  | 4 => TX4
  | 5 => TX5
  | 6 => TX6
  | 7 => TX7
  | _ => TX8
def am_fit (ty : FieldType) (v : Value) : Bool := match ty, v with
  | .int, .int _ => true
  | .boolean, .int x => x == 0 || x == 1
  | .object _, .ref _ => true
  | .array _, .ref _ => true
  | _, _ => false
def am_up (g : Nat → Nat → Value) (a k : Nat) (v : Value) : Nat → Nat → Value := fun a' k' => if a' = a ∧ k' = k then v else g a' k'
def am_dv (n : Nat) : Nat → Value := fun k => match (am_kd n).1 with
  | 0 => .int 0
  | 1 => .null
  | 2 => .null
  | 3 => .null
  | c + 4 => defaultValue (am_ty c k)
def am_new (g : Nat → Nat → Value) (n : Nat) : Nat → Nat → Value := fun a' k' => if a' = n then am_dv n k' else g a' k'
def am_cpy (g : Nat → Nat → Value) (a sp b dp n : Nat) : Nat → Nat → Value := fun a' k' => if a' = b ∧ dp ≤ k' ∧ k' < dp + n then g a (sp + (k' - dp)) else g a' k'
def am_iv (v : Option Value) (k : Int32 → Option am_C) : Option am_C := match v with
  | some (.int x) => k x
  | _ => none
def am_rv (v : Option Value) (k : Nat → Option am_C) : Option am_C := match v with
  | some (.ref x) => k x
  | _ => none
def am_1i (st : List Value) (k : Int32 → List Value → Option am_C) : Option am_C := match st with
  | .int x :: r => k x r
  | _ => none
def am_2i (st : List Value) (k : Int32 → Int32 → List Value → Option am_C) : Option am_C := match st with
  | .int y :: .int x :: r => k x y r
  | _ => none
def am_1r (st : List Value) (k : Nat → List Value → Option am_C) : Option am_C := match st with
  | .ref x :: r => k x r
  | _ => none
def am_2l (st : List Value) (k : Int64 → Int64 → List Value → Option am_C) : Option am_C := match st with
  | .long y :: .long x :: r => k x y r
  | _ => none
def am_tg (pc : Nat) (off : Int) (k : Nat → Option am_C) : Option am_C := if 0 ≤ (pc : Int) + off then k ((pc : Int) + off).toNat else none
def am_cm (c : Jvm.ClassFile.Cond) (x y : Int32) : Bool := match c with
  | .eq => decide (x = y)
  | .ne => decide (¬ x = y)
  | .lt => decide (x < y)
  | .ge => decide (y ≤ x)
  | .gt => decide (y < x)
  | .le => decide (x ≤ y)
def am_in (i : Int32) (n : Nat) : Bool := !(decide (i < 0) || decide (n ≤ i.toNatClampNeg))
/-- one instruction that neither calls nor returns; ini: we are in a constructor -/
def am_stp (own : Nat) (ini : Bool) (i : Instr) (pc : Nat) (al st : List Value) (hp : am_H) : Option am_C :=
  match i with
  | .iload_n k => am_iv al[(k : Nat)]? fun x => some (pc + 1, al, .int x :: st, hp)
  | .iload k => am_iv al[k]? fun x => some (pc + 2, al, .int x :: st, hp)
  | .aload_n k => am_rv al[(k : Nat)]? fun x => some (pc + 1, al, .ref x :: st, hp)
  | .aload k => am_rv al[k]? fun x => some (pc + 2, al, .ref x :: st, hp)
  | .istore_n k => am_1i st fun x r => if (k : Nat) < al.length then some (pc + 1, al.set k (.int x), r, hp) else none
  | .istore k => am_1i st fun x r => if k < al.length then some (pc + 2, al.set k (.int x), r, hp) else none
  | .astore_n k => am_1r st fun x r => if (k : Nat) < al.length then some (pc + 1, al.set k (.ref x), r, hp) else none
  | .astore k => am_1r st fun x r => if k < al.length then some (pc + 2, al.set k (.ref x), r, hp) else none
  | .iinc k n => am_iv al[k]? fun x => some (pc + 3, al.set k (.int (x + Int32.ofInt n)), st, hp)
  | .iconst n => some (pc + 1, al, .int (Int32.ofInt n) :: st, hp)
  | .bipush n => some (pc + 2, al, .int (Int8.ofInt n).toInt32 :: st, hp)
  | .sipush n => some (pc + 3, al, .int (Int16.ofInt n).toInt32 :: st, hp)
  | .ldc idx => match am_lkN own idx with
    | some v => some (pc + 2, al, .int (Int32.ofInt v) :: st, hp)
    | none => match am_lkS own idx with
      | some t => some (pc + 2, al, .ref (1000000 + t) :: st, hp)
      | none => none
  | .ldc_w idx => match am_lkN own idx with
    | some v => some (pc + 3, al, .int (Int32.ofInt v) :: st, hp)
    | none => match am_lkS own idx with
      | some t => some (pc + 3, al, .ref (1000000 + t) :: st, hp)
      | none => none
  | .dup => match st with
    | v :: r => if v.category = 1 then some (pc + 1, al, v :: v :: r, hp) else none
    | _ => none
  | .dup2 => match st with
    | v :: w :: r => if v.category = 1 ∧ w.category = 1 then some (pc + 1, al, v :: w :: v :: w :: r, hp) else none
    | _ => none
  | .pop => match st with
    | v :: r => if v.category = 1 then some (pc + 1, al, r, hp) else none
    | _ => none
  | .iadd => am_2i st fun x y r => some (pc + 1, al, .int (x + y) :: r, hp)
  | .isub => am_2i st fun x y r => some (pc + 1, al, .int (x - y) :: r, hp)
  | .imul => am_2i st fun x y r => some (pc + 1, al, .int (x * y) :: r, hp)
  | .idiv => am_2i st fun x y r => if y = 0 then none else some (pc + 1, al, .int (x / y) :: r, hp)
  | .irem => am_2i st fun x y r => if y = 0 then none else some (pc + 1, al, .int (x - x / y * y) :: r, hp)
  | .iand => am_2i st fun x y r => some (pc + 1, al, .int (x &&& y) :: r, hp)
  | .ior => am_2i st fun x y r => some (pc + 1, al, .int (x ||| y) :: r, hp)
  | .ixor => am_2i st fun x y r => some (pc + 1, al, .int (x ^^^ y) :: r, hp)
  | .ishl => am_2i st fun x y r => some (pc + 1, al, .int (x <<< (y &&& 31)) :: r, hp)
  | .ishr => am_2i st fun x y r => some (pc + 1, al, .int (x >>> (y &&& 31)) :: r, hp)
  | .iushr => am_2i st fun x y r => some (pc + 1, al, .int (x.toUInt32 >>> (y.toUInt32 &&& Int32.toUInt32 31)).toInt32 :: r, hp)
  | .i2b => am_1i st fun x r => some (pc + 1, al, .int x.toInt8.toInt32 :: r, hp)
  | .i2s => am_1i st fun x r => some (pc + 1, al, .int x.toInt16.toInt32 :: r, hp)
  | .i2l => am_1i st fun x r => some (pc + 1, al, .long x.toInt64 :: r, hp)
  | .ladd => am_2l st fun x y r => some (pc + 1, al, .long (x + y) :: r, hp)
  | .lcmp => am_2l st fun x y r => some (pc + 1, al, .int (lg_cmp x y) :: r, hp)
  | .goto off => am_tg pc off fun t => some (t, al, st, hp)
  | .if_icmp c off => am_2i st fun x y r => am_tg pc off fun t => if am_cm c x y = true then some (t, al, r, hp) else some (pc + 3, al, r, hp)
  | .ifCond c off => am_1i st fun x r => am_tg pc off fun t => if am_cm c x 0 = true then some (t, al, r, hp) else some (pc + 3, al, r, hp)
  | .tableswitch d lo hi offs => am_1i st fun x r => if x.toInt < lo ∨ hi < x.toInt then am_tg pc d fun t => some (t, al, r, hp) else match offs[(x.toInt - lo).toNat]? with
    | some off => am_tg pc off fun t => some (t, al, r, hp)
    | none => none
  | .lookupswitch d ps => am_1i st fun x r => if (ps.toList.zip (ps.toList.drop 1)).all (fun (a, next) => a.1 < next.1) = true then am_tg pc (Op.lookupswitch.offset ps.toList d x.toInt) fun t => some (t, al, r, hp) else none
  | .getfield idx => am_1r st fun a r => match am_lkF own idx with
    | some (c, k) => if a < hp.1 ∧ (am_kd a).1 = 4 + c then some (pc + 3, al, hp.2 a k :: r, hp) else none
    | none => none
  | .putfield idx => match st with
    | v :: .ref a :: r => match am_lkF own idx with
      | some (c, k) => if a < hp.1 ∧ (am_kd a).1 = 4 + c ∧ am_fit (am_ty c k) v = true ∧ ((am_T c k).2.2.2 = true → ini = true ∧ own = c) then some (pc + 3, al, r, (hp.1, am_up hp.2 a k v)) else none
      | none => none
    | _ => none
  | .iaload => match st with
    | .int i :: .ref a :: r => if a < hp.1 ∧ (am_kd a).1 = 0 ∧ am_in i (am_kd a).2 = true then (match hp.2 a i.toNatClampNeg with
      | .int x => some (pc + 1, al, .int x :: r, hp)
      | _ => none) else none
    | _ => none
  | .iastore => match st with
    | .int x :: .int i :: .ref a :: r => if a < hp.1 ∧ (am_kd a).1 = 0 ∧ am_in i (am_kd a).2 = true then some (pc + 1, al, r, (hp.1, am_up hp.2 a i.toNatClampNeg (.int x))) else none
    | _ => none
  | .aaload => match st with
    | .int i :: .ref a :: r => if a < hp.1 ∧ 1 ≤ (am_kd a).1 ∧ (am_kd a).1 ≤ 3 ∧ am_in i (am_kd a).2 = true then (match hp.2 a i.toNatClampNeg with
      | .ref x => some (pc + 1, al, .ref x :: r, hp)
      | _ => none) else none
    | _ => none
  | .aastore => match st with
    | .ref v :: .int i :: .ref a :: r => if a < hp.1 ∧ am_in i (am_kd a).2 = true ∧ (((am_kd a).1 = 1 ∧ v < hp.1 ∧ (am_kd v).1 = 9) ∨ ((am_kd a).1 = 2 ∧ v < hp.1 ∧ (am_kd v).1 = 8) ∨ ((am_kd a).1 = 3 ∧ 1000000 ≤ v ∧ v < 1000015)) then some (pc + 1, al, r, (hp.1, am_up hp.2 a i.toNatClampNeg (.ref v))) else none
    | _ => none
  | .arraylength => am_1r st fun a r => if a < hp.1 ∧ (am_kd a).1 ≤ 3 then some (pc + 1, al, .int (am_kd a).2.toInt32 :: r, hp) else none
  | .new idx => match am_lkL own idx with
    | some c => if (am_kd hp.1).1 = 4 + c ∧ c < 9 then some (pc + 3, al, .ref hp.1 :: st, (hp.1 + 1, am_new hp.2 hp.1)) else none
    | none => none
  | .newarray .int => am_1i st fun x r => if (am_kd hp.1).1 = 0 ∧ (am_kd hp.1).2.toInt32 = x then some (pc + 2, al, .ref hp.1 :: r, (hp.1 + 1, am_new hp.2 hp.1)) else none
  | .anewarray idx => am_1i st fun x r => match am_lkL own idx with
    | some c => if (am_kd hp.1).2.toInt32 = x ∧ ((c = 5 ∧ (am_kd hp.1).1 = 1) ∨ (c = 4 ∧ (am_kd hp.1).1 = 2) ∨ (c = 99 ∧ (am_kd hp.1).1 = 3)) then some (pc + 3, al, .ref hp.1 :: r, (hp.1 + 1, am_new hp.2 hp.1)) else none
    | none => none
  | .invokespecial idx => match am_lkX own idx with
    | some 0 => am_1r st fun _ r => if (r.map fun v => v.category).sum ≤ 8 then some (pc + 3, al, r, hp) else none
    | _ => none
  | .invokevirtual idx => match am_lkX own idx with
    | some 1 => am_1r st fun a r => if 1000000 ≤ a ∧ a < 1000015 ∧ (r.map fun v => v.category).sum ≤ 8 then some (pc + 3, al, .int (nI (am_by.getD (a - 1000000) []).length) :: r, hp) else none
    | some 2 => (match st with
      | .int i :: .ref a :: r => if 1000000 ≤ a ∧ a < 1000015 ∧ am_in i (am_by.getD (a - 1000000) []).length = true ∧ (r.map fun v => v.category).sum ≤ 8 then some (pc + 3, al, .int (nI ((am_by.getD (a - 1000000) []).getD i.toNatClampNeg 0)) :: r, hp) else none
      | _ => none)
    | _ => none
  | .invokestatic idx => match am_lkX own idx with
    | some 3 => (match st with
      | .int n :: .int dp :: .ref b :: .int sp :: .ref a :: r => if a < hp.1 ∧ b < hp.1 ∧ (am_kd a).1 = 0 ∧ (am_kd b).1 = 0 ∧ ¬ sp < 0 ∧ ¬ dp < 0 ∧ ¬ n < 0 ∧ sp.toNatClampNeg + n.toNatClampNeg ≤ (am_kd a).2 ∧ dp.toNatClampNeg + n.toNatClampNeg ≤ (am_kd b).2 ∧ (r.map fun v => v.category).sum ≤ 8 then some (pc + 3, al, r, (hp.1, am_cpy hp.2 a sp.toNatClampNeg b dp.toNatClampNeg n.toNatClampNeg)) else none
      | _ => none)
    | _ => none
  | _ => none
/-- a call of a method of the tables: the method, its arguments (the receiver first), what stays on the stack -/
def am_inv (own : Nat) (i : Instr) (st : List Value) (hp : am_H) : Option (am_MI × List Value × List Value) :=
  match i with
  | .invokestatic idx => match am_lkM own idx with
    | some (y, n, md) => if (md = 1 ∨ md = 4) ∧ n ≤ st.length ∧ ((st.drop n).map fun v => v.category).sum ≤ 8 then some (y, (st.take n).reverse, st.drop n) else none
    | none => none
  | .invokevirtual idx => match am_lkM own idx with
    | some (y, n, md) => (match st.drop n with
      | .ref b :: rest => if md = 0 ∧ y.1 < 9 ∧ b < hp.1 ∧ (am_kd b).1 = 4 + y.1 ∧ (rest.map fun v => v.category).sum ≤ 8 then some (y, .ref b :: (st.take n).reverse, rest) else none
      | _ => none)
    | none => none
  | .invokespecial idx => match am_lkM own idx with
    | some (y, n, md) => (match st.drop n with
      | .ref b :: rest => if (md = 2 ∨ md = 5) ∧ y.1 < 9 ∧ b < hp.1 ∧ (am_kd b).1 = 4 + y.1 ∧ (rest.map fun v => v.category).sum ≤ 8 then some (y, .ref b :: (st.take n).reverse, rest) else none
      | _ => none)
    | none => none
  | _ => none
/-- a return: what is handed back -/
def am_fin (rt : Option FieldType) (i : Instr) (st : List Value) : Option (Option Value) :=
  match i with
  | .ireturn => match st with
    | [.int x] => (match rt with
      | some .int => some (some (.int x))
      | some .boolean => if x = 0 ∨ x = 1 then some (some (.int x)) else none
      | _ => none)
    | _ => none
  | .areturn => match st with
    | [.ref a] => (match rt with
      | some (.object _) => some (some (.ref a))
      | _ => none)
    | _ => none
  | .return_ => match st, rt with
    | [], none => some none
    | _, _ => none
  | _ => none
/-- the lengths that the rows ask -/
def am_ok (i : Instr) (len : Nat) : Bool := match i with
  | .iload _ | .aload _ | .istore _ | .astore _ | .bipush _ | .ldc _ | .newarray _ => len == 2
  | .iinc _ _ | .sipush _ | .ldc_w _ | .goto _ | .if_icmp _ _ | .ifCond _ _ | .getfield _ | .putfield _ | .new _ | .anewarray _ | .invokestatic _ | .invokevirtual _ | .invokespecial _ => len == 3
  | .tableswitch _ _ _ _ | .lookupswitch _ _ => true
  | _ => len == 1
def am_run : Nat → am_E → am_MI → Nat → List Value → List Value → am_H → Option (Option Value × am_H)
  | 0, _, _, _, _, _, _ => none
  | n + 1, E, y, pc, al, st, hp => match decode y.2.2.1 pc with
    | .error _ => none
    | .ok (i, len) => if am_ok i len = false then none else match am_fin y.2.2.2.2 i st with
      | some r => some (r, hp)
      | none => match am_inv y.1 i st hp with
        | some (y', as, rest) => match E y' as hp with
          | some (r, hp') => am_run n E y (pc + 3) al (r.toList ++ rest) hp'
          | none => none
        | none => match am_stp y.1 (y.2.1.name == "<init>") i pc al st hp with
          | some (pc', al', st', hp') => am_run n E y pc' al' st' hp'
          | none => none
/-- a method, by fuel f for each frame and depth d of the calls -/
def am_ex (f : Nat) : Nat → am_E
  | 0 => fun _ _ _ => none
  | d + 1 => fun y as hp => if as.length ≤ y.2.2.2.1 ∧ (∀ v ∈ as, v.category = 1) then am_run f (am_ex f d) y 0 (as ++ List.replicate (y.2.2.2.1 - as.length) .null) [] hp else none
