/-! the interpreter -/
/-- compare -/
def db_cp (c : ClassFile.Cond) (x y : Int32) : Bool := match c with
  | .eq => decide (x = y)
  | .ne => decide (¬ x = y)
  | .lt => decide (x < y)
  | .ge => decide (y ≤ x)
  | .gt => decide (y < x)
  | .le => decide (x ≤ y)
/-- may a field or an array element of this kind hold the value (0 int, 1 boolean, 2 reference) -/
def db_ft (kd : Nat) (v : Value) : Bool := match v with
  | .int x => kd == 0 || (kd == 1 && (decide (x = 0) || decide (x = 1)))
  | .ref _ => kd == 2
  | .null => kd == 2
  | _ => false
def db_nx (pc : Nat) (L S : List Value) (h : db_H) : Option db_R := some (.inl (pc, L, S, h))
def db_ldi (v : Option Value) (pc : Nat) (L S : List Value) (h : db_H) : Option db_R := match v with
  | some (.int x) => db_nx pc L (.int x :: S) h
  | _ => none
def db_lda (v : Option Value) (pc : Nat) (L S : List Value) (h : db_H) : Option db_R := match v with
  | some (.ref x) => db_nx pc L (.ref x :: S) h
  | some .null => db_nx pc L (.null :: S) h
  | _ => none
def db_sti (i pc : Nat) (L S : List Value) (h : db_H) : Option db_R := match S with
  | .int x :: S => if i < L.length then db_nx pc (L.set i (.int x)) S h else none
  | _ => none
def db_sta (i pc : Nat) (L S : List Value) (h : db_H) : Option db_R := match S with
  | .ref x :: S => if i < L.length then db_nx pc (L.set i (.ref x)) S h else none
  | .null :: S => if i < L.length then db_nx pc (L.set i .null) S h else none
  | _ => none
def db_bin (f : Int32 → Int32 → Int32) (pc : Nat) (L S : List Value) (h : db_H) : Option db_R := match S with
  | .int y :: .int x :: S => db_nx (pc + 1) L (.int (f x y) :: S) h
  | _ => none
def db_dv (f : Int32 → Int32 → Int32) (pc : Nat) (L S : List Value) (h : db_H) : Option db_R := match S with
  | .int y :: .int x :: S => if y = 0 then none else db_nx (pc + 1) L (.int (f x y) :: S) h
  | _ => none
def db_c1 (v : Value) : Bool := match v with
  | .int _ => true
  | .ref _ => true
  | .null => true
  | _ => false
/-- a switch by steps: the targets of lo, lo + 1, .. -/
def db_tsw (x : Int32) : Int → List Nat → Nat → Nat
  | _, [], d => d
  | lo, t :: ts, d => if x = Int32.ofInt lo then t else db_tsw x (lo + 1) ts d
def db_lsw (x : Int32) : List (Int × Int) → List Nat → Nat → Nat
  | (k, _) :: ks, t :: ts, d => if x = Int32.ofInt k then t else db_lsw x ks ts d
  | _, _, d => d
/-- an index is in -/
def db_in (i : Int32) (n : Nat) : Bool := !(decide (i < 0) || decide (n ≤ i.toNatClampNeg))
def db_get (ai : db_I) (pc : Nat) (L S : List Value) (h : db_H) : Option db_R := match S with
  | .ref k :: S => if k < db_n then none else match h[k]? with
    | some (.inr (c, fs)) => if c = ai.2.2.getD 0 0 then (match fs[ai.2.2.getD 1 0]? with
        | some v => if db_c1 v then db_nx (pc + 3) L (v :: S) h else none
        | none => none) else none
    | _ => none
  | _ => none
def db_put (ai : db_I) (pc : Nat) (L S : List Value) (h : db_H) : Option db_R := match S with
  | v :: .ref k :: S => if k < db_n then none else match h[k]? with
    | some (.inr (c, fs)) => if c = ai.2.2.getD 0 0 ∧ ai.2.2.getD 1 0 < fs.length ∧ db_ft (ai.2.2.getD 2 0) v = true then db_nx (pc + 3) L S (h.set k (.inr (c, fs.set (ai.2.2.getD 1 0) v))) else none
    | _ => none
  | _ => none
def db_ald (t pc : Nat) (L S : List Value) (h : db_H) : Option db_R := match S with
  | .int i :: .ref k :: S => match h[k]? with
    | some (.inl (u, l)) => if u = t ∧ db_in i l.length = true then db_nx (pc + 1) L (.int (l.getD i.toNatClampNeg 0) :: S) h else none
    | _ => none
  | _ => none
def db_ast (t pc : Nat) (L S : List Value) (h : db_H) : Option db_R := match S with
  | .int x :: .int i :: .ref k :: S => if k < db_n then none else match h[k]? with
    | some (.inl (u, l)) => if u = t ∧ db_in i l.length = true ∧ db_ft t (.int x) = true then db_nx (pc + 1) L S (h.set k (.inl (u, l.set i.toNatClampNeg x))) else none
    | _ => none
  | _ => none
def db_new (t pc : Nat) (L S : List Value) (h : db_H) : Option db_R := match S with
  | .int n :: S => if n < 0 ∨ 100000 < n.toNatClampNeg then none else db_nx (pc + 2) L (.ref h.length :: S) (h ++ [.inl (t, List.replicate n.toNatClampNeg 0)])
  | _ => none
/-- copy n of f's from sp on to g's from dp on -/
def db_cpy (f g : List Int32) (sp dp n : Nat) : List Int32 := g.take dp ++ (f.drop sp).take n ++ g.drop (dp + n)
def db_acp (pc : Nat) (L S : List Value) (h : db_H) : Option db_R := match S with
  | .int n :: .int dp :: .ref b :: .int sp :: .ref a :: S => if b < db_n ∨ a < db_n ∨ 8 < S.length then none else match h[a]?, h[b]? with
    | some (.inl (u, f)), some (.inl (w, g)) => if u = 0 ∧ w = 0 ∧ ¬ sp < 0 ∧ ¬ dp < 0 ∧ ¬ n < 0 ∧ sp.toNatClampNeg + n.toNatClampNeg ≤ f.length ∧ dp.toNatClampNeg + n.toNatClampNeg ≤ g.length then db_nx (pc + 3) L S (h.set b (.inl (0, db_cpy f g sp.toNatClampNeg dp.toNatClampNeg n.toNatClampNeg))) else none
    | _, _ => none
  | _ => none
/-- calls: [kind, callee, how many arguments with the receiver, receiver's class]; kinds: 0 of ours, 1 max, 2 min, 3 arraycopy, 4 Object's constructor -/
def db_inv (vt : Bool) (ai : db_I) (pc : Nat) (L S : List Value) (h : db_H) : Option db_R :=
  match ai.2.2 with
  | 0 :: y :: n :: rc :: _ => if n ≤ S.length ∧ S.length ≤ n + 8 ∧ (S.take n).all db_c1 = true then
      (if vt then (match (S.take n).reverse with
        | .ref k :: _ => if k < db_n then none else (match h[k]? with
          | some (.inr (c, _)) => if c = rc then some (.inr (.inl (y, (S.take n).reverse, S.drop n, pc + 3))) else none
          | _ => none)
        | _ => none) else some (.inr (.inl (y, (S.take n).reverse, S.drop n, pc + 3)))) else none
  | 1 :: _ => match S with
    | .int y :: .int x :: S => if 8 < S.length then none else db_nx (pc + 3) L (.int (if x < y then y else x) :: S) h
    | _ => none
  | 2 :: _ => match S with
    | .int y :: .int x :: S => if 8 < S.length then none else db_nx (pc + 3) L (.int (if y < x then y else x) :: S) h
    | _ => none
  | 3 :: _ => db_acp pc L S h
  | 4 :: _ => match S with
    | .ref _ :: S => if 8 < S.length then none else db_nx (pc + 3) L S h
    | _ => none
  | _ => none
/-- new objects' fields by the class: its kinds -/
def db_df (kd : List Nat) : List Value := kd.map (fun k => if k = 2 then .null else .int 0)
def db_inc (i : Nat) (n : Int) (pc : Nat) (L S : List Value) (h : db_H) : Option db_R := match L[i]? with
  | some (.int x) => db_nx (pc + 3) (L.set i (.int (x + Int32.ofInt n))) S h
  | _ => none
def db_neg (pc : Nat) (L S : List Value) (h : db_H) : Option db_R := match S with
  | .int x :: S => db_nx (pc + 1) L (.int (-x) :: S) h
  | _ => none
def db_dup (pc : Nat) (L S : List Value) (h : db_H) : Option db_R := match S with
  | [] => none
  | v :: S => if db_c1 v then db_nx (pc + 1) L (v :: v :: S) h else none
def db_pop (pc : Nat) (L S : List Value) (h : db_H) : Option db_R := match S with
  | [] => none
  | v :: S => if db_c1 v then db_nx (pc + 1) L S h else none
def db_dp2 (pc : Nat) (L S : List Value) (h : db_H) : Option db_R := match S with
  | v :: w :: S => if db_c1 v && db_c1 w then db_nx (pc + 1) L (v :: w :: v :: w :: S) h else none
  | _ => none
def db_if1 (c : ClassFile.Cond) (a : List Nat) (pc : Nat) (L S : List Value) (h : db_H) : Option db_R := match S with
  | .int x :: S => if db_cp c x 0 = true then db_nx (a.getD 0 0) L S h else db_nx (pc + 3) L S h
  | _ => none
def db_if2 (c : ClassFile.Cond) (a : List Nat) (pc : Nat) (L S : List Value) (h : db_H) : Option db_R := match S with
  | .int y :: .int x :: S => if db_cp c x y = true then db_nx (a.getD 0 0) L S h else db_nx (pc + 3) L S h
  | _ => none
def db_nul (a : List Nat) (pc : Nat) (L S : List Value) (h : db_H) : Option db_R := match S with
  | .null :: S => db_nx (a.getD 0 0) L S h
  | .ref _ :: S => db_nx (pc + 3) L S h
  | _ => none
def db_nnl (a : List Nat) (pc : Nat) (L S : List Value) (h : db_H) : Option db_R := match S with
  | .ref _ :: S => db_nx (a.getD 0 0) L S h
  | .null :: S => db_nx (pc + 3) L S h
  | _ => none
def db_tbs (lo : Int) (a : List Nat) (L S : List Value) (h : db_H) : Option db_R := match S with
  | .int x :: S => db_nx (db_tsw x lo (a.drop 1) (a.getD 0 0)) L S h
  | _ => none
def db_lks (ps : List (Int × Int)) (a : List Nat) (L S : List Value) (h : db_H) : Option db_R := match S with
  | .int x :: S => db_nx (db_lsw x ps (a.drop 1) (a.getD 0 0)) L S h
  | _ => none
def db_aln (pc : Nat) (L S : List Value) (h : db_H) : Option db_R := match S with
  | .ref k :: S => (match h[k]? with
    | some (.inl (_, l)) => db_nx (pc + 1) L (.int (Int32.ofNat l.length) :: S) h
    | _ => none)
  | _ => none
def db_nwa (t : ArrayType) (pc : Nat) (L S : List Value) (h : db_H) : Option db_R := match t with
  | .int => db_new 0 pc L S h
  | .boolean => db_new 1 pc L S h
  | _ => none
def db_irt (a : List Nat) (S : List Value) : Option db_R := match S with
  | [.int v] => if db_ft (a.getD 0 0) (.int v) then some (.inr (.inr (some (.int v)))) else none
  | _ => none
def db_art (S : List Value) : Option db_R := match S with
  | [.ref k] => some (.inr (.inr (some (.ref k))))
  | [.null] => some (.inr (.inr (some .null)))
  | _ => none
def db_vrt (S : List Value) : Option db_R := match S with
  | [] => some (.inr (.inr none))
  | _ => none
def db_stp (ai : db_I) (pc : Nat) (L S : List Value) (h : db_H) : Option db_R :=
  match ai.1 with
  | .iconst n => db_nx (pc + 1) L (.int (Int32.ofInt n) :: S) h
  | .bipush n => db_nx (pc + 2) L (.int (Int8.ofInt n).toInt32 :: S) h
  | .sipush n => db_nx (pc + 3) L (.int (Int16.ofInt n).toInt32 :: S) h
  | .ldc _ => db_nx (pc + 2) L (.int (Int32.ofNat (ai.2.2.getD 0 0)) :: S) h
  | .ldc_w _ => db_nx (pc + 3) L (.int (Int32.ofNat (ai.2.2.getD 0 0)) :: S) h
  | .aconst_null => db_nx (pc + 1) L (.null :: S) h
  | .iload_n k => db_ldi L[k.val]? (pc + 1) L S h
  | .iload i => db_ldi L[i]? (pc + 2) L S h
  | .aload_n k => db_lda L[k.val]? (pc + 1) L S h
  | .aload i => db_lda L[i]? (pc + 2) L S h
  | .istore_n k => db_sti k.val (pc + 1) L S h
  | .istore i => db_sti i (pc + 2) L S h
  | .astore_n k => db_sta k.val (pc + 1) L S h
  | .astore i => db_sta i (pc + 2) L S h
  | .iinc i n => db_inc i n pc L S h
  | .iadd => db_bin (fun x y => x + y) pc L S h
  | .isub => db_bin (fun x y => x - y) pc L S h
  | .imul => db_bin (fun x y => x * y) pc L S h
  | .iand => db_bin (fun x y => x &&& y) pc L S h
  | .ior => db_bin (fun x y => x ||| y) pc L S h
  | .ixor => db_bin (fun x y => x ^^^ y) pc L S h
  | .ishl => db_bin (fun x y => x <<< (y &&& 31)) pc L S h
  | .ishr => db_bin (fun x y => x >>> (y &&& 31)) pc L S h
  | .iushr => db_bin (fun x y => (x.toUInt32 >>> (y.toUInt32 &&& Int32.toUInt32 31)).toInt32) pc L S h
  | .idiv => db_dv (fun x y => x / y) pc L S h
  | .irem => db_dv (fun x y => x - x / y * y) pc L S h
  | .ineg => db_neg pc L S h
  | .dup => db_dup pc L S h
  | .pop => db_pop pc L S h
  | .dup2 => db_dp2 pc L S h
  | .ifCond c _ => db_if1 c ai.2.2 pc L S h
  | .if_icmp c _ => db_if2 c ai.2.2 pc L S h
  | .ifnull _ => db_nul ai.2.2 pc L S h
  | .ifnonnull _ => db_nnl ai.2.2 pc L S h
  | .goto _ => db_nx (ai.2.2.getD 0 0) L S h
  | .tableswitch _ lo _ _ => db_tbs lo ai.2.2 L S h
  | .lookupswitch _ ps => db_lks ps.toList ai.2.2 L S h
  | .getfield _ => db_get ai pc L S h
  | .putfield _ => db_put ai pc L S h
  | .getstatic _ => db_nx (pc + 3) L (.ref (ai.2.2.getD 0 0) :: S) h
  | .arraylength => db_aln pc L S h
  | .iaload => db_ald 0 pc L S h
  | .iastore => db_ast 0 pc L S h
  | .baload => db_ald 1 pc L S h
  | .bastore => db_ast 1 pc L S h
  | .newarray t => db_nwa t pc L S h
  | .new _ => db_nx (pc + 3) L (.ref h.length :: S) (h ++ [.inr (ai.2.2.getD 0 0, db_df (ai.2.2.drop 2))])
  | .invokevirtual _ => db_inv true ai pc L S h
  | .invokespecial _ => db_inv true ai pc L S h
  | .invokestatic _ => db_inv false ai pc L S h
  | .ireturn => db_irt ai.2.2 S
  | .areturn => db_art S
  | .return_ => db_vrt S
  | _ => none
/-- the locals at a method's start -/
def db_ent (n : Nat) (args : List Value) : List Value := args ++ List.replicate (n - args.length) (.retAddr 0)
/-- the run: lk gives the instruction of a method at a place, ml its number of locals -/
def db_run (lk : Nat → Nat → Option db_I) (ml : Nat → Nat) : Nat → Nat → Nat → List Value → List Value → db_H → Option (Option Value × db_H)
  | 0, _, _, _, _, _ => none
  | f + 1, y, pc, L, S, h => match lk y pc with
    | none => none
    | some ai => match db_stp ai pc L S h with
      | none => none
      | some (.inl (pc', L', S', h')) => db_run lk ml f y pc' L' S' h'
      | some (.inr (.inl (z, as, S', pc'))) => match (if as.length ≤ ml z then db_run lk ml f z 0 (db_ent (ml z) as) [] h else none) with
        | none => none
        | some (v, h') => db_run lk ml f y pc' L (v.toList ++ S') h'
      | some (.inr (.inr v)) => some (v, h)
/-- the sum of the cells' sizes -/
def db_cz (c : db_C) : Nat := match c with
  | .inl a => a.2.length
  | .inr o => o.2.length
def db_sz (h : db_H) : Nat := (h.map db_cz).sum
