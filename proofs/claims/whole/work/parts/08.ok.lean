/-! every decoded row is what the bytes say, and the words that it needs stand in the tables: checked by computation -/
def db_kt (ty : FieldType) : Nat := match ty with
  | .int => 0
  | .boolean => 1
  | .array _ => 2
  | .object _ => 2
  | _ => 9
def db_ln : Instr → Nat
  | .bipush _ => 2
  | .iload _ => 2
  | .aload _ => 2
  | .istore _ => 2
  | .astore _ => 2
  | .ldc _ => 2
  | .newarray _ => 2
  | .sipush _ => 3
  | .ldc_w _ => 3
  | .iinc _ _ => 3
  | .ifCond _ _ => 3
  | .if_icmp _ _ => 3
  | .ifnull _ => 3
  | .ifnonnull _ => 3
  | .goto _ => 3
  | .getfield _ => 3
  | .putfield _ => 3
  | .getstatic _ => 3
  | .invokevirtual _ => 3
  | .invokespecial _ => 3
  | .invokestatic _ => 3
  | .new _ => 3
  | _ => 1
/-- a field: [class, place, kind, word, nest] -/
def db_okf (y i : Nat) (a : List Nat) : Bool := match db_cl[a.getD 0 0]? with
  | some (_, T, N) => decide (a.getD 1 0 < N) && (if a.getD 4 0 = 0 then decide (lw_tbl[a.getD 3 0]? = some (.fieldLink (db_ow y) i (T (a.getD 1 0)).1 (T (a.getD 1 0)).2.1 (T (a.getD 1 0)).2.2.1)) else decide (lw_tbl[a.getD 3 0]? = some (.fieldLinkNest (db_ow y) i (T (a.getD 1 0)).1 (T (a.getD 1 0)).2.1 (T (a.getD 1 0)).2.2.1 "DeflateBlocks")))
  | none => false
def db_okp (y : Nat) (a : List Nat) : Bool := match db_cl[a.getD 0 0]? with
  | some (_, T, _) => (match parseFieldDescriptor (T (a.getD 1 0)).2.2.1 with
    | some ty => decide (db_kt ty = a.getD 2 0)
    | none => false) && (if (T (a.getD 1 0)).2.2.2 = true then decide (a.getD 4 0 = 0) && decide ((db_my y).name = "<init>") && decide ((T (a.getD 1 0)).1 = db_ow y) else true)
  | none => false
def db_oks (y i : Nat) (a : List Nat) : Bool := match db_sf[a.getD 0 0]? with
  | some z => decide (a.getD 0 0 < db_n) && (if a.getD 2 0 = 0 then decide (lw_tbl[a.getD 1 0]? = some (.fieldLink (db_ow y) i z.1 z.2.1 z.2.2)) else decide (lw_tbl[a.getD 1 0]? = some (.fieldLinkNest (db_ow y) i z.1 z.2.1 z.2.2 "DeflateBlocks")))
  | none => false
def db_okn (y i : Nat) (a : List Nat) : Bool := match db_cl[a.getD 0 0]? with
  | some (C, T, N) => decide (lw_tbl[a.getD 1 0]? = some (.classLink (db_ow y) i C)) && decide (a.drop 2 = (List.range N).map (fun k => (parseFieldDescriptor (T k).2.2.1).elim 9 db_kt))
  | none => false
/-- a call: kd 0 virtual, 1 special, 2 static -/
def db_okc (kd y i : Nat) (a : List Nat) : Bool := match a with
  | 0 :: z :: n :: rc :: w :: ns :: _ => (match db_mw[z]? with
    | some (_, st, _, wse, _, np) => decide (1 ≤ z) && decide (db_dp z + 1 ≤ db_dp y) && decide (8 + (db_ml z + 11) + db_lo z ≤ db_lo y) &&
      (if ns = 0 then decide (lw_tbl[w]? = some (.methodLink (db_ow y) i (db_my z))) else decide (lw_tbl[w]? = some (.methodLinkNest (db_ow y) i (db_my z) "DeflateBlocks"))) &&
      (match kd with
        | 0 => decide (ns = 0) && decide (st = 0) && decide (n = np + 1) && decide (lw_tbl[wse]? = some (.selects (db_ow z) (db_my z) (db_my z))) && (match db_cl[rc]? with
          | some q => decide (q.1 = db_ow z)
          | none => false)
        | 1 => decide (st = 0) && decide (n = np + 1) && decide ((db_my z).name = "<init>") && decide (db_rt z = none)
        | _ => decide (st = 1) && decide (n = np))
    | none => false)
  | 1 :: w :: _ => decide (kd = 2) && decide (lw_tbl[w]? = some (.methodLink (db_ow y) i Lib.Math.max.name)) && decide (1 ≤ db_dp y) && decide (21 ≤ db_lo y)
  | 2 :: w :: _ => decide (kd = 2) && decide (lw_tbl[w]? = some (.methodLink (db_ow y) i Lib.Math.min.name)) && decide (1 ≤ db_dp y) && decide (21 ≤ db_lo y)
  | 3 :: w :: _ => decide (kd = 2) && decide (lw_tbl[w]? = some (.methodLink (db_ow y) i arraycopyName)) && decide (1 ≤ db_dp y) && decide (26 ≤ db_lo y)
  | 4 :: w :: _ => decide (kd = 1) && decide (lw_tbl[w]? = some (.methodLink (db_ow y) i Lib.objectInit)) && decide (1 ≤ db_dp y) && decide (20 ≤ db_lo y)
  | _ => false
def db_okw (y pc : Nat) (ai : db_I) : Bool := match ai.1 with
  | .ldc i => decide (lw_tbl[ai.2.2.getD 1 0]? = some (.constant (db_ow y) i (Int32.ofNat (ai.2.2.getD 0 0))))
  | .ldc_w i => decide (lw_tbl[ai.2.2.getD 1 0]? = some (.constant (db_ow y) i (Int32.ofNat (ai.2.2.getD 0 0))))
  | .ifCond _ o => decide ((pc : Int) + o = ((ai.2.2.getD 0 0 : Nat) : Int))
  | .if_icmp _ o => decide ((pc : Int) + o = ((ai.2.2.getD 0 0 : Nat) : Int))
  | .ifnull o => decide ((pc : Int) + o = ((ai.2.2.getD 0 0 : Nat) : Int))
  | .ifnonnull o => decide ((pc : Int) + o = ((ai.2.2.getD 0 0 : Nat) : Int))
  | .goto o => decide ((pc : Int) + o = ((ai.2.2.getD 0 0 : Nat) : Int))
  | .getfield i => db_okf y i ai.2.2
  | .putfield i => db_okf y i ai.2.2 && db_okp y ai.2.2
  | .getstatic i => db_oks y i ai.2.2
  | .new i => db_okn y i ai.2.2
  | .invokevirtual i => db_okc 0 y i ai.2.2
  | .invokespecial i => db_okc 1 y i ai.2.2
  | .invokestatic i => db_okc 2 y i ai.2.2
  | .ireturn => decide (db_rt y = some .int ∧ ai.2.2.getD 0 0 = 0) || decide (db_rt y = some .boolean ∧ ai.2.2.getD 0 0 = 1)
  | .areturn => (match db_rt y with
    | some (.object _) => true
    | some (.array _) => true
    | _ => false)
  | .return_ => decide (db_rt y = none)
  | _ => true
def db_okx (y pc : Nat) (ai : db_I) : Bool := match ai.1 with
  | .tableswitch d lo hi offs => decide ((pc : Int) + d = ((ai.2.2.getD 0 0 : Nat) : Int)) && decide (offs.toList.map (fun o => (pc : Int) + o) = (ai.2.2.drop 1).map (fun t : Nat => (t : Int))) && decide (lo = 0 ∨ lo = 16) && decide (hi = lo + ((ai.2.2.drop 1).length : Int) - 1) && decide ((ai.2.2.drop 1).length ≤ 100)
  | .lookupswitch d ps => decide ((pc : Int) + d = ((ai.2.2.getD 0 0 : Nat) : Int)) && decide (ps.toList = [(0, (ai.2.2.getD 1 0 : Int) - pc), (1, (ai.2.2.getD 2 0 : Int) - pc)]) && decide (ai.2.2.length = 3)
  | i => decide (ai.2.1 = db_ln i) && db_okw y pc ai
def db_ok (y pc : Nat) (ai : db_I) : Bool := decide (decode (db_by y) pc = .ok (ai.1, ai.2.1)) && db_okx y pc ai
/-- of a method: its words -/
def db_mk (y : Nat) : Bool := match db_mw[y]? with
  | some (wc, st, wi, _, win, np) => decide (lw_tbl[wc]? = some (.code (db_my y) (db_by y) (db_ml y) (db_rt y))) && (if st = 0 then decide (lw_tbl[wi]? = some (.instanceMethod (db_my y))) else decide (lw_tbl[wi]? = some (.static (db_my y)))) && decide (lw_tbl[win]? = some (.initialized (db_ow y))) &&
    plainName (db_ow y) && decide (db_ow y ≠ "java/lang/invoke/MethodHandle") && decide (db_ow y ≠ "java/lang/invoke/VarHandle") && decide ((parseMethodDescriptor (db_my y).desc).map (fun d => d.parameters.length) = some np)
  | none => false
theorem db_lookup_mem {l : List (Nat × db_I)} {pc : Nat} {ai : db_I} (h : l.lookup pc = some ai) : (pc, ai) ∈ l := by
  induction l with
  | nil => simp at h
  | cons q t ih =>
    obtain ⟨k, v⟩ := q
    rw [List.lookup_cons] at h
    by_cases e : pc = k
    · subst e
      simp at h
      subst h
      exact List.mem_cons_self
    · have e2 : (pc == k) = false := by simpa using e
      simp [e2] at h
      exact List.mem_cons_of_mem _ (ih h)
def db_okr (a n : Nat) : Bool := (List.range' a n).all (fun y => (db_cd.getD y []).all (fun e => db_ok y e.1 e.2))
theorem db_okr_0 : db_okr 0 8 = true := by decide +kernel
theorem db_okr_8 : db_okr 8 8 = true := by decide +kernel
theorem db_okr_16 : db_okr 16 8 = true := by decide +kernel
theorem db_okr_24 : db_okr 24 8 = true := by decide +kernel
theorem db_okr_32 : db_okr 32 8 = true := by decide +kernel
theorem db_okr_40 : db_okr 40 8 = true := by decide +kernel
theorem db_okr_48 : db_okr 48 8 = true := by decide +kernel
theorem db_okr_56 : db_okr 56 8 = true := by decide +kernel
theorem db_okr_64 : db_okr 64 8 = true := by decide +kernel
theorem db_okr_72 : db_okr 72 8 = true := by decide +kernel
theorem db_okr_80 : db_okr 80 8 = true := by decide +kernel
theorem db_okr_88 : db_okr 88 8 = true := by decide +kernel
theorem db_okr_96 : db_okr 96 8 = true := by decide +kernel
theorem db_okr_104 : db_okr 104 8 = true := by decide +kernel
theorem db_okr_112 : db_okr 112 8 = true := by decide +kernel
theorem db_okr_120 : db_okr 120 8 = true := by decide +kernel
theorem db_okr_128 : db_okr 128 8 = true := by decide +kernel
theorem db_okr_136 : db_okr 136 8 = true := by decide +kernel
theorem db_okr_144 : db_okr 144 8 = true := by decide +kernel
theorem db_okr_152 : db_okr 152 8 = true := by decide +kernel
theorem db_okr_160 : db_okr 160 8 = true := by decide +kernel
theorem db_okr_168 : db_okr 168 8 = true := by decide +kernel
theorem db_okr_at {a n y : Nat} (h : db_okr a n = true) (h1 : a ≤ y) (h2 : y < a + n) : (db_cd.getD y []).all (fun e => db_ok y e.1 e.2) = true :=
  List.all_eq_true.mp h y (List.mem_range'_1.mpr ⟨h1, h2⟩)
theorem db_cd_len : db_cd.length = 176 := by decide +kernel
theorem db_ok_all {y pc : Nat} {ai : db_I} (h : db_lk y pc = some ai) : db_ok y pc ai = true := by
  have hm := db_lookup_mem h
  have key : (db_cd.getD y []).all (fun e => db_ok y e.1 e.2) = true := by
    rcases Nat.lt_or_ge y 8 with c | c0
    · exact db_okr_at db_okr_0 (by omega) (by omega)
    rcases Nat.lt_or_ge y 16 with c | c1
    · exact db_okr_at db_okr_8 (by omega) (by omega)
    rcases Nat.lt_or_ge y 24 with c | c2
    · exact db_okr_at db_okr_16 (by omega) (by omega)
    rcases Nat.lt_or_ge y 32 with c | c3
    · exact db_okr_at db_okr_24 (by omega) (by omega)
    rcases Nat.lt_or_ge y 40 with c | c4
    · exact db_okr_at db_okr_32 (by omega) (by omega)
    rcases Nat.lt_or_ge y 48 with c | c5
    · exact db_okr_at db_okr_40 (by omega) (by omega)
    rcases Nat.lt_or_ge y 56 with c | c6
    · exact db_okr_at db_okr_48 (by omega) (by omega)
    rcases Nat.lt_or_ge y 64 with c | c7
    · exact db_okr_at db_okr_56 (by omega) (by omega)
    rcases Nat.lt_or_ge y 72 with c | c8
    · exact db_okr_at db_okr_64 (by omega) (by omega)
    rcases Nat.lt_or_ge y 80 with c | c9
    · exact db_okr_at db_okr_72 (by omega) (by omega)
    rcases Nat.lt_or_ge y 88 with c | c10
    · exact db_okr_at db_okr_80 (by omega) (by omega)
    rcases Nat.lt_or_ge y 96 with c | c11
    · exact db_okr_at db_okr_88 (by omega) (by omega)
    rcases Nat.lt_or_ge y 104 with c | c12
    · exact db_okr_at db_okr_96 (by omega) (by omega)
    rcases Nat.lt_or_ge y 112 with c | c13
    · exact db_okr_at db_okr_104 (by omega) (by omega)
    rcases Nat.lt_or_ge y 120 with c | c14
    · exact db_okr_at db_okr_112 (by omega) (by omega)
    rcases Nat.lt_or_ge y 128 with c | c15
    · exact db_okr_at db_okr_120 (by omega) (by omega)
    rcases Nat.lt_or_ge y 136 with c | c16
    · exact db_okr_at db_okr_128 (by omega) (by omega)
    rcases Nat.lt_or_ge y 144 with c | c17
    · exact db_okr_at db_okr_136 (by omega) (by omega)
    rcases Nat.lt_or_ge y 152 with c | c18
    · exact db_okr_at db_okr_144 (by omega) (by omega)
    rcases Nat.lt_or_ge y 160 with c | c19
    · exact db_okr_at db_okr_152 (by omega) (by omega)
    rcases Nat.lt_or_ge y 168 with c | c20
    · exact db_okr_at db_okr_160 (by omega) (by omega)
    rcases Nat.lt_or_ge y 176 with c | c21
    · exact db_okr_at db_okr_168 (by omega) (by omega)
    · rw [List.getD_eq_getElem?_getD, List.getElem?_eq_none (by rw [db_cd_len]; omega)]
      rfl
  exact List.all_eq_true.mp key (pc, ai) hm
