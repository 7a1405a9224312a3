/-! the claim out of a pure statement on the law's run -/
def db_tab0 : List Int32 := [3, 4, 5, 6, 7, 8, 9, 10, 11, 13, 15, 17, 19, 23, 27, 31, 35, 43, 51, 59, 67, 83, 99, 115, 131, 163, 195, 227, 258]
def db_tab1 : List Int32 := [1, 2, 3, 4, 5, 7, 9, 13, 17, 25, 33, 49, 65, 97, 129, 193, 257, 385, 513, 769, 1025, 1537, 2049, 3073, 4097, 6145, 8193, 12289, 16385, 24577]
def db_tab2 : List Int32 := [16, 17, 18, 0, 8, 7, 9, 6, 10, 5, 11, 4, 12, 3, 13, 2, 14, 1, 15]
def db_tab3 : List Int32 := [31, 139, 8, 0, 0, 0, 0, 0, 0, 255]
/-- the cells at the law's start: the four tables and the script -/
def db_T (xs : List Int32) : db_H := [.inl (0, db_tab0), .inl (0, db_tab1), .inl (0, db_tab2), .inl (0, db_tab3), .inl (0, xs)]
/-- THE PURE STATEMENT for scripts of at most N ints -/
def db_Law (N : Nat) : Prop := ∀ xs : List Int32, xs.length ≤ N → ∃ (f : Nat) (h' : db_H), db_run db_lk db_ml f 0 0 (db_ent 4 [.ref 4]) [] (db_T xs) = some (some (.int 1), h') ∧ h'.length ≤ 600000 ∧ db_sz h' ≤ 7302250
def db_elems (nm : String) (l : List Int32) : Bool := (List.range l.length).all (fun j => decide (Cond.eq (.elem (.static "DeflateBlocks" nm "[I") (.int (Int32.ofNat j))) (.int (l.getD j 0)) ∈ flatC (Jvm.Cond.and given_1 narrow_1)))
theorem db_e0 : db_elems "LENGTH_BASES" db_tab0 = true := by decide +kernel
theorem db_e1 : db_elems "DISTANCE_BASES" db_tab1 = true := by decide +kernel
theorem db_e2 : db_elems "ROW_ORDER" db_tab2 = true := by decide +kernel
theorem db_e3 : db_elems "CRC_HEAD" db_tab3 = true := by decide +kernel
theorem db_static {s : State} {b : Nat} {A : Nat → Prop} {nm : String} {l : List Int32} (hgv : (Jvm.Cond.and given_1 narrow_1).before #[Value.ref b] s = true) (hl : l.length < 2 ^ 31) (he : db_elems nm l = true)
    (h1 : Cond.arrayOf (.static "DeflateBlocks" nm "[I") .int ∈ flatC (Jvm.Cond.and given_1 narrow_1)) (h2 : Cond.eq (.length (.static "DeflateBlocks" nm "[I")) (.int (Int32.ofNat l.length)) ∈ flatC (Jvm.Cond.and given_1 narrow_1))
    (hlay : (Cond.laysStatic "DeflateBlocks" nm "[I").before #[Value.ref b] s = true) (hini : (Cond.initialized "DeflateBlocks").before #[Value.ref b] s = true) (hA : ∀ a : Nat, a < s.heap.size → ¬ A a) :
    ∃ t : Nat, va_T .int t l.length (fun i => .int (l.getD i 0)) A s s.heap ∧ va_Z "DeflateBlocks" nm "[I" (.ref t) A s s.heap := by
  have hs := flat_of_before _ hgv
  obtain ⟨t, ht, hT⟩ := va_Tof (f := fun i => .int (l.getD i 0)) (A := A) hl (hs _ h1) (va_eqt (hs _ h2)) (fun j hj => va_eqt (hs _ (of_decide_eq_true (List.all_eq_true.mp he j (List.mem_range.mpr hj))))) hA
  exact ⟨t, hT, va_Zof hlay hini ht hA⟩
theorem db_arr {s : State} {args : Array Value} {ty : FieldType} (hp : ∀ C, ty ≠ .object C) (h : (Cond.arrayClass ty).before args s = true) : ∃ cA : ClassId, ArrOfT s cA ty ∧ va_RA s cA ty := by
  obtain ⟨cA, kA, comp, h1, h2, h3⟩ := Cond.arrayClass_spec h
  refine ⟨cA, fun n z => ⟨fun k h => (by cases h), kA, h2, comp, h3⟩, ?_⟩
  cases ty <;> first | exact h1 | exact absurd rfl (hp _)
set_option maxHeartbeats 4000000 in
theorem db_start {p : Program} {e : Env} {s : State} {m : MethodId} {below : List Frame} {meth : Method} {c : Code} (l : Launch) {b L N : Nat} {xs : Nat → Int32} (hN : N < 2 ^ 31) (hLaw : db_Law N) (hL : L ≤ N) (C0 : lw_At p s m meth c b L xs) : W p l e room_1 s m #[Value.ref b] below meth c s.heap [] 0 0 (lw_Z below #[Value.ref b] s) (entryFrame m ([Value.ref b] : List Value).toArray 4) := by
  obtain ⟨hx, hb, hr, hml, hown, hts, hX, hbl, hlocks, hgv⟩ := id C0
  have hts2 : ∀ w ∈ db_tb, w.before #[Value.ref b] s = true := fun w hw => hts w (List.mem_filter.mp hw).1
  have hA : ∀ a : Nat, a < s.heap.size → ¬ (fun q : Nat => s.heap.size ≤ q) a := fun a h1 h2 => Nat.not_le.mpr h1 h2
  have hini := hts (Cond.initialized "DeflateBlocks") (List.mem_of_getElem? (i := 69) (by decide +kernel))
  obtain ⟨t0, hT0, hZ0⟩ := db_static (l := db_tab0) hgv (by decide) db_e0 (by decide +kernel) (by decide +kernel) (hts (Cond.laysStatic "DeflateBlocks" "LENGTH_BASES" "[I") (List.mem_of_getElem? (i := 589) (by decide +kernel))) hini hA
  obtain ⟨t1, hT1, hZ1⟩ := db_static (l := db_tab1) hgv (by decide) db_e1 (by decide +kernel) (by decide +kernel) (hts (Cond.laysStatic "DeflateBlocks" "DISTANCE_BASES" "[I") (List.mem_of_getElem? (i := 594) (by decide +kernel))) hini hA
  obtain ⟨t2, hT2, hZ2⟩ := db_static (l := db_tab2) hgv (by decide) db_e2 (by decide +kernel) (by decide +kernel) (hts (Cond.laysStatic "DeflateBlocks" "ROW_ORDER" "[I") (List.mem_of_getElem? (i := 654) (by decide +kernel))) hini hA
  obtain ⟨t3, hT3, hZ3⟩ := db_static (l := db_tab3) hgv (by decide) db_e3 (by decide +kernel) (by decide +kernel) (hts (Cond.laysStatic "DeflateBlocks" "CRC_HEAD" "[I") (List.mem_of_getElem? (i := 563) (by decide +kernel))) hini hA
  obtain ⟨cI, hI1, hI2⟩ := db_arr (by nofun) (hts2 _ db_x11)
  obtain ⟨cZ, hZa, hZb⟩ := db_arr (by nofun) (hts2 _ db_x12)
  have hkn : ∀ ci : Nat, ∃ (cC : ClassId) (iS : Nat → Nat), ∀ q, db_cl[ci]? = some q → u_Kn s q.1 q.2.1 q.2.2 cC iS := by
    intro ci
    cases hc : db_cl[ci]? with
    | none => exact ⟨0, fun _ => 0, fun q h => by cases h⟩
    | some q =>
      obtain ⟨C1, T1, N1⟩ := q
      obtain ⟨hin, -, -, hins, -⟩ := db_cls hc
      obtain ⟨cC, iS, h⟩ := u_known hts2 hin (hts2 _ hins)
      exact ⟨cC, iS, fun q h2 => by cases h2; exact h⟩
  let sc : List Int32 := (List.range L).map xs
  have hsl : sc.length = L := by simp [sc]
  let G : db_G := (s.heap.size, fun j => match j with
    | 0 => t0
    | 1 => t1
    | 2 => t2
    | 3 => t3
    | _ => b, (fun ci => Classical.choose (hkn ci), fun ci => Classical.choose (Classical.choose_spec (hkn ci))), cI, cZ)
  have hGA : db_A G = fun q : Nat => s.heap.size ≤ q := rfl
  have hWd : db_Wd G (db_T sc) s s.heap := by
    refine ⟨⟨fun ci q hq => Classical.choose_spec (Classical.choose_spec (hkn ci)) q hq, fun k q hk => ?_⟩, fun w hw hn => ?_, fun j c hj hc => ?_, fun j z hz => ?_⟩
    · match k, hk with
      | 0, hk => cases hk; exact ⟨hI1, hI2⟩
      | 1, hk => cases hk; exact ⟨hZa, hZb⟩
    · exact va_Nw.of (by cases w <;> first | rfl | (simp [db_ne] at hn)) (hts w hw)
    · match j, hj, hc with
      | 0, _, hc => cases hc; exact ⟨db_tab0, rfl, hT0⟩
      | 1, _, hc => cases hc; exact ⟨db_tab1, rfl, hT1⟩
      | 2, _, hc => cases hc; exact ⟨db_tab2, rfl, hT2⟩
      | 3, _, hc => cases hc; exact ⟨db_tab3, rfl, hT3⟩
      | 4, _, hc =>
        cases hc
        obtain ⟨scr, g1, g2, g3, g4, g5⟩ := hX
        refine ⟨sc, rfl, scr, g1, g2, g3, (by rw [hsl, g4]; exact Nat.le_refl _), (by rw [hsl, g4] <;> rfl), fun j hj => ?_, Nat.not_le.mpr hbl⟩
        rw [hsl] at hj
        rw [g5 j hj]
        simp [sc, hj]
      | j + 5, hj, _ => simp [db_n] at hj; omega
    · match j, hz with
      | 0, hz => cases hz; exact hZ0
      | 1, hz => cases hz; exact hZ1
      | 2, hz => cases hz; exact hZ2
      | 3, hz => cases hz; exact hZ3
      | j + 4, hz => simp [db_sf] at hz
  obtain ⟨f, h', hrun, hr1, hr2⟩ := hLaw sc (by rw [hsl]; exact hL)
  rw [entry_eq m [Value.ref b] (fun v hv => by rw [List.mem_singleton.mp hv]; rfl) 4]
  have hlr : db_lr G (db_ent 4 [.ref 4]) ((([Value.ref 4].map (db_va G)).map Slot.val ++ List.replicate (4 - ([Value.ref 4].map (db_va G)).length) Slot.unset).toArray) := db_ent_lr rfl (by decide)
  refine db_sim l G (db_T sc) f 0 0 (db_ent 4 [.ref 4]) [] (db_T sc) (some (.int 1)) h' hrun p e room_1 s m #[Value.ref b] below meth c _ _ s.heap [] 0 0 ⟨hx, hb, hml, hown, hts2, (fun h => absurd h (by decide +kernel)), hWd⟩ hlr rfl ⟨Nat.le_refl 5, by simp [G, db_T, db_n], fun k _ => rfl, fun k c hk hc => ?_⟩ va_S.rf (by decide +kernel) (by decide +kernel) (by rw [Nat.zero_add]; show _ ≤ 600000; omega) (by rw [Nat.zero_add]; show _ ≤ 7302250; omega) ?_
  · exfalso
    have := (List.getElem?_eq_some_iff.mp hc).1
    simp [db_T] at this
    simp [db_n] at hk
    omega
  · intro pc' ls' H' locs' ins hd hk hR' hS'
    rcases hk with ⟨h1, -⟩ | ⟨x, ty, h1, rfl, -⟩ | ⟨w, ty, h1, -, -, -, h2⟩
    · cases h1
    · refine va_forget (fun q hq => hS'.2.2 q hq) ?_
      refine W.widen (k := 600000) (n := 7302250) (by omega) (by omega) ?_
      exact lw_ret hx hb hr hlocks hd
    · cases h1
      rcases h2 with h2 | ⟨a, h2⟩ <;> cases h2
