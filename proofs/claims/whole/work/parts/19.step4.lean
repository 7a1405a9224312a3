/-! calls of Math.max, Math.min, System.arraycopy, Object's constructor -/
theorem db_cat_sum {G : db_G} (S : List Value) : ((S.map (db_va G)).map (fun v => v.category)).sum = S.length := by
  induction S with
  | nil => rfl
  | cons v t ih => simp only [List.map_cons, List.sum_cons, ih, db_va_cat, List.length_cons]; omega
theorem db_cpy_at {f g : List Int32} {sp dp n : Nat} (h1 : sp + n ≤ f.length) (h2 : dp + n ≤ g.length) : va_cpy (fun i => f.getD i 0) (fun i => g.getD i 0) sp dp n = fun j => (db_cpy f g sp dp n).getD j 0 := by
  funext j
  have hl1 : (g.take dp).length = dp := by simp; omega
  have hl2 : ((f.drop sp).take n).length = n := by simp; omega
  simp only [va_cpy, db_cpy, List.getD_eq_getElem?_getD]
  by_cases c1 : dp ≤ j ∧ j < dp + n
  · rw [if_pos c1, List.getElem?_append_left (by simp; omega), List.getElem?_append_right (by omega), hl1, List.getElem?_take_of_lt (by omega), List.getElem?_drop]
  · rw [if_neg c1]
    by_cases c2 : j < dp
    · rw [List.getElem?_append_left (by simp; omega), List.getElem?_append_left (by omega), List.getElem?_take_of_lt c2]
    · rw [List.getElem?_append_right (by simp; omega), List.length_append, hl1, hl2, List.getElem?_drop, show dp + n + (j - (dp + n)) = j by omega]
theorem db_okc1 {kd y i : Nat} {t : List Nat} (h : db_okc kd y i (1 :: t) = true) : ∃ w : Nat, kd = 2 ∧ lw_tbl[w]? = some (.methodLink (db_ow y) i Lib.Math.max.name) ∧ 1 ≤ db_dp y ∧ 21 ≤ db_lo y := by
  cases t with
  | nil => simp [db_okc] at h
  | cons w t => exact ⟨w, by simpa [db_okc, and_assoc] using h⟩
theorem db_okc2 {kd y i : Nat} {t : List Nat} (h : db_okc kd y i (2 :: t) = true) : ∃ w : Nat, kd = 2 ∧ lw_tbl[w]? = some (.methodLink (db_ow y) i Lib.Math.min.name) ∧ 1 ≤ db_dp y ∧ 21 ≤ db_lo y := by
  cases t with
  | nil => simp [db_okc] at h
  | cons w t => exact ⟨w, by simpa [db_okc, and_assoc] using h⟩
theorem db_okc3 {kd y i : Nat} {t : List Nat} (h : db_okc kd y i (3 :: t) = true) : ∃ w : Nat, kd = 2 ∧ lw_tbl[w]? = some (.methodLink (db_ow y) i arraycopyName) ∧ 1 ≤ db_dp y ∧ 26 ≤ db_lo y := by
  cases t with
  | nil => simp [db_okc] at h
  | cons w t => exact ⟨w, by simpa [db_okc, and_assoc] using h⟩
theorem db_okc4 {kd y i : Nat} {t : List Nat} (h : db_okc kd y i (4 :: t) = true) : ∃ w : Nat, kd = 1 ∧ lw_tbl[w]? = some (.methodLink (db_ow y) i Lib.objectInit) ∧ 1 ≤ db_dp y ∧ 20 ≤ db_lo y := by
  cases t with
  | nil => simp [db_okc] at h
  | cons w t => exact ⟨w, by simpa [db_okc, and_assoc] using h⟩
section DBS4
variable {p : Program} {l : Launch} {e : Env} {R : Room} {s : State} {m : MethodId} {args : Array Value} {below : List Frame} {meth : Method} {c : Code} {H : Heap} {locs : List Loc} {cells slots : Nat} {Q : State → Prop}
variable {pc : Nat} {ls : Array Slot} {G : db_G} {T h h' : db_H} {y pc' : Nat} {L S L' S' : List Value}
theorem db_copyi {cc : ByteArray} {rest : List Value} {A : Nat → Prop} {H0 : Heap} (hexec : p.tables.exec = Jvm.exec) (hb : c.code = cc) (hml : c.maxLocals = ls.size) {own : String} {index : Nat} (hown : s.vm.findClass own = some m.cls) (hlink : (Cond.methodLink own index arraycopyName).before args s = true) (hnat : (Cond.native arraycopyName).before args s = true) (hstat : (Cond.static arraycopyName).before args s = true) (hini : (Cond.initialized "java/lang/System").before args s = true)
    (hS : va_S A H0 H locs) {a a0 : Nat} {c0 : ClassId} {n0 n1 : Nat} {f g : Nat → Int32} (hArr : ArrOfT s c0 .int) (hc0 : H[a0]? = some (vp_cell c0 (n0, .inl f))) (hc1 : H[a]? = some (vp_cell c0 (n1, .inl g))) (hAa : A a)
    {sp dp n : Int32} (h1 : ¬ sp < 0) (h2 : ¬ dp < 0) (h3 : ¬ n < 0) (h4 : sp.toNatClampNeg + n.toNatClampNeg ≤ n0) (h5 : dp.toNatClampNeg + n.toNatClampNeg ≤ n1)
    (hframes : 1 ≤ R.frames) (hlocals : (rest.map fun v => v.category).sum + (nativeFrameWords "java/lang/System" "arraycopy" 5 + 11) ≤ R.locals) (hdg : decode cc pc = .ok (.invokestatic index, 3))
    (kk : ∀ (H1 : Heap) (locs1 : List Loc), H1[a]? = some (vp_cell c0 (n1, .inl (va_cpy f g sp.toNatClampNeg dp.toNatClampNeg n.toNatClampNeg))) → H1.size = H.size → (∀ q : Nat, q ≠ a → H1[q]? = H[q]?) → va_S A H0 H1 locs1 → W p l e R s m args below meth c H1 locs1 cells slots Q (F0 m (pc + 3) ls rest)) : W p l e R s m args below meth c H locs cells slots Q (F0 m pc ls (.int n :: .int dp :: .ref a :: .int sp :: .ref a0 :: rest)) := by
  have nn : ∀ z : Int32, ¬ z < 0 → z.toInt = (z.toNatClampNeg : Int) := by
    intro z hz
    have hz0 : (0 : Int) ≤ z.toInt := by
      have := Int32.not_lt.mp hz
      simpa using Int32.le_iff_toInt_le.mp this
    show z.toInt = ((z.toInt.toNat : Nat) : Int)
    omega
  intro T hT X
  obtain ⟨-, k0, hk0, cm0, hkk0⟩ := hArr n0 (fun j => .int (f j))
  obtain ⟨-, k1, hk1, cm1, hkk1⟩ := hArr n1 (fun j => .int (g j))
  obtain ⟨vm', X', step⟩ := X.arraycopy hexec hown hlink hnat hstat hini (src := a0) (dst := a) (cs := vp_cell c0 (n0, .inl f)) (cd := vp_cell c0 (n1, .inl g)) (srcPos := sp) (destPos := dp) (n := n) (by rw [hT]; exact hc0) (by rw [hT]; exact hc1)
    (fun _ h => by cases h) (fun _ h => by cases h) (fun h => by cases h) (fun h => by cases h) hk0 hk1 hkk0 hkk1 (by simp [show refKind .int = false from rfl]) h1 h2 h3
    (by rw [nn sp h1, nn n h3]; show ¬ _ > ((arrV c0 n0 (fun j => .int (f j))).slots.size : Int); rw [arrV_size]; omega)
    (by rw [nn dp h2, nn n h3]; show ¬ _ > ((arrV c0 n1 (fun j => .int (g j))).slots.size : Int); rw [arrV_size]; omega)
    (fun vm₁ _ i hi => by
      have e : (vp_cell c0 (n0, .inl f)).slots.getD (sp.toNatClampNeg + i) .null = .int (f (sp.toNatClampNeg + i)) := by
        show (arrV c0 n0 (fun j => .int (f j))).slots.getD _ _ = _
        rw [Array.getD_eq_getD_getElem?, arrV_read _ _ (by omega)]
        rfl
      refine ⟨?_, ?_⟩
      · rw [e]
        rfl
      · rw [e]
        exact trivial)
    (g := F0 m pc ls (.int n :: .int dp :: .ref a :: .int sp :: .ref a0 :: rest)) rfl (by rw [hml]) (rest := rest) rfl (by rw [hb]; exact hdg) hframes (by show 2 * 0 + _ + _ ≤ _; omega)
  have e1 : copied (vp_cell c0 (n0, .inl f)) (vp_cell c0 (n1, .inl g)) sp dp n = vp_cell c0 (n1, .inl (va_cpy f g sp.toNatClampNeg dp.toNatClampNeg n.toNatClampNeg)) := va_copied (fun z => .int z) c0 c0 f g h4
  rw [e1] at X' step
  have hl : a < H.size := (Array.getElem?_eq_some_iff.mp hc1).1
  have hheap : ((T.setVm vm').setCell a (vp_cell c0 (n1, .inl (va_cpy f g sp.toNatClampNeg dp.toNatClampNeg n.toNatClampNeg)))).heap = H.setIfInBounds a (vp_cell c0 (n1, .inl (va_cpy f g sp.toNatClampNeg dp.toNatClampNeg n.toNatClampNeg))) := by rw [← hT]; rfl
  have oq : ∀ q : Nat, q ≠ a → (H.setIfInBounds a (vp_cell c0 (n1, .inl (va_cpy f g sp.toNatClampNeg dp.toNatClampNeg n.toNatClampNeg))))[q]? = H[q]? := fun q hq => by simp [Array.getElem?_setIfInBounds, Ne.symm hq]
  obtain ⟨t, a1, b1⟩ := kk _ _ (show (H.setIfInBounds a _)[a]? = some _ by simp [Array.getElem?_setIfInBounds, hl]) (by simp) oq ⟨by simp; exact hS.1, fun q g1 g2 => by
      rw [oq q (fun e => g2 (by rw [e]; exact hAa))]
      exact hS.2.1 q g1 g2, fun q hq => by
      rcases List.mem_append.mp hq with h | h
      · exact hS.2.2 q h
      · obtain ⟨z, -, hz⟩ := List.mem_map.mp h
        rw [← hz]
        exact hAa⟩ _ hheap X'
  exact ⟨t, step t a1, b1⟩
set_option maxHeartbeats 4000000 in
theorem db_step4 {vt : Bool} {n : Nat} {a : List Nat} {i : Instr} {kd idx : Nat} (C : db_Cx G T p s m args meth c y) (hd : decode (db_by y) pc = .ok (i, 3)) (hw : db_okc kd y idx a = true) (hik : (kd = 2 → i = .invokestatic idx) ∧ (kd = 1 → i = .invokespecial idx))
    (hs : db_inv vt (i, n, a) pc L S h = some (.inl (pc', L', S', h')))
    (hL : db_lr G L ls) (hLn : L.length = db_ml y) (hR : db_Rl G db_cl T h H) (hS : va_S (db_A G) s.heap H locs)
    (hfr : db_dp y ≤ R.frames) (hlo : db_lo y ≤ R.locals) (hc1 : cells ≤ R.cells) (hc2 : slots ≤ R.slots)
    (kk : db_kk p l e R s m args below meth c cells slots Q G T y pc' L' S' h h') : W p l e R s m args below meth c H locs cells slots Q (F0 m pc ls (S.map (db_va G))) := by
  obtain ⟨hX, hb, hml, hown, hts, hname, hWd⟩ := id C
  have hml2 : c.maxLocals = ls.size := by rw [hml, hL.1, hLn]
  unfold db_inv at hs
  dsimp only at hs
  split at hs
  · split at hs
    · split at hs
      · split at hs
        · split at hs
          · cases hs
          · split at hs
            · split at hs <;> cases hs
            · cases hs
        · cases hs
      · cases hs
    · cases hs
  · obtain ⟨w, rfl, hlk, hd1, hl1⟩ := db_okc1 hw
    obtain rfl := hik.1 rfl
    split at hs
    · rename_i y0 x0 S0
      split at hs
      · cases hs
      · rename_i h8
        cases hs
        refine va_mmax hX hb hml2 hown (hts _ (db_in_tb hlk rfl)) (hts _ db_x1) (hts _ db_x3) (hts _ db_x4) (by omega) ?_ hc1 hc2 hd (kk.same hL hLn hR hS)
        have := db_cat_sum (G := G) S0
        omega
    · cases hs
  · obtain ⟨w, rfl, hlk, hd1, hl1⟩ := db_okc2 hw
    obtain rfl := hik.1 rfl
    split at hs
    · rename_i y0 x0 S0
      split at hs
      · cases hs
      · rename_i h8
        cases hs
        refine va_mmin hX hb hml2 hown (hts _ (db_in_tb hlk rfl)) (hts _ db_x2) (hts _ db_x3) (hts _ db_x5) (by omega) ?_ hc1 hc2 hd (kk.same hL hLn hR hS)
        have := db_cat_sum (G := G) S0
        omega
    · cases hs
  · obtain ⟨w, rfl, hlk, hd1, hl1⟩ := db_okc3 hw
    obtain rfl := hik.1 rfl
    obtain ⟨n0, dp, sp, a0, b0, S0, f, g, rfl, hb0, ha0, h8, hf, hg, e3, e4, e5, e6, e7, hr⟩ := db_acp_inv hs
    cases hr
    have q0 := hR.2.2.2 a0 _ (Nat.not_lt.mp ha0) hf
    have q1 := hR.2.2.2 b0 _ (Nat.not_lt.mp hb0) hg
    show W p l e R s m args below meth c H locs cells slots Q (F0 m pc ls (.int n0 :: .int dp :: .ref (db_ad G b0) ::   .int sp :: .ref (db_ad G a0) :: S'.map (db_va G)))
    rw [db_ad_dyn hb0, db_ad_dyn ha0]
    refine db_copyi (A := db_A G) (H0 := s.heap) hX hb hml2 hown (hts _ (db_in_tb hlk rfl)) (hts _ db_x6) (hts _ db_x7) (hts _ db_x8) hS (hWd.1.2 0 _ rfl).1 q0 q1 (Nat.le_add_right _ _) e3 e4 e5 e6 e7 (by omega) ?_ hd (fun H1 locs1 z1 z2 z3 z4 => ?_)
    · have := db_cat_sum (G := G) S'
      have e : nativeFrameWords "java/lang/System" "arraycopy" 5 = 7 := by decide +kernel
      rw [e]
      omega
    · have hlen := db_cpy_len e6 e7
      refine kk.set hg (by show (db_cpy _ _ _ _ _).length = _; rw [hlen]; rfl) hL hLn (hR.set hb0 hg z2 z3 ?_) z4
      show H1[_]? = some (vp_cell _ ((db_cpy _ _ _ _ _).length, .inl (fun i => (db_cpy f g sp.toNatClampNeg dp.toNatClampNeg n0.toNatClampNeg).getD i 0)))
      rw [z1, hlen, ← db_cpy_at e6 e7]
      rfl
  · obtain ⟨w, rfl, hlk, hd1, hl1⟩ := db_okc4 hw
    obtain rfl := hik.2 rfl
    split at hs
    · rename_i k0 S0
      split at hs
      · cases hs
      · rename_i h8
        cases hs
        refine W.objInit hX hb hown (hts _ (db_in_tb hlk rfl)) (hts _ db_x9) (hts _ db_x10) rfl (by rw [hml2]) rfl hd (by omega) ?_ (kk.same hL hLn hR hS)
        have := db_cat_sum (G := G) S'
        show 2 * 0 + _ + 12 ≤ _
        omega
    · cases hs
  · cases hs
end DBS4
