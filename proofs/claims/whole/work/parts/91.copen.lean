/-! the class: openTape -/
def bk1 (B : List Bool) (x : List Nat × Rd) : Nat × Rd := rdF B 1 x.2
def bk2 (B : List Bool) (x : List Nat × Rd) : Nat × Rd := rdF B 2 (bk1 B x).2
def bk3 (B : List Bool) (x : List Nat × Rd) : List Nat × Rd := bkY B (bk2 B x).1 (x.1, (bk2 B x).2)
def bkN (B : List Bool) (x : List Nat × Rd) : Nt := ((bk2 B x).1, x.1.length, (bk3 B x).1.length - x.1.length, x.2.1, (bk3 B x).2.1 - x.2.1)
/-- all BLOCKS: bytes and state, notes, the widths of the last of KIND 2 -/
def opF (B : List Bool) : Nat → List Nat × Rd → List Nt → Option Ow → (List Nat × Rd) × List Nt × Option Ow
  | 0, x, N, o => (x, N, o)
  | d + 1, x, N, o => if x.2.2 = 0 then (if (bk3 B x).2.2 = 0 then (if (bk1 B x).1 = 1 then (bk3 B x, N ++ [bkN B x], bkO B (bk2 B x).1 (bk2 B x).2 o) else opF B d (bk3 B x) (N ++ [bkN B x]) (bkO B (bk2 B x).1 (bk2 B x).2 o)) else (bk3 B x, N, o)) else (x, N, o)
/-- all of it: (bytes, the state in the end, notes, widths) -/
def opR (B : List Bool) (fr : Nat) : (List Nat × Rd) × List Nt × Option Ow := opF B 321 ([], hdR B fr (0, 0)) [] none
def opS (B : List Bool) (fr : Nat) : Rd := bhR B (tlR B fr (opR B fr).1.1 (alg (opR B fr).1.2))
theorem hdR_ok {B : List Bool} {fr : Nat} {s : Rd} (h : okR B s) : okR B (hdR B fr s) := by
  unfold hdR
  split
  · have a := @rdF_ok B 8 s h
    generalize rdF B 8 s = t1 at *
    have b := @rdF_ok B 8 t1.2 a.1
    generalize rdF B 8 t1.2 = t2 at *
    split
    · exact b.1
    · exact (fl_ok b.1 (by decide)).1
  · split
    · refine rd6_ok 6 _ ?_
      unfold rb4
      have a := @rdF_ok B 8 s h
      generalize rdF B 8 s = t1 at *
      have b := @rdF_ok B 8 t1.2 a.1
      generalize rdF B 8 t1.2 = t2 at *
      have c := @rdF_ok B 8 t2.2 b.1
      generalize rdF B 8 t2.2 = t3 at *
      have d := @rdF_ok B 8 t3.2 c.1
      generalize rdF B 8 t3.2 = t4 at *
      simp only
      split
      · exact d.1
      · exact (fl_ok d.1 (by decide)).1
    · exact h
theorem hfR_f {B : List Bool} {s : Rd} (h : ¬ s.2 = 0) : (hfR B s).2 = s := by
  unfold hfR
  simp only [rdF_f h]
theorem tlR_f {B : List Bool} {fr : Nat} {E : List Nat} {s : Rd} (h : ¬ s.2 = 0) : tlR B fr E s = s := by
  unfold tlR
  split
  · rw [hfR_f h]
    split
    · rfl
    · exact fl_f h
  · split
    · simp only [rdF_f h]
      have e : (if nI 0 = crc (E.map nI) then s else fl 13 s) = s := by
        split
        · rfl
        · exact fl_f h
      rw [e]
      simp only [rdF_f h]
      split
      · rfl
      · exact fl_f h
    · rfl
theorem bhR_f {B : List Bool} {s : Rd} (h : ¬ s.2 = 0) : bhR B s = s := if_neg (fun z => h z.1)
theorem alg_f {s : Rd} (h : ¬ s.2 = 0) : alg s = s := if_neg h
theorem opS_0 {B : List Bool} {fr : Nat} (h : (opS B fr).2 = 0) : (opR B fr).1.2.2 = 0 := by
  rcases Nat.eq_zero_or_pos (opR B fr).1.2.2 with e | e
  · exact e
  · have n : ¬ (opR B fr).1.2.2 = 0 := by omega
    unfold opS at h
    rw [alg_f n, tlR_f n, bhR_f n] at h
    exact absurd h n
section CO2
variable {P : Option Value → db_H → Prop} {B : List Bool}
theorem m80_loop {o : Nat} {fr : Int32} (ho : o = 117 ∨ o = 122) : ∀ (d i : Nat) (h : db_H) (x : List Nat × Rd) (fc j : Nat) (N : List Nt) (own : Option Ow), i + d = 321 → (x.2.2 = 0 → N.length = i) → 117 < fc → (¬ fc = o ∧ ¬ fc = o + 2 ∧ ¬ fc = o + 3 ∧ ¬ fc = o + 4) → fc < h.length → cX h B x → cG h → cL h o fc N own → cap h fc j → (∀ h2 fc2 j2 N2 own2 z4 z5, FrN (F86 ++ [o, o + 2, o + 3, o + 4, fc]) h h2 → (fc2 = fc ∨ h.length ≤ fc2) → fc2 < h2.length → h2.length + j = h.length + j2 → szN h h2 fc → cX h2 B (opF B d x N own).1 → cG h2 → cL h2 o fc2 N2 own2 → cap h2 fc2 j2 → ((opF B d x N own).1.2.2 = 0 → N2 = (opF B d x N own).2.1 ∧ own2 = (opF B d x N own).2.2) → db_Go 80 67 [.ref 71, .ref 8, .int fr, .ref o, z4, z5] [] h2 P) → db_Go 80 31 [.ref 71, .ref 8, .int fr, .ref o, .int (nI 0), .int (nI i)] [] h P := by
  have szr : ∀ (h : db_H) (fc j : Nat), cap h fc j → szN h h fc := fun h fc j c => by
    obtain ⟨fa, c1, c2, c3⟩ := c
    exact ⟨fun k k1 k2 => by omega, fa, c1, by omega⟩
  intro d
  induction d with
  | zero =>
    intro i h x fc j N own hi hN hf hd hfl X G L C K
    rw [opF] at K
    rw [g_80_31]
    simp (disch := first | omega | (simp only [List.length_set]; omega)) only [g_80_0, g_80_1, g_80_4, g_80_8, g_80_9, g_80_12, g_80_13, g_80_16, g_80_20, g_80_21, g_80_25, g_80_26, g_80_28, g_80_29, g_80_33, g_80_36, g_80_39, g_80_41, g_80_44, g_80_45, g_80_48, g_80_51, g_80_54, g_80_55, g_80_59, g_80_61, g_80_64, g_80_68, g_80_74, g_80_75, g_80_79, g_80_80, g_80_83, g_80_86, g_80_89, g_80_90, g_80_96, g_80_99, g_80_100, g_80_103, g_80_108, g_80_109, g_80_110, g_80_113, g_80_118, g_80_119, g_80_122, g_80_125, gs_nx, db_inx, gs_ldi, gs_lda, gs_ldn, List.getElem?_cons_zero, List.getElem?_cons_succ, List.set_cons_zero, List.set_cons_succ, gx5, fx_int, fx_ref, fx_null, px5, gs_lx, gs_ax, sx5, ft_int, ft_ref, ft_b0, ft_b1, c1_int, c1_ref, List.length_cons, List.length_nil, Nat.reduceAdd, Nat.reduceLT, Nat.reduceLeDiff, true_and, and_true, true_or, or_true, not_false_eq_true, Option.toList_some, Option.toList_none, List.nil_append, List.singleton_append, List.cons_append, ↓reduceIte, Bool.and_self, eq_self, z_max, z_min, nI_add, z_sub, z_dec, z_mul, z_div, z_mod, nI_clamp, z_lt, z_nlt, z_le, z_nle, z_ne, z_eq, z_in, not_true_eq_false, if_true, if_false, hs_at, hs_ne, hs_sort, hset_eq, vupp_eq, hs_over, List.length_set, vup_at, vup_ne, vup_over, vup_sort, mfs_len, n5_f, map_getD, List.length_map, gd_self, gd_ne, Nat.add_sub_cancel]
    exact K h fc j N own _ _ (FrN_of Fr_refl) (Or.inl rfl) hfl rfl (szr h fc j C) X G L C (fun _ => ⟨rfl, rfl⟩)
  | succ d ih =>
    intro i h x fc j N own hi hN hf hd hfl X G L C K
    have o' := X.2.2
    unfold opO at o'
    have r := cRd_o X.1
    have r9 := X.1.2.2.2.2.2.2
    rw [opF] at K
    rw [g_80_31]
    by_cases q : x.2.2 = 0
    · rw [if_pos q] at K
      have hN := hN q
      rw [q] at r
      have hl := X.1.1
      simp (disch := first | omega | (simp only [List.length_set]; omega)) only [g_80_0, g_80_1, g_80_4, g_80_8, g_80_9, g_80_12, g_80_13, g_80_16, g_80_20, g_80_21, g_80_25, g_80_26, g_80_28, g_80_29, g_80_33, g_80_36, g_80_39, g_80_41, g_80_44, g_80_45, g_80_48, g_80_51, g_80_54, g_80_55, g_80_59, g_80_61, g_80_64, g_80_68, g_80_74, g_80_75, g_80_79, g_80_80, g_80_83, g_80_86, g_80_89, g_80_90, g_80_96, g_80_99, g_80_100, g_80_103, g_80_108, g_80_109, g_80_110, g_80_113, g_80_118, g_80_119, g_80_122, g_80_125, gs_nx, db_inx, gs_ldi, gs_lda, gs_ldn, List.getElem?_cons_zero, List.getElem?_cons_succ, List.set_cons_zero, List.set_cons_succ, gx5, fx_int, fx_ref, fx_null, px5, gs_lx, gs_ax, sx5, ft_int, ft_ref, ft_b0, ft_b1, c1_int, c1_ref, List.length_cons, List.length_nil, Nat.reduceAdd, Nat.reduceLT, Nat.reduceLeDiff, true_and, and_true, true_or, or_true, not_false_eq_true, Option.toList_some, Option.toList_none, List.nil_append, List.singleton_append, List.cons_append, ↓reduceIte, Bool.and_self, eq_self, z_max, z_min, nI_add, z_sub, z_dec, z_mul, z_div, z_mod, nI_clamp, z_lt, z_nlt, z_le, z_nle, z_ne, z_eq, z_in, not_true_eq_false, if_true, if_false, hs_at, hs_ne, hs_sort, hset_eq, vupp_eq, hs_over, List.length_set, vup_at, vup_ne, vup_over, vup_sort, mfs_len, n5_f, map_getD, List.length_map, gd_self, gd_ne, Nat.add_sub_cancel, o', r]
      refine c_80_56 (by simp) (n5_ge (by decide)) X.2.2 ?_
      refine f86 (E := x.1) (s := x.2) ho hf hd hfl X G L C (by omega) (fun h2 fc2 j2 N2 own2 F2 fcc fl2 ct sz X2 G2 L2 C2 n2 e2 => ?_)
      have X2 : cX h2 B (bk3 B x) := X2
      have e2 : (bk3 B x).2.2 = 0 → N2 = N ++ [bkN B x] ∧ own2 = bkO B (bk2 B x).1 (bk2 B x).2 own := e2
      have ea : rdF B 1 x.2 = bk1 B x := rfl
      rw [ea]
      generalize bk3 B x = y at *
      generalize bk1 B x = a at *
      generalize bkN B x = nt at *
      generalize bkO B (bk2 B x).1 (bk2 B x).2 own = ow2 at *
      have o2 := X2.2.2
      unfold opO at o2
      have r2 := cRd_o X2.1
      have y9 := X2.1.2.2.2.2.2.2
      have fcd : 117 < fc2 ∧ (¬ fc2 = o ∧ ¬ fc2 = o + 2 ∧ ¬ fc2 = o + 3 ∧ ¬ fc2 = o + 4) := by omega
      have step : ∀ (x3 : List Nat × Rd) (N3 : List Nt) (own3 : Option Ow), x3 = y → (x3.2.2 = 0 → N3.length = i + 1) → N2 = N3 → own2 = own3 → (∀ h3 fc3 j3 N4 own4 z4 z5, FrN (F86 ++ [o, o + 2, o + 3, o + 4, fc]) h h3 → (fc3 = fc ∨ h.length ≤ fc3) → fc3 < h3.length → h3.length + j = h.length + j3 → szN h h3 fc → cX h3 B (opF B d x3 N3 own3).1 → cG h3 → cL h3 o fc3 N4 own4 → cap h3 fc3 j3 → ((opF B d x3 N3 own3).1.2.2 = 0 → N4 = (opF B d x3 N3 own3).2.1 ∧ own4 = (opF B d x3 N3 own3).2.2) → db_Go 80 67 [.ref 71, .ref 8, .int fr, .ref o, z4, z5] [] h3 P) → db_Go 80 31 [.ref 71, .ref 8, .int fr, .ref o, .int (nI 0), .int (nI (i + 1))] [] h2 P := by
        intro x3 N3 own3 ex eN eN2 eo K3
        rw [← eN2, ← eo] at K3
        rw [← eN2] at eN
        rw [← ex] at X2
        refine ih (i + 1) h2 x3 fc2 j2 N2 own2 (by omega) eN fcd.1 fcd.2 fl2 X2 G2 L2 C2 (fun h3 fc3 j3 N4 own4 z4 z5 F3 fcc3 fl3 ct3 sz3 X3 G3 L3 C3 e3 => ?_)
        have hle := F2.1
        refine K3 h3 fc3 j3 N4 own4 z4 z5 (FrN_tr F2 F3 ?_) (by omega) fl3 (by omega) ⟨?_, ?_⟩ X3 G3 L3 C3 e3
        · intro k hk z
          simp only [List.mem_append, List.mem_cons, List.not_mem_nil, or_false] at z ⊢
          rcases z with z | z | z
          · exact z
          · exact Or.inl z
          · right
            omega
        · intro k k1 k2
          by_cases g : k < h2.length
          · by_cases g2 : k = fc2
            · rw [g2]
              exact sz3.2
            · obtain ⟨z, z1, z2⟩ := sz.1 k k1 g
              exact ⟨z, FrN_get F3 (by simp only [List.mem_append, List.mem_cons, List.not_mem_nil, or_false]; exact fun w => w.elim (F86_n (by omega)) (fun w => by omega)) z1, z2⟩
          · exact sz3.1 k (by omega) k2
        · by_cases g2 : fc = fc2
          · rw [g2]
            exact sz3.2
          · obtain ⟨z, z1, z2⟩ := sz.2
            exact ⟨z, FrN_get F3 (by simp only [List.mem_append, List.mem_cons, List.not_mem_nil, or_false]; exact fun w => w.elim (F86_n (by omega)) (fun w => by omega)) z1, z2⟩
      have exit2 : ∀ (z4 : Int32) (z5 : Value), (z4 = nI 1 ∨ ¬ y.2.2 = 0) → (∀ h3 fc3 j3 N4 own4 z4 z5, FrN (F86 ++ [o, o + 2, o + 3, o + 4, fc]) h h3 → (fc3 = fc ∨ h.length ≤ fc3) → fc3 < h3.length → h3.length + j = h.length + j3 → szN h h3 fc → cX h3 B y → cG h3 → cL h3 o fc3 N4 own4 → cap h3 fc3 j3 → (y.2.2 = 0 → N4 = N ++ [nt] ∧ own4 = ow2) → db_Go 80 67 [.ref 71, .ref 8, .int fr, .ref o, z4, z5] [] h3 P) → db_Go 80 67 [.ref 71, .ref 8, .int fr, .ref o, .int z4, z5] [] h2 P := fun z4 z5 _ K3 => K3 h2 fc2 j2 N2 own2 _ _ F2 fcc fl2 ct sz X2 G2 L2 C2 e2
      by_cases q2 : y.2.2 = 0
      · rw [if_pos q2] at K
        obtain ⟨eN, eo⟩ := e2 q2
        by_cases q3 : a.1 = 1
        · rw [if_pos q3] at K
          rw [if_pos q3]
          simp (disch := first | omega | (simp only [List.length_set]; omega)) only [g_80_0, g_80_1, g_80_4, g_80_8, g_80_9, g_80_12, g_80_13, g_80_16, g_80_20, g_80_21, g_80_25, g_80_26, g_80_28, g_80_29, g_80_33, g_80_36, g_80_39, g_80_41, g_80_44, g_80_45, g_80_48, g_80_51, g_80_54, g_80_55, g_80_59, g_80_61, g_80_64, g_80_68, g_80_74, g_80_75, g_80_79, g_80_80, g_80_83, g_80_86, g_80_89, g_80_90, g_80_96, g_80_99, g_80_100, g_80_103, g_80_108, g_80_109, g_80_110, g_80_113, g_80_118, g_80_119, g_80_122, g_80_125, gs_nx, db_inx, gs_ldi, gs_lda, gs_ldn, List.getElem?_cons_zero, List.getElem?_cons_succ, List.set_cons_zero, List.set_cons_succ, gx5, fx_int, fx_ref, fx_null, px5, gs_lx, gs_ax, sx5, ft_int, ft_ref, ft_b0, ft_b1, c1_int, c1_ref, List.length_cons, List.length_nil, Nat.reduceAdd, Nat.reduceLT, Nat.reduceLeDiff, true_and, and_true, true_or, or_true, not_false_eq_true, Option.toList_some, Option.toList_none, List.nil_append, List.singleton_append, List.cons_append, ↓reduceIte, Bool.and_self, eq_self, z_max, z_min, nI_add, z_sub, z_dec, z_mul, z_div, z_mod, nI_clamp, z_lt, z_nlt, z_le, z_nle, z_ne, z_eq, z_in, not_true_eq_false, if_true, if_false, hs_at, hs_ne, hs_sort, hset_eq, vupp_eq, hs_over, List.length_set, vup_at, vup_ne, vup_over, vup_sort, mfs_len, n5_f, map_getD, List.length_map, gd_self, gd_ne, Nat.add_sub_cancel]
          rw [g_80_31]
          by_cases q4 : i + 1 < 321
          · simp (disch := first | omega | (simp only [List.length_set]; omega)) only [g_80_0, g_80_1, g_80_4, g_80_8, g_80_9, g_80_12, g_80_13, g_80_16, g_80_20, g_80_21, g_80_25, g_80_26, g_80_28, g_80_29, g_80_33, g_80_36, g_80_39, g_80_41, g_80_44, g_80_45, g_80_48, g_80_51, g_80_54, g_80_55, g_80_59, g_80_61, g_80_64, g_80_68, g_80_74, g_80_75, g_80_79, g_80_80, g_80_83, g_80_86, g_80_89, g_80_90, g_80_96, g_80_99, g_80_100, g_80_103, g_80_108, g_80_109, g_80_110, g_80_113, g_80_118, g_80_119, g_80_122, g_80_125, gs_nx, db_inx, gs_ldi, gs_lda, gs_ldn, List.getElem?_cons_zero, List.getElem?_cons_succ, List.set_cons_zero, List.set_cons_succ, gx5, fx_int, fx_ref, fx_null, px5, gs_lx, gs_ax, sx5, ft_int, ft_ref, ft_b0, ft_b1, c1_int, c1_ref, List.length_cons, List.length_nil, Nat.reduceAdd, Nat.reduceLT, Nat.reduceLeDiff, true_and, and_true, true_or, or_true, not_false_eq_true, Option.toList_some, Option.toList_none, List.nil_append, List.singleton_append, List.cons_append, ↓reduceIte, Bool.and_self, eq_self, z_max, z_min, nI_add, z_sub, z_dec, z_mul, z_div, z_mod, nI_clamp, z_lt, z_nlt, z_le, z_nle, z_ne, z_eq, z_in, not_true_eq_false, if_true, if_false, hs_at, hs_ne, hs_sort, hset_eq, vupp_eq, hs_over, List.length_set, vup_at, vup_ne, vup_over, vup_sort, mfs_len, n5_f, map_getD, List.length_map, gd_self, gd_ne, Nat.add_sub_cancel]
            exact exit2 _ _ (Or.inl rfl) K
          · simp (disch := first | omega | (simp only [List.length_set]; omega)) only [g_80_0, g_80_1, g_80_4, g_80_8, g_80_9, g_80_12, g_80_13, g_80_16, g_80_20, g_80_21, g_80_25, g_80_26, g_80_28, g_80_29, g_80_33, g_80_36, g_80_39, g_80_41, g_80_44, g_80_45, g_80_48, g_80_51, g_80_54, g_80_55, g_80_59, g_80_61, g_80_64, g_80_68, g_80_74, g_80_75, g_80_79, g_80_80, g_80_83, g_80_86, g_80_89, g_80_90, g_80_96, g_80_99, g_80_100, g_80_103, g_80_108, g_80_109, g_80_110, g_80_113, g_80_118, g_80_119, g_80_122, g_80_125, gs_nx, db_inx, gs_ldi, gs_lda, gs_ldn, List.getElem?_cons_zero, List.getElem?_cons_succ, List.set_cons_zero, List.set_cons_succ, gx5, fx_int, fx_ref, fx_null, px5, gs_lx, gs_ax, sx5, ft_int, ft_ref, ft_b0, ft_b1, c1_int, c1_ref, List.length_cons, List.length_nil, Nat.reduceAdd, Nat.reduceLT, Nat.reduceLeDiff, true_and, and_true, true_or, or_true, not_false_eq_true, Option.toList_some, Option.toList_none, List.nil_append, List.singleton_append, List.cons_append, ↓reduceIte, Bool.and_self, eq_self, z_max, z_min, nI_add, z_sub, z_dec, z_mul, z_div, z_mod, nI_clamp, z_lt, z_nlt, z_le, z_nle, z_ne, z_eq, z_in, not_true_eq_false, if_true, if_false, hs_at, hs_ne, hs_sort, hset_eq, vupp_eq, hs_over, List.length_set, vup_at, vup_ne, vup_over, vup_sort, mfs_len, n5_f, map_getD, List.length_map, gd_self, gd_ne, Nat.add_sub_cancel]
            exact exit2 _ _ (Or.inl rfl) K
        · rw [if_neg q3] at K
          rw [if_neg q3]
          simp (disch := first | omega | (simp only [List.length_set]; omega)) only [g_80_0, g_80_1, g_80_4, g_80_8, g_80_9, g_80_12, g_80_13, g_80_16, g_80_20, g_80_21, g_80_25, g_80_26, g_80_28, g_80_29, g_80_33, g_80_36, g_80_39, g_80_41, g_80_44, g_80_45, g_80_48, g_80_51, g_80_54, g_80_55, g_80_59, g_80_61, g_80_64, g_80_68, g_80_74, g_80_75, g_80_79, g_80_80, g_80_83, g_80_86, g_80_89, g_80_90, g_80_96, g_80_99, g_80_100, g_80_103, g_80_108, g_80_109, g_80_110, g_80_113, g_80_118, g_80_119, g_80_122, g_80_125, gs_nx, db_inx, gs_ldi, gs_lda, gs_ldn, List.getElem?_cons_zero, List.getElem?_cons_succ, List.set_cons_zero, List.set_cons_succ, gx5, fx_int, fx_ref, fx_null, px5, gs_lx, gs_ax, sx5, ft_int, ft_ref, ft_b0, ft_b1, c1_int, c1_ref, List.length_cons, List.length_nil, Nat.reduceAdd, Nat.reduceLT, Nat.reduceLeDiff, true_and, and_true, true_or, or_true, not_false_eq_true, Option.toList_some, Option.toList_none, List.nil_append, List.singleton_append, List.cons_append, ↓reduceIte, Bool.and_self, eq_self, z_max, z_min, nI_add, z_sub, z_dec, z_mul, z_div, z_mod, nI_clamp, z_lt, z_nlt, z_le, z_nle, z_ne, z_eq, z_in, not_true_eq_false, if_true, if_false, hs_at, hs_ne, hs_sort, hset_eq, vupp_eq, hs_over, List.length_set, vup_at, vup_ne, vup_over, vup_sort, mfs_len, n5_f, map_getD, List.length_map, gd_self, gd_ne, Nat.add_sub_cancel]
          exact step y _ _ rfl (fun _ => by rw [List.length_append, List.length_singleton]; omega) eN eo K
      · rw [if_neg q2] at K
        have fin : ∀ (z4 : Int32) (z5 : Value), db_Go 80 67 [.ref 71, .ref 8, .int fr, .ref o, .int z4, z5] [] h2 P := fun z4 z5 => K h2 fc2 j2 N2 own2 _ _ F2 fcc fl2 ct sz X2 G2 L2 C2 (fun z => absurd z q2)
        by_cases q3 : a.1 = 1
        · rw [if_pos q3]
          simp (disch := first | omega | (simp only [List.length_set]; omega)) only [g_80_0, g_80_1, g_80_4, g_80_8, g_80_9, g_80_12, g_80_13, g_80_16, g_80_20, g_80_21, g_80_25, g_80_26, g_80_28, g_80_29, g_80_33, g_80_36, g_80_39, g_80_41, g_80_44, g_80_45, g_80_48, g_80_51, g_80_54, g_80_55, g_80_59, g_80_61, g_80_64, g_80_68, g_80_74, g_80_75, g_80_79, g_80_80, g_80_83, g_80_86, g_80_89, g_80_90, g_80_96, g_80_99, g_80_100, g_80_103, g_80_108, g_80_109, g_80_110, g_80_113, g_80_118, g_80_119, g_80_122, g_80_125, gs_nx, db_inx, gs_ldi, gs_lda, gs_ldn, List.getElem?_cons_zero, List.getElem?_cons_succ, List.set_cons_zero, List.set_cons_succ, gx5, fx_int, fx_ref, fx_null, px5, gs_lx, gs_ax, sx5, ft_int, ft_ref, ft_b0, ft_b1, c1_int, c1_ref, List.length_cons, List.length_nil, Nat.reduceAdd, Nat.reduceLT, Nat.reduceLeDiff, true_and, and_true, true_or, or_true, not_false_eq_true, Option.toList_some, Option.toList_none, List.nil_append, List.singleton_append, List.cons_append, ↓reduceIte, Bool.and_self, eq_self, z_max, z_min, nI_add, z_sub, z_dec, z_mul, z_div, z_mod, nI_clamp, z_lt, z_nlt, z_le, z_nle, z_ne, z_eq, z_in, not_true_eq_false, if_true, if_false, hs_at, hs_ne, hs_sort, hset_eq, vupp_eq, hs_over, List.length_set, vup_at, vup_ne, vup_over, vup_sort, mfs_len, n5_f, map_getD, List.length_map, gd_self, gd_ne, Nat.add_sub_cancel]
          rw [g_80_31]
          by_cases q4 : i + 1 < 321
          · simp (disch := first | omega | (simp only [List.length_set]; omega)) only [g_80_0, g_80_1, g_80_4, g_80_8, g_80_9, g_80_12, g_80_13, g_80_16, g_80_20, g_80_21, g_80_25, g_80_26, g_80_28, g_80_29, g_80_33, g_80_36, g_80_39, g_80_41, g_80_44, g_80_45, g_80_48, g_80_51, g_80_54, g_80_55, g_80_59, g_80_61, g_80_64, g_80_68, g_80_74, g_80_75, g_80_79, g_80_80, g_80_83, g_80_86, g_80_89, g_80_90, g_80_96, g_80_99, g_80_100, g_80_103, g_80_108, g_80_109, g_80_110, g_80_113, g_80_118, g_80_119, g_80_122, g_80_125, gs_nx, db_inx, gs_ldi, gs_lda, gs_ldn, List.getElem?_cons_zero, List.getElem?_cons_succ, List.set_cons_zero, List.set_cons_succ, gx5, fx_int, fx_ref, fx_null, px5, gs_lx, gs_ax, sx5, ft_int, ft_ref, ft_b0, ft_b1, c1_int, c1_ref, List.length_cons, List.length_nil, Nat.reduceAdd, Nat.reduceLT, Nat.reduceLeDiff, true_and, and_true, true_or, or_true, not_false_eq_true, Option.toList_some, Option.toList_none, List.nil_append, List.singleton_append, List.cons_append, ↓reduceIte, Bool.and_self, eq_self, z_max, z_min, nI_add, z_sub, z_dec, z_mul, z_div, z_mod, nI_clamp, z_lt, z_nlt, z_le, z_nle, z_ne, z_eq, z_in, not_true_eq_false, if_true, if_false, hs_at, hs_ne, hs_sort, hset_eq, vupp_eq, hs_over, List.length_set, vup_at, vup_ne, vup_over, vup_sort, mfs_len, n5_f, map_getD, List.length_map, gd_self, gd_ne, Nat.add_sub_cancel]
            exact fin _ _
          · simp (disch := first | omega | (simp only [List.length_set]; omega)) only [g_80_0, g_80_1, g_80_4, g_80_8, g_80_9, g_80_12, g_80_13, g_80_16, g_80_20, g_80_21, g_80_25, g_80_26, g_80_28, g_80_29, g_80_33, g_80_36, g_80_39, g_80_41, g_80_44, g_80_45, g_80_48, g_80_51, g_80_54, g_80_55, g_80_59, g_80_61, g_80_64, g_80_68, g_80_74, g_80_75, g_80_79, g_80_80, g_80_83, g_80_86, g_80_89, g_80_90, g_80_96, g_80_99, g_80_100, g_80_103, g_80_108, g_80_109, g_80_110, g_80_113, g_80_118, g_80_119, g_80_122, g_80_125, gs_nx, db_inx, gs_ldi, gs_lda, gs_ldn, List.getElem?_cons_zero, List.getElem?_cons_succ, List.set_cons_zero, List.set_cons_succ, gx5, fx_int, fx_ref, fx_null, px5, gs_lx, gs_ax, sx5, ft_int, ft_ref, ft_b0, ft_b1, c1_int, c1_ref, List.length_cons, List.length_nil, Nat.reduceAdd, Nat.reduceLT, Nat.reduceLeDiff, true_and, and_true, true_or, or_true, not_false_eq_true, Option.toList_some, Option.toList_none, List.nil_append, List.singleton_append, List.cons_append, ↓reduceIte, Bool.and_self, eq_self, z_max, z_min, nI_add, z_sub, z_dec, z_mul, z_div, z_mod, nI_clamp, z_lt, z_nlt, z_le, z_nle, z_ne, z_eq, z_in, not_true_eq_false, if_true, if_false, hs_at, hs_ne, hs_sort, hset_eq, vupp_eq, hs_over, List.length_set, vup_at, vup_ne, vup_over, vup_sort, mfs_len, n5_f, map_getD, List.length_map, gd_self, gd_ne, Nat.add_sub_cancel]
            exact fin _ _
        · rw [if_neg q3]
          simp (disch := first | omega | (simp only [List.length_set]; omega)) only [g_80_0, g_80_1, g_80_4, g_80_8, g_80_9, g_80_12, g_80_13, g_80_16, g_80_20, g_80_21, g_80_25, g_80_26, g_80_28, g_80_29, g_80_33, g_80_36, g_80_39, g_80_41, g_80_44, g_80_45, g_80_48, g_80_51, g_80_54, g_80_55, g_80_59, g_80_61, g_80_64, g_80_68, g_80_74, g_80_75, g_80_79, g_80_80, g_80_83, g_80_86, g_80_89, g_80_90, g_80_96, g_80_99, g_80_100, g_80_103, g_80_108, g_80_109, g_80_110, g_80_113, g_80_118, g_80_119, g_80_122, g_80_125, gs_nx, db_inx, gs_ldi, gs_lda, gs_ldn, List.getElem?_cons_zero, List.getElem?_cons_succ, List.set_cons_zero, List.set_cons_succ, gx5, fx_int, fx_ref, fx_null, px5, gs_lx, gs_ax, sx5, ft_int, ft_ref, ft_b0, ft_b1, c1_int, c1_ref, List.length_cons, List.length_nil, Nat.reduceAdd, Nat.reduceLT, Nat.reduceLeDiff, true_and, and_true, true_or, or_true, not_false_eq_true, Option.toList_some, Option.toList_none, List.nil_append, List.singleton_append, List.cons_append, ↓reduceIte, Bool.and_self, eq_self, z_max, z_min, nI_add, z_sub, z_dec, z_mul, z_div, z_mod, nI_clamp, z_lt, z_nlt, z_le, z_nle, z_ne, z_eq, z_in, not_true_eq_false, if_true, if_false, hs_at, hs_ne, hs_sort, hset_eq, vupp_eq, hs_over, List.length_set, vup_at, vup_ne, vup_over, vup_sort, mfs_len, n5_f, map_getD, List.length_map, gd_self, gd_ne, Nat.add_sub_cancel]
          rw [g_80_31]
          by_cases q4 : i + 1 < 321
          · simp (disch := first | omega | (simp only [List.length_set]; omega)) only [g_80_0, g_80_1, g_80_4, g_80_8, g_80_9, g_80_12, g_80_13, g_80_16, g_80_20, g_80_21, g_80_25, g_80_26, g_80_28, g_80_29, g_80_33, g_80_36, g_80_39, g_80_41, g_80_44, g_80_45, g_80_48, g_80_51, g_80_54, g_80_55, g_80_59, g_80_61, g_80_64, g_80_68, g_80_74, g_80_75, g_80_79, g_80_80, g_80_83, g_80_86, g_80_89, g_80_90, g_80_96, g_80_99, g_80_100, g_80_103, g_80_108, g_80_109, g_80_110, g_80_113, g_80_118, g_80_119, g_80_122, g_80_125, gs_nx, db_inx, gs_ldi, gs_lda, gs_ldn, List.getElem?_cons_zero, List.getElem?_cons_succ, List.set_cons_zero, List.set_cons_succ, gx5, fx_int, fx_ref, fx_null, px5, gs_lx, gs_ax, sx5, ft_int, ft_ref, ft_b0, ft_b1, c1_int, c1_ref, List.length_cons, List.length_nil, Nat.reduceAdd, Nat.reduceLT, Nat.reduceLeDiff, true_and, and_true, true_or, or_true, not_false_eq_true, Option.toList_some, Option.toList_none, List.nil_append, List.singleton_append, List.cons_append, ↓reduceIte, Bool.and_self, eq_self, z_max, z_min, nI_add, z_sub, z_dec, z_mul, z_div, z_mod, nI_clamp, z_lt, z_nlt, z_le, z_nle, z_ne, z_eq, z_in, not_true_eq_false, if_true, if_false, hs_at, hs_ne, hs_sort, hset_eq, vupp_eq, hs_over, List.length_set, vup_at, vup_ne, vup_over, vup_sort, mfs_len, n5_f, map_getD, List.length_map, gd_self, gd_ne, Nat.add_sub_cancel, o2, r2]
            exact fin _ _
          · simp (disch := first | omega | (simp only [List.length_set]; omega)) only [g_80_0, g_80_1, g_80_4, g_80_8, g_80_9, g_80_12, g_80_13, g_80_16, g_80_20, g_80_21, g_80_25, g_80_26, g_80_28, g_80_29, g_80_33, g_80_36, g_80_39, g_80_41, g_80_44, g_80_45, g_80_48, g_80_51, g_80_54, g_80_55, g_80_59, g_80_61, g_80_64, g_80_68, g_80_74, g_80_75, g_80_79, g_80_80, g_80_83, g_80_86, g_80_89, g_80_90, g_80_96, g_80_99, g_80_100, g_80_103, g_80_108, g_80_109, g_80_110, g_80_113, g_80_118, g_80_119, g_80_122, g_80_125, gs_nx, db_inx, gs_ldi, gs_lda, gs_ldn, List.getElem?_cons_zero, List.getElem?_cons_succ, List.set_cons_zero, List.set_cons_succ, gx5, fx_int, fx_ref, fx_null, px5, gs_lx, gs_ax, sx5, ft_int, ft_ref, ft_b0, ft_b1, c1_int, c1_ref, List.length_cons, List.length_nil, Nat.reduceAdd, Nat.reduceLT, Nat.reduceLeDiff, true_and, and_true, true_or, or_true, not_false_eq_true, Option.toList_some, Option.toList_none, List.nil_append, List.singleton_append, List.cons_append, ↓reduceIte, Bool.and_self, eq_self, z_max, z_min, nI_add, z_sub, z_dec, z_mul, z_div, z_mod, nI_clamp, z_lt, z_nlt, z_le, z_nle, z_ne, z_eq, z_in, not_true_eq_false, if_true, if_false, hs_at, hs_ne, hs_sort, hset_eq, vupp_eq, hs_over, List.length_set, vup_at, vup_ne, vup_over, vup_sort, mfs_len, n5_f, map_getD, List.length_map, gd_self, gd_ne, Nat.add_sub_cancel, o2, r2]
            exact fin _ _
    · rw [if_neg q] at K
      simp (disch := first | omega | (simp only [List.length_set]; omega)) only [g_80_0, g_80_1, g_80_4, g_80_8, g_80_9, g_80_12, g_80_13, g_80_16, g_80_20, g_80_21, g_80_25, g_80_26, g_80_28, g_80_29, g_80_33, g_80_36, g_80_39, g_80_41, g_80_44, g_80_45, g_80_48, g_80_51, g_80_54, g_80_55, g_80_59, g_80_61, g_80_64, g_80_68, g_80_74, g_80_75, g_80_79, g_80_80, g_80_83, g_80_86, g_80_89, g_80_90, g_80_96, g_80_99, g_80_100, g_80_103, g_80_108, g_80_109, g_80_110, g_80_113, g_80_118, g_80_119, g_80_122, g_80_125, gs_nx, db_inx, gs_ldi, gs_lda, gs_ldn, List.getElem?_cons_zero, List.getElem?_cons_succ, List.set_cons_zero, List.set_cons_succ, gx5, fx_int, fx_ref, fx_null, px5, gs_lx, gs_ax, sx5, ft_int, ft_ref, ft_b0, ft_b1, c1_int, c1_ref, List.length_cons, List.length_nil, Nat.reduceAdd, Nat.reduceLT, Nat.reduceLeDiff, true_and, and_true, true_or, or_true, not_false_eq_true, Option.toList_some, Option.toList_none, List.nil_append, List.singleton_append, List.cons_append, ↓reduceIte, Bool.and_self, eq_self, z_max, z_min, nI_add, z_sub, z_dec, z_mul, z_div, z_mod, nI_clamp, z_lt, z_nlt, z_le, z_nle, z_ne, z_eq, z_in, not_true_eq_false, if_true, if_false, hs_at, hs_ne, hs_sort, hset_eq, vupp_eq, hs_over, List.length_set, vup_at, vup_ne, vup_over, vup_sort, mfs_len, n5_f, map_getD, List.length_map, gd_self, gd_ne, Nat.add_sub_cancel, o', r]
      exact K h fc j N own _ _ (FrN_of Fr_refl) (Or.inl rfl) hfl rfl (szr h fc j C) X G L C (fun z => absurd z q)
end CO2
