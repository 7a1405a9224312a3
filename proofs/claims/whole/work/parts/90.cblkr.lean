/-! the class: BLOCKS that are read -/
def bkY (B : List Bool) (k : Nat) (y : List Nat × Rd) : List Nat × Rd := if k = 0 then rPl B y else if k = 1 then spF B fxS fxD 301 y else if k = 2 then spF B (ownF B y.2).1 (ownF B y.2).2.1 301 (y.1, (ownF B y.2).2.2.2) else (y.1, fl 2 y.2)
def bkO (B : List Bool) (k : Nat) (s : Rd) (o : Option Ow) : Option Ow := if k = 2 then some ((ownF B s).1, (ownF B s).2.1, (ownF B s).2.2.1) else o
theorem bkY_m {B : List Bool} {k : Nat} {y : List Nat × Rd} (h8 : B.length % 8 = 0) (h : okR B y.2) : moR B y (bkY B k y) := by
  unfold bkY
  split
  · exact rPl_m h8 h
  · split
    · exact spF_m _ _ h
    · split
      · have o := ownF_m h
        generalize ownF B y.2 = w at *
        have a : moR B y (y.1, w.2.2.2) := ⟨o.1, o.2.1, Nat.le_refl _⟩
        exact moR_tr a (spF_m _ _ a.1)
      · have f := fl_ok (n := 2) h (by decide)
        exact ⟨f.1, f.2, Nat.le_refl _⟩
def FrN (F : List Nat) (h h2 : db_H) : Prop := h.length ≤ h2.length ∧ ∀ k, k < h.length → k ∉ F → h2[k]? = h[k]?
section BR
variable {P : Option Value → db_H → Prop} {B : List Bool}
theorem FrN_of {F : List Nat} {h h2 : db_H} (f : Fr F h h2) : FrN F h h2 := ⟨by rw [f.1]; exact Nat.le_refl _, f.2⟩
theorem FrN_app {F : List Nat} {h h2 : db_H} (f : FrN F h h2) : Fr F (h ++ h2.drop h.length) h2 := by
  refine ⟨by rw [List.length_append, List.length_drop]; have := f.1; omega, fun k hk hF => ?_⟩
  by_cases q : k < h.length
  · rw [List.getElem?_append_left q]
    exact f.2 k q hF
  · rw [List.getElem?_append_right (by omega), List.getElem?_drop, show h.length + (k - h.length) = k by omega]
theorem FrN_get {F : List Nat} {h h2 : db_H} {k : Nat} {c : db_C} (f : FrN F h h2) (hn : k ∉ F) (e : h[k]? = some c) : h2[k]? = some c := (f.2 k (List.getElem?_eq_some_iff.mp e).1 hn).trans e
theorem FrN_ex {F : List Nat} {h h2 ex : db_H} (f : Fr F (h ++ ex) h2) : FrN F h h2 := by
  refine ⟨by rw [f.1, List.length_append]; omega, fun k hk hF => ?_⟩
  rw [f.2 k (by rw [List.length_append]; omega) hF, List.getElem?_append_left hk]
theorem FrN_tr {F G H : List Nat} {h h2 h3 : db_H} (a : FrN F h h2) (b : FrN G h2 h3) (hF : ∀ k, k < h.length → k ∈ F ∨ k ∈ G → k ∈ H) : FrN H h h3 := ⟨Nat.le_trans a.1 b.1, fun k hk hn => (b.2 k (by have := a.1; omega) (fun q => hn (hF k hk (Or.inr q)))).trans (a.2 k hk (fun q => hn (hF k hk (Or.inl q))))⟩
/-- what the Opener keeps -/
def cG (h : db_H) : Prop := cT h ∧ cdW h 76 fxS ∧ cdW h 84 fxD ∧ cOp h
theorem cG_fr {h h2 : db_H} {F : List Nat} (f : Fr F h h2) (hF : (∀ k, k < 4 → k ∉ F) ∧ (∀ k, k < 41 → 76 + k ∉ F)) (A : cG h) : cG h2 := by
  obtain ⟨a, b, c, d⟩ := A
  have q : ∀ k, 76 ≤ k → k < 117 → k ∉ F := fun k h1 h2 => by have := hF.2 (k - 76) (by omega); rwa [show 76 + (k - 76) = k by omega] at this
  exact ⟨cT_fr f hF.1 a, cdW_fr f (fun k hk => q _ (by omega) (by omega)) b, cdW_fr f (fun k hk => q _ (by omega) (by omega)) c, cOp_fr f (fun k hk => q _ (by omega) (by omega)) d⟩
theorem cG_ap {h ex : db_H} (A : cG h) : cG (h ++ ex) := ⟨cT_ap A.1, cdW_ap A.2.1, cdW_ap A.2.2.1, cOp_ap A.2.2.2⟩
theorem g86 {h : db_H} {L S : List Value} {x : Int32} : db_Go 86 47 L (.int x :: S) h P ↔ db_Go 86 (db_tsw x 0 [72, 79, 94] 129) L S h P := g_86_47
theorem tsw3 {k : Nat} (hk : k < 4) : db_tsw (nI k) 0 [72, 79, 94] 129 = if k = 0 then 72 else if k = 1 then 79 else if k = 2 then 94 else 129 := by
  have : ∀ k, k < 4 → db_tsw (nI k) 0 [72, 79, 94] 129 = if k = 0 then 72 else if k = 1 then 79 else if k = 2 then 94 else 129 := by decide +kernel
  exact this k hk
theorem plF_f {x : List Nat × Rd} (h : ¬ x.2.2 = 0) : ∀ n, plF B n x = x
  | 0 => rfl
  | n + 1 => by rw [plF, if_neg h]
theorem rPl_f {x : List Nat × Rd} (h : ¬ x.2.2 = 0) : rPl B x = x := by
  have e : alg x.2 = x.2 := if_neg h
  unfold rPl
  rw [e, rdF_f h, rdF_f h]
  simp only
  rw [fl_f h]
  have : (if 0 + 0 = 65535 then x.2 else x.2) = x.2 := by split <;> rfl
  rw [this]
  rfl
theorem spF_f {ws ds : List Nat} {x : List Nat × Rd} (h : ¬ x.2.2 = 0) : ∀ n, spF B ws ds n x = x
  | 0 => rfl
  | n + 1 => by rw [spF, if_neg h]
/-- readSteps behind a FAULT -/
theorem f90n {h : db_H} {x : List Nat × Rd} {o1 o2 : Nat} (hx : ¬ x.2.2 = 0) (A : cX h B x) (K : P none h) : db_Go 90 0 [.ref 71, .ref o1, .ref o2, .retAddr 0, .retAddr 0] [] h P := by
  have o' := A.2.2
  unfold opO at o'
  have r := cRd_o A.1
  have r9 := A.1.2.2.2.2.2.2
  simp (disch := first | omega | (simp only [List.length_set]; omega)) only [g_90_0, g_90_1, g_90_3, g_90_6, g_90_9, g_90_10, g_90_13, g_90_16, g_90_19, g_90_20, g_90_23, g_90_27, g_90_29, g_90_31, g_90_34, g_90_37, g_90_38, g_90_40, g_90_43, g_90_45, g_90_48, g_90_51, g_90_52, g_90_57, g_90_60, g_90_62, g_90_65, g_90_68, g_90_69, g_90_71, g_90_74, g_90_75, g_90_79, g_90_82, g_90_85, gs_nx, db_inx, gs_ldi, gs_lda, gs_ldn, List.getElem?_cons_zero, List.getElem?_cons_succ, List.set_cons_zero, List.set_cons_succ, gx5, fx_int, fx_ref, fx_null, px5, gs_lx, gs_ax, sx5, ft_int, ft_ref, ft_b0, ft_b1, c1_int, c1_ref, List.length_cons, List.length_nil, Nat.reduceAdd, Nat.reduceLT, Nat.reduceLeDiff, true_and, and_true, true_or, or_true, not_false_eq_true, Option.toList_some, Option.toList_none, List.nil_append, List.singleton_append, List.cons_append, ↓reduceIte, Bool.and_self, eq_self, z_max, z_min, nI_add, z_sub, z_dec, z_mul, z_div, z_mod, nI_clamp, z_lt, z_nlt, z_le, z_nle, z_ne, z_eq, z_in, not_true_eq_false, if_true, if_false, hs_at, hs_ne, hs_sort, hset_eq, vupp_eq, hs_over, List.length_set, vup_at, vup_ne, vup_over, vup_sort, mfs_len, n5_f, map_getD, List.length_map, gd_self, gd_ne, Nat.add_sub_cancel]
  rw [g_90_2]
  simp (disch := first | omega | (simp only [List.length_set]; omega)) only [g_90_0, g_90_1, g_90_3, g_90_6, g_90_9, g_90_10, g_90_13, g_90_16, g_90_19, g_90_20, g_90_23, g_90_27, g_90_29, g_90_31, g_90_34, g_90_37, g_90_38, g_90_40, g_90_43, g_90_45, g_90_48, g_90_51, g_90_52, g_90_57, g_90_60, g_90_62, g_90_65, g_90_68, g_90_69, g_90_71, g_90_74, g_90_75, g_90_79, g_90_82, g_90_85, gs_nx, db_inx, gs_ldi, gs_lda, gs_ldn, List.getElem?_cons_zero, List.getElem?_cons_succ, List.set_cons_zero, List.set_cons_succ, gx5, fx_int, fx_ref, fx_null, px5, gs_lx, gs_ax, sx5, ft_int, ft_ref, ft_b0, ft_b1, c1_int, c1_ref, List.length_cons, List.length_nil, Nat.reduceAdd, Nat.reduceLT, Nat.reduceLeDiff, true_and, and_true, true_or, or_true, not_false_eq_true, Option.toList_some, Option.toList_none, List.nil_append, List.singleton_append, List.cons_append, ↓reduceIte, Bool.and_self, eq_self, z_max, z_min, nI_add, z_sub, z_dec, z_mul, z_div, z_mod, nI_clamp, z_lt, z_nlt, z_le, z_nle, z_ne, z_eq, z_in, not_true_eq_false, if_true, if_false, hs_at, hs_ne, hs_sort, hset_eq, vupp_eq, hs_over, List.length_set, vup_at, vup_ne, vup_over, vup_sort, mfs_len, n5_f, map_getD, List.length_map, gd_self, gd_ne, Nat.add_sub_cancel, o', r]
  exact K
def F86 : List Nat := [72, 74, 75, 92, 93, 94, 95, 96, 97, 98, 99, 100, 101, 102, 103, 104, 105, 106, 107, 108, 109, 110, 111, 112, 113, 114, 115, 116]
theorem F86_n {k : Nat} (h : k < 72 ∨ k = 73 ∨ (76 ≤ k ∧ k < 92) ∨ 117 ≤ k) : k ∉ F86 := by
  unfold F86
  simp only [List.mem_cons, List.not_mem_nil, or_false]
  omega
/-- new cells are rows of at most 1605 -/
def szN (h h2 : db_H) (fc : Nat) : Prop := (∀ k, h.length ≤ k → k < h2.length → ∃ z, h2[k]? = some (.inl (0, z)) ∧ z.length ≤ 1605) ∧ ∃ z, h2[fc]? = some (.inl (0, z)) ∧ z.length ≤ 1605
/-- readBlock -/
theorem f86 {h : db_H} {E : List Nat} {s : Rd} {o fc j : Nat} {N : List Nt} {own : Option Ow} (ho : o = 117 ∨ o = 122) (hf : 117 < fc) (hd : ¬ fc = o ∧ ¬ fc = o + 2 ∧ ¬ fc = o + 3 ∧ ¬ fc = o + 4) (hfl : fc < h.length) (X : cX h B (E, s)) (G : cG h) (L : cL h o fc N own) (hj : cap h fc j) (hN : N.length ≤ 320)
    (K : ∀ h2 fc2 j2 N2 own2, FrN (F86 ++ [o, o + 2, o + 3, o + 4, fc]) h h2 → (fc2 = fc ∨ h.length ≤ fc2) → fc2 < h2.length → h2.length + j = h.length + j2 → szN h h2 fc → cX h2 B (bkY B (rdF B 2 (rdF B 1 s).2).1 (E, (rdF B 2 (rdF B 1 s).2).2)) → cG h2 → cL h2 o fc2 N2 own2 → cap h2 fc2 j2 → N2.length = N.length + 1 → ((bkY B (rdF B 2 (rdF B 1 s).2).1 (E, (rdF B 2 (rdF B 1 s).2).2)).2.2 = 0 → N2 = N ++ [((rdF B 2 (rdF B 1 s).2).1, E.length, (bkY B (rdF B 2 (rdF B 1 s).2).1 (E, (rdF B 2 (rdF B 1 s).2).2)).1.length - E.length, s.1, (bkY B (rdF B 2 (rdF B 1 s).2).1 (E, (rdF B 2 (rdF B 1 s).2).2)).2.1 - s.1)] ∧ own2 = bkO B (rdF B 2 (rdF B 1 s).2).1 (rdF B 2 (rdF B 1 s).2).2 own) → P (some (.int (if (rdF B 1 s).1 = 1 then nI 1 else nI 0))) h2) : db_Go 86 0 [.ref 71, .ref o, .retAddr 0, .retAddr 0, .retAddr 0, .retAddr 0] [] h P := by
  have ho2 : 117 ≤ o ∧ o ≤ 122 := by omega
  have n0 := @n5_ge o (by omega)
  have o' := X.2.2
  unfold opO at o'
  have r := cRd_o X.1
  simp only at r
  have s1le := X.1.2.2.2.2.2.1
  have Ble := X.1.2.2.2.2.1
  simp only at s1le
  obtain ⟨l, e1, e2, e3, e4, e5, e6⟩ := X.2.1
  simp only at e1 e4
  simp (disch := first | omega | (simp only [List.length_set]; omega)) only [g_86_0, g_86_1, g_86_4, g_86_7, g_86_8, g_86_9, g_86_12, g_86_15, g_86_16, g_86_17, g_86_20, g_86_24, g_86_25, g_86_28, g_86_29, g_86_32, g_86_33, g_86_35, g_86_36, g_86_39, g_86_43, g_86_45, g_86_72, g_86_76, g_86_79, g_86_80, g_86_81, g_86_84, g_86_85, g_86_91, g_86_94, g_86_98, g_86_99, g_86_100, g_86_103, g_86_104, g_86_110, g_86_111, g_86_112, g_86_115, g_86_116, g_86_119, g_86_120, g_86_126, g_86_129, g_86_130, g_86_133, g_86_137, g_86_138, g_86_140, g_86_141, g_86_142, g_86_145, g_86_148, g_86_149, g_86_150, g_86_151, g_86_152, g_86_155, g_86_158, g_86_159, g_86_163, g_86_165, gs_nx, db_inx, gs_ldi, gs_lda, gs_ldn, List.getElem?_cons_zero, List.getElem?_cons_succ, List.set_cons_zero, List.set_cons_succ, gx5, fx_int, fx_ref, fx_null, px5, gs_lx, gs_ax, sx5, ft_int, ft_ref, ft_b0, ft_b1, c1_int, c1_ref, List.length_cons, List.length_nil, Nat.reduceAdd, Nat.reduceLT, Nat.reduceLeDiff, true_and, and_true, true_or, or_true, not_false_eq_true, Option.toList_some, Option.toList_none, List.nil_append, List.singleton_append, List.cons_append, ↓reduceIte, Bool.and_self, eq_self, z_max, z_min, nI_add, z_sub, z_dec, z_mul, z_div, z_mod, nI_clamp, z_lt, z_nlt, z_le, z_nle, z_ne, z_eq, z_in, not_true_eq_false, if_true, if_false, hs_at, hs_ne, hs_sort, hset_eq, vupp_eq, hs_over, List.length_set, vup_at, vup_ne, vup_over, vup_sort, mfs_len, n5_f, map_getD, List.length_map, gd_self, gd_ne, Nat.add_sub_cancel, o', r, e1]
  refine c_86_21 (by simp) (n5_ge (by decide)) r ?_
  refine f83 (by decide) X.1 (fun h2 F2 R2 => ?_)
  have X2 : cX h2 B (E, (rdF B 1 s).2) := cX_rd2 F2 X R2
  have l1 := @rdF_lt B 1 s
  have hm1 := (@rdF_ok B 1 s X.1.2.2.2.2.2).2
  simp only at *
  generalize rdF B 1 s = a at *
  have o2 := Fr_get F2 (by decide) o'
  have main : ∀ (v : Int32), v = (if a.1 = 1 then nI 1 else nI 0) → db_Go 86 33 [.ref 71, .ref o, .int (nI s.1), .int (nI E.length), .retAddr 0, .retAddr 0] [.int v] h2 P := by
    intro v ev
    simp (disch := first | omega | (simp only [List.length_set]; omega)) only [g_86_0, g_86_1, g_86_4, g_86_7, g_86_8, g_86_9, g_86_12, g_86_15, g_86_16, g_86_17, g_86_20, g_86_24, g_86_25, g_86_28, g_86_29, g_86_32, g_86_33, g_86_35, g_86_36, g_86_39, g_86_43, g_86_45, g_86_72, g_86_76, g_86_79, g_86_80, g_86_81, g_86_84, g_86_85, g_86_91, g_86_94, g_86_98, g_86_99, g_86_100, g_86_103, g_86_104, g_86_110, g_86_111, g_86_112, g_86_115, g_86_116, g_86_119, g_86_120, g_86_126, g_86_129, g_86_130, g_86_133, g_86_137, g_86_138, g_86_140, g_86_141, g_86_142, g_86_145, g_86_148, g_86_149, g_86_150, g_86_151, g_86_152, g_86_155, g_86_158, g_86_159, g_86_163, g_86_165, gs_nx, db_inx, gs_ldi, gs_lda, gs_ldn, List.getElem?_cons_zero, List.getElem?_cons_succ, List.set_cons_zero, List.set_cons_succ, gx5, fx_int, fx_ref, fx_null, px5, gs_lx, gs_ax, sx5, ft_int, ft_ref, ft_b0, ft_b1, c1_int, c1_ref, List.length_cons, List.length_nil, Nat.reduceAdd, Nat.reduceLT, Nat.reduceLeDiff, true_and, and_true, true_or, or_true, not_false_eq_true, Option.toList_some, Option.toList_none, List.nil_append, List.singleton_append, List.cons_append, ↓reduceIte, Bool.and_self, eq_self, z_max, z_min, nI_add, z_sub, z_dec, z_mul, z_div, z_mod, nI_clamp, z_lt, z_nlt, z_le, z_nle, z_ne, z_eq, z_in, not_true_eq_false, if_true, if_false, hs_at, hs_ne, hs_sort, hset_eq, vupp_eq, hs_over, List.length_set, vup_at, vup_ne, vup_over, vup_sort, mfs_len, n5_f, map_getD, List.length_map, gd_self, gd_ne, Nat.add_sub_cancel, o2]
    refine c_86_40 (by simp) (n5_ge (by decide)) (cRd_o X2.1) ?_
    refine f83 (by decide) X2.1 (fun h3 F3 R3 => ?_)
    have X3 : cX h3 B (E, (rdF B 2 a.2).2) := cX_rd2 F3 X2 R3
    have l2 := @rdF_lt B 2 a.2
    have hm2 := (@rdF_ok B 2 a.2 R2.2.2.2.2.2).2
    simp only at *
    generalize rdF B 2 a.2 = t at *
    have o3 := Fr_get F3 (by decide) o2
    have F3' : Fr [72] h h3 := Fr_tr F2 F3
    have G3 := cG_fr F3' (by decide) G
    have L3 := cL_fr F3' (by simp; omega) L
    have C3 := cap_fr F3' (by simp; omega) hj
    have tail : ∀ (h5 : db_H) (y : List Nat × Rd) (own5 : Option Ow), Fr (F86 ++ [o, o + 2, o + 3, o + 4]) h3 h5 → cX h5 B y → cG h5 → cL h5 o fc N own5 → y = bkY B t.1 (E, t.2) → (y.2.2 = 0 → own5 = bkO B t.1 t.2 own) → db_Go 86 137 [.ref 71, .ref o, .int (nI s.1), .int (nI E.length), .int v, .int (nI t.1)] [] h5 P := by
      intro h5 y own5 F5 X5 G5 L5 ey eo
      rw [← ey] at K
      have o5 := X5.2.2
      unfold opO at o5
      have r5 := cRd_o X5.1
      obtain ⟨l5, f1, f2, f3, f4, f5, f6⟩ := X5.2.1
      have y1 := X5.1.2.2.2.2.2.1
      have F5' : Fr (F86 ++ [o, o + 2, o + 3, o + 4]) h h5 := Fr_tr (Fr_mono F3' (by unfold F86; simp)) F5
      have C5 := cap_fr F5 (by unfold F86; simp only [List.mem_append, List.mem_cons, List.not_mem_nil, or_false]; omega) C3
      have bm := bkY_m (k := t.1) (y := (E, t.2)) X.1.2.2.2.1 R3.2.2.2.2.2
      rw [← ey] at bm
      have a1le := (hm1 : s.1 ≤ a.2.1)
      have t1le := (hm2 : a.2.1 ≤ t.2.1)
      have lm : E.length ≤ y.1.length ∧ s.1 ≤ y.2.1 := ⟨bm.2.2, Nat.le_trans (Nat.le_trans a1le t1le) bm.2.1⟩
      simp (disch := first | omega | (simp only [List.length_set]; omega)) only [g_86_0, g_86_1, g_86_4, g_86_7, g_86_8, g_86_9, g_86_12, g_86_15, g_86_16, g_86_17, g_86_20, g_86_24, g_86_25, g_86_28, g_86_29, g_86_32, g_86_33, g_86_35, g_86_36, g_86_39, g_86_43, g_86_45, g_86_72, g_86_76, g_86_79, g_86_80, g_86_81, g_86_84, g_86_85, g_86_91, g_86_94, g_86_98, g_86_99, g_86_100, g_86_103, g_86_104, g_86_110, g_86_111, g_86_112, g_86_115, g_86_116, g_86_119, g_86_120, g_86_126, g_86_129, g_86_130, g_86_133, g_86_137, g_86_138, g_86_140, g_86_141, g_86_142, g_86_145, g_86_148, g_86_149, g_86_150, g_86_151, g_86_152, g_86_155, g_86_158, g_86_159, g_86_163, g_86_165, gs_nx, db_inx, gs_ldi, gs_lda, gs_ldn, List.getElem?_cons_zero, List.getElem?_cons_succ, List.set_cons_zero, List.set_cons_succ, gx5, fx_int, fx_ref, fx_null, px5, gs_lx, gs_ax, sx5, ft_int, ft_ref, ft_b0, ft_b1, c1_int, c1_ref, List.length_cons, List.length_nil, Nat.reduceAdd, Nat.reduceLT, Nat.reduceLeDiff, true_and, and_true, true_or, or_true, not_false_eq_true, Option.toList_some, Option.toList_none, List.nil_append, List.singleton_append, List.cons_append, ↓reduceIte, Bool.and_self, eq_self, z_max, z_min, nI_add, z_sub, z_dec, z_mul, z_div, z_mod, nI_clamp, z_lt, z_nlt, z_le, z_nle, z_ne, z_eq, z_in, not_true_eq_false, if_true, if_false, hs_at, hs_ne, hs_sort, hset_eq, vupp_eq, hs_over, List.length_set, vup_at, vup_ne, vup_over, vup_sort, mfs_len, n5_f, map_getD, List.length_map, gd_self, gd_ne, Nat.add_sub_cancel, o5, r5, f1]
      refine c_86_160 (by simp) n0 L5.1 ?_
      refine f68g ho2 hf hd.1 hd.2 X5.1.1 L5 C5 hN (fun h6 ex fc2 j2 F6 L6 C6 gr => ?_)
      have lex := F6.1
      rw [List.length_append] at lex
      have l5h := F5'.1
      simp (disch := first | omega | (simp only [List.length_set]; omega)) only [g_86_0, g_86_1, g_86_4, g_86_7, g_86_8, g_86_9, g_86_12, g_86_15, g_86_16, g_86_17, g_86_20, g_86_24, g_86_25, g_86_28, g_86_29, g_86_32, g_86_33, g_86_35, g_86_36, g_86_39, g_86_43, g_86_45, g_86_72, g_86_76, g_86_79, g_86_80, g_86_81, g_86_84, g_86_85, g_86_91, g_86_94, g_86_98, g_86_99, g_86_100, g_86_103, g_86_104, g_86_110, g_86_111, g_86_112, g_86_115, g_86_116, g_86_119, g_86_120, g_86_126, g_86_129, g_86_130, g_86_133, g_86_137, g_86_138, g_86_140, g_86_141, g_86_142, g_86_145, g_86_148, g_86_149, g_86_150, g_86_151, g_86_152, g_86_155, g_86_158, g_86_159, g_86_163, g_86_165, gs_nx, db_inx, gs_ldi, gs_lda, gs_ldn, List.getElem?_cons_zero, List.getElem?_cons_succ, List.set_cons_zero, List.set_cons_succ, gx5, fx_int, fx_ref, fx_null, px5, gs_lx, gs_ax, sx5, ft_int, ft_ref, ft_b0, ft_b1, c1_int, c1_ref, List.length_cons, List.length_nil, Nat.reduceAdd, Nat.reduceLT, Nat.reduceLeDiff, true_and, and_true, true_or, or_true, not_false_eq_true, Option.toList_some, Option.toList_none, List.nil_append, List.singleton_append, List.cons_append, ↓reduceIte, Bool.and_self, eq_self, z_max, z_min, nI_add, z_sub, z_dec, z_mul, z_div, z_mod, nI_clamp, z_lt, z_nlt, z_le, z_nle, z_ne, z_eq, z_in, not_true_eq_false, if_true, if_false, hs_at, hs_ne, hs_sort, hset_eq, vupp_eq, hs_over, List.length_set, vup_at, vup_ne, vup_over, vup_sort, mfs_len, n5_f, map_getD, List.length_map, gd_self, gd_ne, Nat.add_sub_cancel]
      rw [ev]
      refine ⟨by split <;> simp, ?_⟩
      have N5 : FrN (F86 ++ [o, o + 2, o + 3, o + 4]) h h5 := FrN_of F5'
      have N6 : FrN [o, fc2] h5 h6 := FrN_ex F6
      have fcc : fc2 = fc ∨ h.length ≤ fc2 := by
        rcases gr with ⟨_, g, _⟩ | ⟨z, _, _, g, _⟩
        · exact Or.inl g
        · right
          omega
      have Xa := cX_ap (ex := ex) X5
      have Ga := cG_ap (ex := ex) G5
      have fcb : 117 < fc2 := by omega
      refine K h6 fc2 j2 _ own5 (FrN_tr N5 N6 ?_) fcc ?_ ?_ ?_ (cX_fr F6 (by simp; omega) Xa) (cG_fr F6 ⟨fun k hk => by simp; omega, fun k hk => by simp; omega⟩ Ga) L6 C6 (by rw [List.length_append, List.length_singleton]) (fun z => ⟨rfl, eo z⟩)
      · intro k hk q
        simp only [List.mem_append, List.mem_cons, List.not_mem_nil, or_false] at q ⊢
        rcases q with q | q | q
        · rcases q with q | q
          · exact Or.inl q
          · right
            omega
        · right
          omega
        · right
          omega
      · obtain ⟨fa, c1, _⟩ := C6
        exact (List.getElem?_eq_some_iff.mp c1).1
      · rcases gr with ⟨g1, g2, g3⟩ | ⟨z, g1, g2, g3, g4⟩
        · rw [g1] at lex
          simp at lex
          omega
        · rw [g1] at lex
          simp at lex
          omega
      · rcases gr with ⟨g1, g2, g3⟩ | ⟨z, g1, g2, g3, g4⟩
        · rw [g1] at lex
          simp at lex
          obtain ⟨fa, c1, c2, _⟩ := C6
          rw [g2] at c1
          exact ⟨fun k k1 k2 => by omega, fa, c1, by omega⟩
        · obtain ⟨fb, b1, b2, _⟩ := C5
          have b1 := FrN_get N6 (by simp; omega) b1
          rw [g1] at lex
          simp at lex
          obtain ⟨fa, c1, c2, _⟩ := C6
          refine ⟨fun k k1 k2 => ?_, fb, b1, by omega⟩
          have : k = fc2 := by omega
          rw [this]
          exact ⟨fa, c1, by omega⟩
    have E0 : Fr FX h3 h3 := Fr_refl
    simp (disch := first | omega | (simp only [List.length_set]; omega)) only [g_86_0, g_86_1, g_86_4, g_86_7, g_86_8, g_86_9, g_86_12, g_86_15, g_86_16, g_86_17, g_86_20, g_86_24, g_86_25, g_86_28, g_86_29, g_86_32, g_86_33, g_86_35, g_86_36, g_86_39, g_86_43, g_86_45, g_86_72, g_86_76, g_86_79, g_86_80, g_86_81, g_86_84, g_86_85, g_86_91, g_86_94, g_86_98, g_86_99, g_86_100, g_86_103, g_86_104, g_86_110, g_86_111, g_86_112, g_86_115, g_86_116, g_86_119, g_86_120, g_86_126, g_86_129, g_86_130, g_86_133, g_86_138, g_86_140, g_86_141, g_86_142, g_86_145, g_86_148, g_86_149, g_86_150, g_86_151, g_86_152, g_86_155, g_86_158, g_86_159, g_86_163, g_86_165, gs_nx, db_inx, gs_ldi, gs_lda, gs_ldn, List.getElem?_cons_zero, List.getElem?_cons_succ, List.set_cons_zero, List.set_cons_succ, gx5, fx_int, fx_ref, fx_null, px5, gs_lx, gs_ax, sx5, ft_int, ft_ref, ft_b0, ft_b1, c1_int, c1_ref, List.length_cons, List.length_nil, Nat.reduceAdd, Nat.reduceLT, Nat.reduceLeDiff, true_and, and_true, true_or, or_true, not_false_eq_true, Option.toList_some, Option.toList_none, List.nil_append, List.singleton_append, List.cons_append, ↓reduceIte, Bool.and_self, eq_self, z_max, z_min, nI_add, z_sub, z_dec, z_mul, z_div, z_mod, nI_clamp, z_lt, z_nlt, z_le, z_nle, z_ne, z_eq, z_in, not_true_eq_false, if_true, if_false, hs_at, hs_ne, hs_sort, hset_eq, vupp_eq, hs_over, List.length_set, vup_at, vup_ne, vup_over, vup_sort, mfs_len, n5_f, map_getD, List.length_map, gd_self, gd_ne, Nat.add_sub_cancel]
    rw [g86, tsw3 (by omega)]
    unfold bkY bkO at tail
    simp only at tail
    by_cases k0 : t.1 = 0
    · rw [if_pos k0]
      rw [if_pos k0, if_neg (by omega)] at tail
      simp (disch := first | omega | (simp only [List.length_set]; omega)) only [g_86_0, g_86_1, g_86_4, g_86_7, g_86_8, g_86_9, g_86_12, g_86_15, g_86_16, g_86_17, g_86_20, g_86_24, g_86_25, g_86_28, g_86_29, g_86_32, g_86_33, g_86_35, g_86_36, g_86_39, g_86_43, g_86_45, g_86_72, g_86_76, g_86_79, g_86_80, g_86_81, g_86_84, g_86_85, g_86_91, g_86_94, g_86_98, g_86_99, g_86_100, g_86_103, g_86_104, g_86_110, g_86_111, g_86_112, g_86_115, g_86_116, g_86_119, g_86_120, g_86_126, g_86_129, g_86_130, g_86_133, g_86_138, g_86_140, g_86_141, g_86_142, g_86_145, g_86_148, g_86_149, g_86_150, g_86_151, g_86_152, g_86_155, g_86_158, g_86_159, g_86_163, g_86_165, gs_nx, db_inx, gs_ldi, gs_lda, gs_ldn, List.getElem?_cons_zero, List.getElem?_cons_succ, List.set_cons_zero, List.set_cons_succ, gx5, fx_int, fx_ref, fx_null, px5, gs_lx, gs_ax, sx5, ft_int, ft_ref, ft_b0, ft_b1, c1_int, c1_ref, List.length_cons, List.length_nil, Nat.reduceAdd, Nat.reduceLT, Nat.reduceLeDiff, true_and, and_true, true_or, or_true, not_false_eq_true, Option.toList_some, Option.toList_none, List.nil_append, List.singleton_append, List.cons_append, ↓reduceIte, Bool.and_self, eq_self, z_max, z_min, nI_add, z_sub, z_dec, z_mul, z_div, z_mod, nI_clamp, z_lt, z_nlt, z_le, z_nle, z_ne, z_eq, z_in, not_true_eq_false, if_true, if_false, hs_at, hs_ne, hs_sort, hset_eq, vupp_eq, hs_over, List.length_set, vup_at, vup_ne, vup_over, vup_sort, mfs_len, n5_f, map_getD, List.length_map, gd_self, gd_ne, Nat.add_sub_cancel]
      refine c_86_73 (by simp) (n5_ge (by decide)) X3.2.2 ?_
      refine f87 X3 (fun h4 F4 X4 => ?_)
      simp (disch := first | omega | (simp only [List.length_set]; omega)) only [g_86_0, g_86_1, g_86_4, g_86_7, g_86_8, g_86_9, g_86_12, g_86_15, g_86_16, g_86_17, g_86_20, g_86_24, g_86_25, g_86_28, g_86_29, g_86_32, g_86_33, g_86_35, g_86_36, g_86_39, g_86_43, g_86_45, g_86_72, g_86_76, g_86_79, g_86_80, g_86_81, g_86_84, g_86_85, g_86_91, g_86_94, g_86_98, g_86_99, g_86_100, g_86_103, g_86_104, g_86_110, g_86_111, g_86_112, g_86_115, g_86_116, g_86_119, g_86_120, g_86_126, g_86_129, g_86_130, g_86_133, g_86_138, g_86_140, g_86_141, g_86_142, g_86_145, g_86_148, g_86_149, g_86_150, g_86_151, g_86_152, g_86_155, g_86_158, g_86_159, g_86_163, g_86_165, gs_nx, db_inx, gs_ldi, gs_lda, gs_ldn, List.getElem?_cons_zero, List.getElem?_cons_succ, List.set_cons_zero, List.set_cons_succ, gx5, fx_int, fx_ref, fx_null, px5, gs_lx, gs_ax, sx5, ft_int, ft_ref, ft_b0, ft_b1, c1_int, c1_ref, List.length_cons, List.length_nil, Nat.reduceAdd, Nat.reduceLT, Nat.reduceLeDiff, true_and, and_true, true_or, or_true, not_false_eq_true, Option.toList_some, Option.toList_none, List.nil_append, List.singleton_append, List.cons_append, ↓reduceIte, Bool.and_self, eq_self, z_max, z_min, nI_add, z_sub, z_dec, z_mul, z_div, z_mod, nI_clamp, z_lt, z_nlt, z_le, z_nle, z_ne, z_eq, z_in, not_true_eq_false, if_true, if_false, hs_at, hs_ne, hs_sort, hset_eq, vupp_eq, hs_over, List.length_set, vup_at, vup_ne, vup_over, vup_sort, mfs_len, n5_f, map_getD, List.length_map, gd_self, gd_ne, Nat.add_sub_cancel]
      exact tail h4 _ own (Fr_mono F4 (by unfold F86 FX; simp)) X4 (cG_fr F4 (by decide) G3) (cL_fr F4 (by unfold FX; simp; omega) L3) rfl (fun _ => rfl)
    · rw [if_neg k0]
      rw [if_neg k0] at tail
      by_cases k1 : t.1 = 1
      · rw [if_pos k1]
        rw [if_pos k1, if_neg (by omega)] at tail
        simp (disch := first | omega | (simp only [List.length_set]; omega)) only [g_86_0, g_86_1, g_86_4, g_86_7, g_86_8, g_86_9, g_86_12, g_86_15, g_86_16, g_86_17, g_86_20, g_86_24, g_86_25, g_86_28, g_86_29, g_86_32, g_86_33, g_86_35, g_86_36, g_86_39, g_86_43, g_86_45, g_86_72, g_86_76, g_86_79, g_86_80, g_86_81, g_86_84, g_86_85, g_86_91, g_86_94, g_86_98, g_86_99, g_86_100, g_86_103, g_86_104, g_86_110, g_86_111, g_86_112, g_86_115, g_86_116, g_86_119, g_86_120, g_86_126, g_86_129, g_86_130, g_86_133, g_86_138, g_86_140, g_86_141, g_86_142, g_86_145, g_86_148, g_86_149, g_86_150, g_86_151, g_86_152, g_86_155, g_86_158, g_86_159, g_86_163, g_86_165, gs_nx, db_inx, gs_ldi, gs_lda, gs_ldn, List.getElem?_cons_zero, List.getElem?_cons_succ, List.set_cons_zero, List.set_cons_succ, gx5, fx_int, fx_ref, fx_null, px5, gs_lx, gs_ax, sx5, ft_int, ft_ref, ft_b0, ft_b1, c1_int, c1_ref, List.length_cons, List.length_nil, Nat.reduceAdd, Nat.reduceLT, Nat.reduceLeDiff, true_and, and_true, true_or, or_true, not_false_eq_true, Option.toList_some, Option.toList_none, List.nil_append, List.singleton_append, List.cons_append, ↓reduceIte, Bool.and_self, eq_self, z_max, z_min, nI_add, z_sub, z_dec, z_mul, z_div, z_mod, nI_clamp, z_lt, z_nlt, z_le, z_nle, z_ne, z_eq, z_in, not_true_eq_false, if_true, if_false, hs_at, hs_ne, hs_sort, hset_eq, vupp_eq, hs_over, List.length_set, vup_at, vup_ne, vup_over, vup_sort, mfs_len, n5_f, map_getD, List.length_map, gd_self, gd_ne, Nat.add_sub_cancel, o3]
        refine c_86_88 (by simp) (n5_ge (by decide)) X3.2.2 ?_
        refine f90 (by decide) (by decide) X3 G3.1 G3.2.1 G3.2.2.1 (fun h4 F4 X4 => ?_)
        simp (disch := first | omega | (simp only [List.length_set]; omega)) only [g_86_0, g_86_1, g_86_4, g_86_7, g_86_8, g_86_9, g_86_12, g_86_15, g_86_16, g_86_17, g_86_20, g_86_24, g_86_25, g_86_28, g_86_29, g_86_32, g_86_33, g_86_35, g_86_36, g_86_39, g_86_43, g_86_45, g_86_72, g_86_76, g_86_79, g_86_80, g_86_81, g_86_84, g_86_85, g_86_91, g_86_94, g_86_98, g_86_99, g_86_100, g_86_103, g_86_104, g_86_110, g_86_111, g_86_112, g_86_115, g_86_116, g_86_119, g_86_120, g_86_126, g_86_129, g_86_130, g_86_133, g_86_138, g_86_140, g_86_141, g_86_142, g_86_145, g_86_148, g_86_149, g_86_150, g_86_151, g_86_152, g_86_155, g_86_158, g_86_159, g_86_163, g_86_165, gs_nx, db_inx, gs_ldi, gs_lda, gs_ldn, List.getElem?_cons_zero, List.getElem?_cons_succ, List.set_cons_zero, List.set_cons_succ, gx5, fx_int, fx_ref, fx_null, px5, gs_lx, gs_ax, sx5, ft_int, ft_ref, ft_b0, ft_b1, c1_int, c1_ref, List.length_cons, List.length_nil, Nat.reduceAdd, Nat.reduceLT, Nat.reduceLeDiff, true_and, and_true, true_or, or_true, not_false_eq_true, Option.toList_some, Option.toList_none, List.nil_append, List.singleton_append, List.cons_append, ↓reduceIte, Bool.and_self, eq_self, z_max, z_min, nI_add, z_sub, z_dec, z_mul, z_div, z_mod, nI_clamp, z_lt, z_nlt, z_le, z_nle, z_ne, z_eq, z_in, not_true_eq_false, if_true, if_false, hs_at, hs_ne, hs_sort, hset_eq, vupp_eq, hs_over, List.length_set, vup_at, vup_ne, vup_over, vup_sort, mfs_len, n5_f, map_getD, List.length_map, gd_self, gd_ne, Nat.add_sub_cancel]
        exact tail h4 _ own (Fr_mono F4 (by unfold F86 FX; simp)) X4 (cG_fr F4 (by decide) G3) (cL_fr F4 (by unfold FX; simp; omega) L3) rfl (fun _ => rfl)
      · rw [if_neg k1]
        rw [if_neg k1] at tail
        by_cases k2 : t.1 = 2
        · rw [if_pos k2]
          rw [if_pos k2, if_pos k2] at tail
          simp (disch := first | omega | (simp only [List.length_set]; omega)) only [g_86_0, g_86_1, g_86_4, g_86_7, g_86_8, g_86_9, g_86_12, g_86_15, g_86_16, g_86_17, g_86_20, g_86_24, g_86_25, g_86_28, g_86_29, g_86_32, g_86_33, g_86_35, g_86_36, g_86_39, g_86_43, g_86_45, g_86_72, g_86_76, g_86_79, g_86_80, g_86_81, g_86_84, g_86_85, g_86_91, g_86_94, g_86_98, g_86_99, g_86_100, g_86_103, g_86_104, g_86_110, g_86_111, g_86_112, g_86_115, g_86_116, g_86_119, g_86_120, g_86_126, g_86_129, g_86_130, g_86_133, g_86_138, g_86_140, g_86_141, g_86_142, g_86_145, g_86_148, g_86_149, g_86_150, g_86_151, g_86_152, g_86_155, g_86_158, g_86_159, g_86_163, g_86_165, gs_nx, db_inx, gs_ldi, gs_lda, gs_ldn, List.getElem?_cons_zero, List.getElem?_cons_succ, List.set_cons_zero, List.set_cons_succ, gx5, fx_int, fx_ref, fx_null, px5, gs_lx, gs_ax, sx5, ft_int, ft_ref, ft_b0, ft_b1, c1_int, c1_ref, List.length_cons, List.length_nil, Nat.reduceAdd, Nat.reduceLT, Nat.reduceLeDiff, true_and, and_true, true_or, or_true, not_false_eq_true, Option.toList_some, Option.toList_none, List.nil_append, List.singleton_append, List.cons_append, ↓reduceIte, Bool.and_self, eq_self, z_max, z_min, nI_add, z_sub, z_dec, z_mul, z_div, z_mod, nI_clamp, z_lt, z_nlt, z_le, z_nle, z_ne, z_eq, z_in, not_true_eq_false, if_true, if_false, hs_at, hs_ne, hs_sort, hset_eq, vupp_eq, hs_over, List.length_set, vup_at, vup_ne, vup_over, vup_sort, mfs_len, n5_f, map_getD, List.length_map, gd_self, gd_ne, Nat.add_sub_cancel]
          refine c_86_95 (by simp) (n5_ge (by decide)) X3.2.2 ?_
          refine f94 X3 G3.1 G3.2.2.2 (fun h4 F4 X4 O4 W4 => ?_)
          generalize ownF B t.2 = w at *
          have o4 := X4.2.2
          unfold opO at o4
          have T4 := cT_fr F4 (by decide) G3.1
          have D1 := cdW_fr F4 (by decide) G3.2.1
          have D2 := cdW_fr F4 (by decide) G3.2.2.1
          have L4 := cL_fr F4 (by unfold F94; simp; omega) L3
          have F4' : Fr (F86 ++ [o, o + 2, o + 3, o + 4]) h3 h4 := Fr_mono F4 (by unfold F94 F86; simp)
          have step2 : ∀ (h5 : db_H) (y : List Nat × Rd) (ws ds rs : List Nat), Fr FX h4 h5 → cX h5 B y → cdS h5 92 ws → cdS h5 100 ds → cdS h5 108 rs → ws.length = 286 → ds.length = 30 → rs.length = 19 → cOp h5 → y = spF B w.1 w.2.1 301 (E, w.2.2.2) → (y.2.2 = 0 → ws = w.1 ∧ ds = w.2.1 ∧ rs = w.2.2.1) → db_Go 86 110 [.ref 71, .ref o, .int (nI s.1), .int (nI E.length), .int v, .int (nI t.1)] [] h5 P := by
            intro h5 y ws ds rs F5 X5 S1 S2 S3 m1 m2 m3 O5 ey ew
            have o5 := X5.2.2
            unfold opO at o5
            have L5 := cL_fr F5 (by unfold FX; simp; omega) L4
            simp (disch := first | omega | (simp only [List.length_set]; omega)) only [g_86_0, g_86_1, g_86_4, g_86_7, g_86_8, g_86_9, g_86_12, g_86_15, g_86_16, g_86_17, g_86_20, g_86_24, g_86_25, g_86_28, g_86_29, g_86_32, g_86_33, g_86_35, g_86_36, g_86_39, g_86_43, g_86_45, g_86_72, g_86_76, g_86_79, g_86_80, g_86_81, g_86_84, g_86_85, g_86_91, g_86_94, g_86_98, g_86_99, g_86_100, g_86_103, g_86_104, g_86_110, g_86_111, g_86_112, g_86_115, g_86_116, g_86_119, g_86_120, g_86_126, g_86_129, g_86_130, g_86_133, g_86_138, g_86_140, g_86_141, g_86_142, g_86_145, g_86_148, g_86_149, g_86_150, g_86_151, g_86_152, g_86_155, g_86_158, g_86_159, g_86_163, g_86_165, gs_nx, db_inx, gs_ldi, gs_lda, gs_ldn, List.getElem?_cons_zero, List.getElem?_cons_succ, List.set_cons_zero, List.set_cons_succ, gx5, fx_int, fx_ref, fx_null, px5, gs_lx, gs_ax, sx5, ft_int, ft_ref, ft_b0, ft_b1, c1_int, c1_ref, List.length_cons, List.length_nil, Nat.reduceAdd, Nat.reduceLT, Nat.reduceLeDiff, true_and, and_true, true_or, or_true, not_false_eq_true, Option.toList_some, Option.toList_none, List.nil_append, List.singleton_append, List.cons_append, ↓reduceIte, Bool.and_self, eq_self, z_max, z_min, nI_add, z_sub, z_dec, z_mul, z_div, z_mod, nI_clamp, z_lt, z_nlt, z_le, z_nle, z_ne, z_eq, z_in, not_true_eq_false, if_true, if_false, hs_at, hs_ne, hs_sort, hset_eq, vupp_eq, hs_over, List.length_set, vup_at, vup_ne, vup_over, vup_sort, mfs_len, n5_f, map_getD, List.length_map, gd_self, gd_ne, Nat.add_sub_cancel, o5]
            refine c_86_123 (by simp) n0 L5.1 ?_
            refine f70 ho2 (by omega) hd.1 hd.2 L5 (by decide) (by decide) (by decide) S1 S2 S3 m1 m2 m3 (fun h6 F6 L6 => ?_)
            simp (disch := first | omega | (simp only [List.length_set]; omega)) only [g_86_0, g_86_1, g_86_4, g_86_7, g_86_8, g_86_9, g_86_12, g_86_15, g_86_16, g_86_17, g_86_20, g_86_24, g_86_25, g_86_28, g_86_29, g_86_32, g_86_33, g_86_35, g_86_36, g_86_39, g_86_43, g_86_45, g_86_72, g_86_76, g_86_79, g_86_80, g_86_81, g_86_84, g_86_85, g_86_91, g_86_94, g_86_98, g_86_99, g_86_100, g_86_103, g_86_104, g_86_110, g_86_111, g_86_112, g_86_115, g_86_116, g_86_119, g_86_120, g_86_126, g_86_129, g_86_130, g_86_133, g_86_138, g_86_140, g_86_141, g_86_142, g_86_145, g_86_148, g_86_149, g_86_150, g_86_151, g_86_152, g_86_155, g_86_158, g_86_159, g_86_163, g_86_165, gs_nx, db_inx, gs_ldi, gs_lda, gs_ldn, List.getElem?_cons_zero, List.getElem?_cons_succ, List.set_cons_zero, List.set_cons_succ, gx5, fx_int, fx_ref, fx_null, px5, gs_lx, gs_ax, sx5, ft_int, ft_ref, ft_b0, ft_b1, c1_int, c1_ref, List.length_cons, List.length_nil, Nat.reduceAdd, Nat.reduceLT, Nat.reduceLeDiff, true_and, and_true, true_or, or_true, not_false_eq_true, Option.toList_some, Option.toList_none, List.nil_append, List.singleton_append, List.cons_append, ↓reduceIte, Bool.and_self, eq_self, z_max, z_min, nI_add, z_sub, z_dec, z_mul, z_div, z_mod, nI_clamp, z_lt, z_nlt, z_le, z_nle, z_ne, z_eq, z_in, not_true_eq_false, if_true, if_false, hs_at, hs_ne, hs_sort, hset_eq, vupp_eq, hs_over, List.length_set, vup_at, vup_ne, vup_over, vup_sort, mfs_len, n5_f, map_getD, List.length_map, gd_self, gd_ne, Nat.add_sub_cancel]
            have T6 := cT_fr F6 (fun k hk => by simp; omega) (cT_fr F5 (by decide) T4)
            have D16 := cdW_fr F6 (fun k hk => by simp; omega) (cdW_fr F5 (by decide) D1)
            have D26 := cdW_fr F6 (fun k hk => by simp; omega) (cdW_fr F5 (by decide) D2)
            have O6 := cOp_fr F6 (fun k hk => by simp; omega) O5
            refine tail h6 y _ (Fr_tr F4' (Fr_tr (Fr_mono F5 (by unfold F86 FX; simp)) (Fr_mono F6 (fun k hk => List.mem_append_right _ hk)))) (cX_fr F6 (by simp; omega) X5) ⟨T6, D16, D26, O6⟩ L6 ey (fun z => ?_)
            rw [(ew z).1, (ew z).2.1, (ew z).2.2]
          simp (disch := first | omega | (simp only [List.length_set]; omega)) only [g_86_0, g_86_1, g_86_4, g_86_7, g_86_8, g_86_9, g_86_12, g_86_15, g_86_16, g_86_17, g_86_20, g_86_24, g_86_25, g_86_28, g_86_29, g_86_32, g_86_33, g_86_35, g_86_36, g_86_39, g_86_43, g_86_45, g_86_72, g_86_76, g_86_79, g_86_80, g_86_81, g_86_84, g_86_85, g_86_91, g_86_94, g_86_98, g_86_99, g_86_100, g_86_103, g_86_104, g_86_111, g_86_112, g_86_115, g_86_116, g_86_119, g_86_120, g_86_126, g_86_129, g_86_130, g_86_133, g_86_138, g_86_140, g_86_141, g_86_142, g_86_145, g_86_148, g_86_149, g_86_150, g_86_151, g_86_152, g_86_155, g_86_158, g_86_159, g_86_163, g_86_165, gs_nx, db_inx, gs_ldi, gs_lda, gs_ldn, List.getElem?_cons_zero, List.getElem?_cons_succ, List.set_cons_zero, List.set_cons_succ, gx5, fx_int, fx_ref, fx_null, px5, gs_lx, gs_ax, sx5, ft_int, ft_ref, ft_b0, ft_b1, c1_int, c1_ref, List.length_cons, List.length_nil, Nat.reduceAdd, Nat.reduceLT, Nat.reduceLeDiff, true_and, and_true, true_or, or_true, not_false_eq_true, Option.toList_some, Option.toList_none, List.nil_append, List.singleton_append, List.cons_append, ↓reduceIte, Bool.and_self, eq_self, z_max, z_min, nI_add, z_sub, z_dec, z_mul, z_div, z_mod, nI_clamp, z_lt, z_nlt, z_le, z_nle, z_ne, z_eq, z_in, not_true_eq_false, if_true, if_false, hs_at, hs_ne, hs_sort, hset_eq, vupp_eq, hs_over, List.length_set, vup_at, vup_ne, vup_over, vup_sort, mfs_len, n5_f, map_getD, List.length_map, gd_self, gd_ne, Nat.add_sub_cancel, o4]
          refine c_86_107 (by simp) (n5_ge (by decide)) X4.2.2 ?_
          by_cases q : w.2.2.2.2 = 0
          · obtain ⟨c1, c2, c3, m1, m2, m3⟩ := W4 q
            refine f90 (by decide) (by decide) X4 T4 c1 c2 (fun h5 F5 X5 => ?_)
            simp (disch := first | omega | (simp only [List.length_set]; omega)) only [g_86_0, g_86_1, g_86_4, g_86_7, g_86_8, g_86_9, g_86_12, g_86_15, g_86_16, g_86_17, g_86_20, g_86_24, g_86_25, g_86_28, g_86_29, g_86_32, g_86_33, g_86_35, g_86_36, g_86_39, g_86_43, g_86_45, g_86_72, g_86_76, g_86_79, g_86_80, g_86_81, g_86_84, g_86_85, g_86_91, g_86_94, g_86_98, g_86_99, g_86_100, g_86_103, g_86_104, g_86_111, g_86_112, g_86_115, g_86_116, g_86_119, g_86_120, g_86_126, g_86_129, g_86_130, g_86_133, g_86_138, g_86_140, g_86_141, g_86_142, g_86_145, g_86_148, g_86_149, g_86_150, g_86_151, g_86_152, g_86_155, g_86_158, g_86_159, g_86_163, g_86_165, gs_nx, db_inx, gs_ldi, gs_lda, gs_ldn, List.getElem?_cons_zero, List.getElem?_cons_succ, List.set_cons_zero, List.set_cons_succ, gx5, fx_int, fx_ref, fx_null, px5, gs_lx, gs_ax, sx5, ft_int, ft_ref, ft_b0, ft_b1, c1_int, c1_ref, List.length_cons, List.length_nil, Nat.reduceAdd, Nat.reduceLT, Nat.reduceLeDiff, true_and, and_true, true_or, or_true, not_false_eq_true, Option.toList_some, Option.toList_none, List.nil_append, List.singleton_append, List.cons_append, ↓reduceIte, Bool.and_self, eq_self, z_max, z_min, nI_add, z_sub, z_dec, z_mul, z_div, z_mod, nI_clamp, z_lt, z_nlt, z_le, z_nle, z_ne, z_eq, z_in, not_true_eq_false, if_true, if_false, hs_at, hs_ne, hs_sort, hset_eq, vupp_eq, hs_over, List.length_set, vup_at, vup_ne, vup_over, vup_sort, mfs_len, n5_f, map_getD, List.length_map, gd_self, gd_ne, Nat.add_sub_cancel]
            exact step2 h5 _ _ _ _ F5 X5 (cdS_W (cdW_fr F5 (by decide) c1)) (cdS_W (cdW_fr F5 (by decide) c2)) (cdS_W (cdW_fr F5 (by decide) c3)) m1 m2 m3 (cOp_fr F5 (by decide) O4) rfl (fun _ => ⟨rfl, rfl, rfl⟩)
          · refine f90n (x := (E, w.2.2.2)) q X4 ?_
            obtain ⟨⟨w1, c1, m1⟩, ⟨w2, c2, m2⟩, ⟨w3, c3, m3⟩, _⟩ := id O4
            simp (disch := first | omega | (simp only [List.length_set]; omega)) only [g_86_0, g_86_1, g_86_4, g_86_7, g_86_8, g_86_9, g_86_12, g_86_15, g_86_16, g_86_17, g_86_20, g_86_24, g_86_25, g_86_28, g_86_29, g_86_32, g_86_33, g_86_35, g_86_36, g_86_39, g_86_43, g_86_45, g_86_72, g_86_76, g_86_79, g_86_80, g_86_81, g_86_84, g_86_85, g_86_91, g_86_94, g_86_98, g_86_99, g_86_100, g_86_103, g_86_104, g_86_111, g_86_112, g_86_115, g_86_116, g_86_119, g_86_120, g_86_126, g_86_129, g_86_130, g_86_133, g_86_138, g_86_140, g_86_141, g_86_142, g_86_145, g_86_148, g_86_149, g_86_150, g_86_151, g_86_152, g_86_155, g_86_158, g_86_159, g_86_163, g_86_165, gs_nx, db_inx, gs_ldi, gs_lda, gs_ldn, List.getElem?_cons_zero, List.getElem?_cons_succ, List.set_cons_zero, List.set_cons_succ, gx5, fx_int, fx_ref, fx_null, px5, gs_lx, gs_ax, sx5, ft_int, ft_ref, ft_b0, ft_b1, c1_int, c1_ref, List.length_cons, List.length_nil, Nat.reduceAdd, Nat.reduceLT, Nat.reduceLeDiff, true_and, and_true, true_or, or_true, not_false_eq_true, Option.toList_some, Option.toList_none, List.nil_append, List.singleton_append, List.cons_append, ↓reduceIte, Bool.and_self, eq_self, z_max, z_min, nI_add, z_sub, z_dec, z_mul, z_div, z_mod, nI_clamp, z_lt, z_nlt, z_le, z_nle, z_ne, z_eq, z_in, not_true_eq_false, if_true, if_false, hs_at, hs_ne, hs_sort, hset_eq, vupp_eq, hs_over, List.length_set, vup_at, vup_ne, vup_over, vup_sort, mfs_len, n5_f, map_getD, List.length_map, gd_self, gd_ne, Nat.add_sub_cancel]
            exact step2 h4 (E, w.2.2.2) w1 w2 w3 Fr_refl X4 c1 c2 c3 m1 m2 m3 O4 (by rw [spF_f (x := (E, w.2.2.2)) q]) (fun z => absurd z q)
        · rw [if_neg k2]
          rw [if_neg k2, if_neg k2] at tail
          simp (disch := first | omega | (simp only [List.length_set]; omega)) only [g_86_0, g_86_1, g_86_4, g_86_7, g_86_8, g_86_9, g_86_12, g_86_15, g_86_16, g_86_17, g_86_20, g_86_24, g_86_25, g_86_28, g_86_29, g_86_32, g_86_33, g_86_35, g_86_36, g_86_39, g_86_43, g_86_45, g_86_72, g_86_76, g_86_79, g_86_80, g_86_81, g_86_84, g_86_85, g_86_91, g_86_94, g_86_98, g_86_99, g_86_100, g_86_103, g_86_104, g_86_110, g_86_111, g_86_112, g_86_115, g_86_116, g_86_119, g_86_120, g_86_126, g_86_129, g_86_130, g_86_133, g_86_138, g_86_140, g_86_141, g_86_142, g_86_145, g_86_148, g_86_149, g_86_150, g_86_151, g_86_152, g_86_155, g_86_158, g_86_159, g_86_163, g_86_165, gs_nx, db_inx, gs_ldi, gs_lda, gs_ldn, List.getElem?_cons_zero, List.getElem?_cons_succ, List.set_cons_zero, List.set_cons_succ, gx5, fx_int, fx_ref, fx_null, px5, gs_lx, gs_ax, sx5, ft_int, ft_ref, ft_b0, ft_b1, c1_int, c1_ref, List.length_cons, List.length_nil, Nat.reduceAdd, Nat.reduceLT, Nat.reduceLeDiff, true_and, and_true, true_or, or_true, not_false_eq_true, Option.toList_some, Option.toList_none, List.nil_append, List.singleton_append, List.cons_append, ↓reduceIte, Bool.and_self, eq_self, z_max, z_min, nI_add, z_sub, z_dec, z_mul, z_div, z_mod, nI_clamp, z_lt, z_nlt, z_le, z_nle, z_ne, z_eq, z_in, not_true_eq_false, if_true, if_false, hs_at, hs_ne, hs_sort, hset_eq, vupp_eq, hs_over, List.length_set, vup_at, vup_ne, vup_over, vup_sort, mfs_len, n5_f, map_getD, List.length_map, gd_self, gd_ne, Nat.add_sub_cancel, o3]
          refine c_86_134 (by simp) (n5_ge (by decide)) (cRd_o X3.1) ?_
          refine f85 (by decide) X3.1 (fun h4 F4 R4 => ?_)
          simp (disch := first | omega | (simp only [List.length_set]; omega)) only [g_86_0, g_86_1, g_86_4, g_86_7, g_86_8, g_86_9, g_86_12, g_86_15, g_86_16, g_86_17, g_86_20, g_86_24, g_86_25, g_86_28, g_86_29, g_86_32, g_86_33, g_86_35, g_86_36, g_86_39, g_86_43, g_86_45, g_86_72, g_86_76, g_86_79, g_86_80, g_86_81, g_86_84, g_86_85, g_86_91, g_86_94, g_86_98, g_86_99, g_86_100, g_86_103, g_86_104, g_86_110, g_86_111, g_86_112, g_86_115, g_86_116, g_86_119, g_86_120, g_86_126, g_86_129, g_86_130, g_86_133, g_86_138, g_86_140, g_86_141, g_86_142, g_86_145, g_86_148, g_86_149, g_86_150, g_86_151, g_86_152, g_86_155, g_86_158, g_86_159, g_86_163, g_86_165, gs_nx, db_inx, gs_ldi, gs_lda, gs_ldn, List.getElem?_cons_zero, List.getElem?_cons_succ, List.set_cons_zero, List.set_cons_succ, gx5, fx_int, fx_ref, fx_null, px5, gs_lx, gs_ax, sx5, ft_int, ft_ref, ft_b0, ft_b1, c1_int, c1_ref, List.length_cons, List.length_nil, Nat.reduceAdd, Nat.reduceLT, Nat.reduceLeDiff, true_and, and_true, true_or, or_true, not_false_eq_true, Option.toList_some, Option.toList_none, List.nil_append, List.singleton_append, List.cons_append, ↓reduceIte, Bool.and_self, eq_self, z_max, z_min, nI_add, z_sub, z_dec, z_mul, z_div, z_mod, nI_clamp, z_lt, z_nlt, z_le, z_nle, z_ne, z_eq, z_in, not_true_eq_false, if_true, if_false, hs_at, hs_ne, hs_sort, hset_eq, vupp_eq, hs_over, List.length_set, vup_at, vup_ne, vup_over, vup_sort, mfs_len, n5_f, map_getD, List.length_map, gd_self, gd_ne, Nat.add_sub_cancel]
          exact tail h4 _ own (Fr_mono F4 (by unfold F86; simp)) (cX_rd2 F4 X3 R4) (cG_fr F4 (by decide) G3) (cL_fr F4 (by simp; omega) L3) rfl (fun _ => rfl)
  by_cases q : a.1 = 1
  · have m := main (nI 1) (by rw [if_pos q])
    simp (disch := first | omega | (simp only [List.length_set]; omega)) only [g_86_0, g_86_1, g_86_4, g_86_7, g_86_8, g_86_9, g_86_12, g_86_15, g_86_16, g_86_17, g_86_20, g_86_24, g_86_25, g_86_28, g_86_29, g_86_32, g_86_35, g_86_36, g_86_39, g_86_43, g_86_45, g_86_72, g_86_76, g_86_79, g_86_80, g_86_81, g_86_84, g_86_85, g_86_91, g_86_94, g_86_98, g_86_99, g_86_100, g_86_103, g_86_104, g_86_110, g_86_111, g_86_112, g_86_115, g_86_116, g_86_119, g_86_120, g_86_126, g_86_129, g_86_130, g_86_133, g_86_137, g_86_138, g_86_140, g_86_141, g_86_142, g_86_145, g_86_148, g_86_149, g_86_150, g_86_151, g_86_152, g_86_155, g_86_158, g_86_159, g_86_163, g_86_165, gs_nx, db_inx, gs_ldi, gs_lda, gs_ldn, List.getElem?_cons_zero, List.getElem?_cons_succ, List.set_cons_zero, List.set_cons_succ, gx5, fx_int, fx_ref, fx_null, px5, gs_lx, gs_ax, sx5, ft_int, ft_ref, ft_b0, ft_b1, c1_int, c1_ref, List.length_cons, List.length_nil, Nat.reduceAdd, Nat.reduceLT, Nat.reduceLeDiff, true_and, and_true, true_or, or_true, not_false_eq_true, Option.toList_some, Option.toList_none, List.nil_append, List.singleton_append, List.cons_append, ↓reduceIte, Bool.and_self, eq_self, z_max, z_min, nI_add, z_sub, z_dec, z_mul, z_div, z_mod, nI_clamp, z_lt, z_nlt, z_le, z_nle, z_ne, z_eq, z_in, not_true_eq_false, if_true, if_false, hs_at, hs_ne, hs_sort, hset_eq, vupp_eq, hs_over, List.length_set, vup_at, vup_ne, vup_over, vup_sort, mfs_len, n5_f, map_getD, List.length_map, gd_self, gd_ne, Nat.add_sub_cancel]
    exact m
  · have m := main (nI 0) (by rw [if_neg q])
    simp (disch := first | omega | (simp only [List.length_set]; omega)) only [g_86_0, g_86_1, g_86_4, g_86_7, g_86_8, g_86_9, g_86_12, g_86_15, g_86_16, g_86_17, g_86_20, g_86_24, g_86_25, g_86_28, g_86_29, g_86_32, g_86_35, g_86_36, g_86_39, g_86_43, g_86_45, g_86_72, g_86_76, g_86_79, g_86_80, g_86_81, g_86_84, g_86_85, g_86_91, g_86_94, g_86_98, g_86_99, g_86_100, g_86_103, g_86_104, g_86_110, g_86_111, g_86_112, g_86_115, g_86_116, g_86_119, g_86_120, g_86_126, g_86_129, g_86_130, g_86_133, g_86_137, g_86_138, g_86_140, g_86_141, g_86_142, g_86_145, g_86_148, g_86_149, g_86_150, g_86_151, g_86_152, g_86_155, g_86_158, g_86_159, g_86_163, g_86_165, gs_nx, db_inx, gs_ldi, gs_lda, gs_ldn, List.getElem?_cons_zero, List.getElem?_cons_succ, List.set_cons_zero, List.set_cons_succ, gx5, fx_int, fx_ref, fx_null, px5, gs_lx, gs_ax, sx5, ft_int, ft_ref, ft_b0, ft_b1, c1_int, c1_ref, List.length_cons, List.length_nil, Nat.reduceAdd, Nat.reduceLT, Nat.reduceLeDiff, true_and, and_true, true_or, or_true, not_false_eq_true, Option.toList_some, Option.toList_none, List.nil_append, List.singleton_append, List.cons_append, ↓reduceIte, Bool.and_self, eq_self, z_max, z_min, nI_add, z_sub, z_dec, z_mul, z_div, z_mod, nI_clamp, z_lt, z_nlt, z_le, z_nle, z_ne, z_eq, z_in, not_true_eq_false, if_true, if_false, hs_at, hs_ne, hs_sort, hset_eq, vupp_eq, hs_over, List.length_set, vup_at, vup_ne, vup_over, vup_sort, mfs_len, n5_f, map_getD, List.length_map, gd_self, gd_ne, Nat.add_sub_cancel]
    exact m
end BR
