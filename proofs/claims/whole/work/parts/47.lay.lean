/-! the model's laySteps: rows 139, 140, 141, its number in field 20 of the model's object -/
def ml (h : db_H) (fs : List Value) (pa ln va : List Int32) (m : Int32) : db_H := (((h.set 139 (.inl (0, pa))).set 140 (.inl (0, ln))).set 141 (.inl (0, va))).set 127 (.inr (12, fs.set 20 (.int m)))
/-- what it needs: DATA (row 128, field 1), the CUTS (row 129, field 3), its own rows -/
def lyI (h : db_H) (fs : List Value) (l cr : List Int32) (n : Nat) (C : List Nat) : Prop := 164 < h.length ∧ fs.length = 51 ∧ h[128]? = some (.inl (0, l)) ∧ l.length = 300 ∧ n ≤ 300 ∧ h[129]? = some (.inl (0, cr)) ∧ cr.length = 2 ∧ cr.take C.length = C.map nI ∧ C.length ≤ 2 ∧ (∀ x ∈ C, x < 300) ∧
  fs[0]? = some (.ref 128) ∧ fs[1]? = some (.int (nI n)) ∧ fs[2]? = some (.ref 129) ∧ fs[3]? = some (.int (nI C.length)) ∧ fs[17]? = some (.ref 139) ∧ fs[18]? = some (.ref 140) ∧ fs[19]? = some (.ref 141)
section LY
variable {h : db_H} {P : Option Value → db_H → Prop} {fs : List Value} {l cr : List Int32} {pa ln va : List Int32} {m : Int32} {n : Nat} {C : List Nat}
theorem ml_127 (hl : 164 < h.length) : (ml h fs pa ln va m)[127]? = some (.inr (12, fs.set 20 (.int m))) := hs_at (by simp; omega)
theorem ml_139 (hl : 164 < h.length) : (ml h fs pa ln va m)[139]? = some (.inl (0, pa)) := (hs_ne (by decide)).trans ((hs_ne (by decide)).trans ((hs_ne (by decide)).trans (hs_at (by omega))))
theorem ml_140 (hl : 164 < h.length) : (ml h fs pa ln va m)[140]? = some (.inl (0, ln)) := (hs_ne (by decide)).trans ((hs_ne (by decide)).trans (hs_at (by simp; omega)))
theorem ml_141 (hl : 164 < h.length) : (ml h fs pa ln va m)[141]? = some (.inl (0, va)) := (hs_ne (by decide)).trans (hs_at (by simp; omega))
theorem ml_ne {k : Nat} (h1 : ¬ 127 = k) (h2 : k < 139 ∨ 141 < k) : (ml h fs pa ln va m)[k]? = h[k]? := (hs_ne h1).trans ((hs_ne (by omega)).trans ((hs_ne (by omega)).trans (hs_ne (by omega))))
theorem ml_s127 {x : Int32} : (ml h fs pa ln va m).set 127 (.inr (12, (fs.set 20 (.int m)).set 20 (.int x))) = ml h fs pa ln va x := by
  unfold ml
  rw [hs_over, List.set_set]
theorem ml_s139 {x : List Int32} : (ml h fs pa ln va m).set 139 (.inl (0, x)) = ml h fs x ln va m := by
  unfold ml
  rw [hs_comm (o := 127) (r := 139) (by decide), hs_comm (o := 141) (r := 139) (by decide), hs_comm (o := 140) (r := 139) (by decide), hs_over]
theorem ml_s140 {x : List Int32} : (ml h fs pa ln va m).set 140 (.inl (0, x)) = ml h fs pa x va m := by
  unfold ml
  rw [hs_comm (o := 127) (r := 140) (by decide), hs_comm (o := 141) (r := 140) (by decide), hs_over]
theorem ml_s141 {x : List Int32} : (ml h fs pa ln va m).set 141 (.inl (0, x)) = ml h fs pa ln x m := by
  unfold ml
  rw [hs_comm (o := 127) (r := 141) (by decide), hs_over]
theorem n5_139 : ¬ 139 < db_n := by decide
theorem n5_140 : ¬ 140 < db_n := by decide
theorem n5_141 : ¬ 141 < db_n := by decide
theorem fs_at {x : Value} {k : Nat} (hl : k < fs.length) : (fs.set k x)[k]? = some x := List.getElem?_set_self hl
theorem fs_ne {x : Value} {k j : Nat} (hn : ¬ k = j) : (fs.set k x)[j]? = fs[j]? := List.getElem?_set_ne hn
/-- the run: pc 56 to 90 -/
theorem m123_run (I : lyI h fs l cr n C) {p most f : Nat} {best far : Int32} (hf : f < p) (hp : p + most ≤ 300) : ∀ (d k : Nat), k + d = most →
    db_Go 123 90 [.ref 127, .int (nI p), .int (nI most), .int best, .int far, .int (nI f), .int (nI (rl l f p d k))] [] (ml h fs pa ln va m) P → db_Go 123 56 [.ref 127, .int (nI p), .int (nI most), .int best, .int far, .int (nI f), .int (nI k)] [] (ml h fs pa ln va m) P := by
  obtain ⟨hlen, hfl, h128, hl, hn, h129, hcr, hC, hC2, hCb, f0, f1, f2, f3, f17, f18, f19⟩ := I
  have e127 := ml_127 (fs := fs) (pa := pa) (ln := ln) (va := va) (m := m) hlen
  have e128 : (ml h fs pa ln va m)[128]? = some (.inl (0, l)) := (ml_ne (by decide) (by decide)).trans h128
  have g0 : (fs.set 20 (.int m))[0]? = some (.ref 128) := (fs_ne (by decide)).trans f0
  intro d
  induction d with
  | zero =>
    intro k hk K
    rw [g_123_56]
    simp only [g_123_0, g_123_1, g_123_2, g_123_5, g_123_6, g_123_7, g_123_8, g_123_9, g_123_12, g_123_15, g_123_16, g_123_20, g_123_21, g_123_22, g_123_23, g_123_24, g_123_27, g_123_30, g_123_33, g_123_36, g_123_37, g_123_38, g_123_39, g_123_40, g_123_41, g_123_43, g_123_44, g_123_45, g_123_46, g_123_48, g_123_50, g_123_53, g_123_54, g_123_58, g_123_59, g_123_62, g_123_63, g_123_66, g_123_68, g_123_70, g_123_71, g_123_72, g_123_73, g_123_76, g_123_77, g_123_79, g_123_80, g_123_81, g_123_84, g_123_87, g_123_92, g_123_93, g_123_96, g_123_98, g_123_99, g_123_100, g_123_102, g_123_103, g_123_105, g_123_108, g_123_111, g_123_112, g_123_113, g_123_116, g_123_117, g_123_120, g_123_121, g_123_123, g_123_124, g_123_127, g_123_128, g_123_131, g_123_132, g_123_133, g_123_134, g_123_137, g_123_138, g_123_141, g_123_143, g_123_146, g_123_147, g_123_150, g_123_151, g_123_152, g_123_153, g_123_156, g_123_157, g_123_160, g_123_162, g_123_165, g_123_167, g_123_170, g_123_171, g_123_174, g_123_175, g_123_176, g_123_177, g_123_178, g_123_179, g_123_182, g_123_183, g_123_186, g_123_187, g_123_188, g_123_189, g_123_190, g_123_191, g_123_194, g_123_195, g_123_196, g_123_199, g_123_202, gs_nx, db_inx, gs_ldi, gs_lda, gs_ldn, List.getElem?_cons_zero, List.getElem?_cons_succ, List.set_cons_zero, List.set_cons_succ, gs_gx, fx_int, fx_ref, fx_null, gs_px, gs_lx, gs_ax, gs_sx, ft_int, ft_ref, ft_b0, ft_b1, c1_int, c1_ref, List.length_cons, List.length_nil, Nat.reduceAdd, Nat.reduceLT, Nat.reduceLeDiff, true_and, and_true, true_or, or_true, not_false_eq_true, Option.toList_some, Option.toList_none, List.nil_append, List.singleton_append, List.cons_append, e127, n5_127]
    rw [if_pos (nI_le (by omega) (by omega))]
    exact K
  | succ d ih =>
    intro k hk K
    rw [g_123_56]
    simp only [g_123_0, g_123_1, g_123_2, g_123_5, g_123_6, g_123_7, g_123_8, g_123_9, g_123_12, g_123_15, g_123_16, g_123_20, g_123_21, g_123_22, g_123_23, g_123_24, g_123_27, g_123_30, g_123_33, g_123_36, g_123_37, g_123_38, g_123_39, g_123_40, g_123_41, g_123_43, g_123_44, g_123_45, g_123_46, g_123_48, g_123_50, g_123_53, g_123_54, g_123_58, g_123_59, g_123_62, g_123_63, g_123_66, g_123_68, g_123_70, g_123_71, g_123_72, g_123_73, g_123_76, g_123_77, g_123_79, g_123_80, g_123_81, g_123_84, g_123_87, g_123_92, g_123_93, g_123_96, g_123_98, g_123_99, g_123_100, g_123_102, g_123_103, g_123_105, g_123_108, g_123_111, g_123_112, g_123_113, g_123_116, g_123_117, g_123_120, g_123_121, g_123_123, g_123_124, g_123_127, g_123_128, g_123_131, g_123_132, g_123_133, g_123_134, g_123_137, g_123_138, g_123_141, g_123_143, g_123_146, g_123_147, g_123_150, g_123_151, g_123_152, g_123_153, g_123_156, g_123_157, g_123_160, g_123_162, g_123_165, g_123_167, g_123_170, g_123_171, g_123_174, g_123_175, g_123_176, g_123_177, g_123_178, g_123_179, g_123_182, g_123_183, g_123_186, g_123_187, g_123_188, g_123_189, g_123_190, g_123_191, g_123_194, g_123_195, g_123_196, g_123_199, g_123_202, gs_nx, db_inx, gs_ldi, gs_lda, gs_ldn, List.getElem?_cons_zero, List.getElem?_cons_succ, List.set_cons_zero, List.set_cons_succ, gs_gx, fx_int, fx_ref, fx_null, gs_px, gs_lx, gs_ax, gs_sx, ft_int, ft_ref, ft_b0, ft_b1, c1_int, c1_ref, List.length_cons, List.length_nil, Nat.reduceAdd, Nat.reduceLT, Nat.reduceLeDiff, true_and, and_true, true_or, or_true, not_false_eq_true, Option.toList_some, Option.toList_none, List.nil_append, List.singleton_append, List.cons_append, e127, e128, g0, n5_127]
    rw [if_neg (nI_ge (by omega) (by omega)), nI_add, nI_add, nI_add, nI_clamp (by omega), nI_clamp (by omega), hl]
    refine ⟨in_nI (by omega) (by decide), in_nI (by omega) (by decide), ?_⟩
    rw [rl] at K
    by_cases hc : l.getD (f + k) 0 = l.getD (p + k) 0
    · rw [if_pos hc] at K
      rw [if_neg (not_not_intro hc)]
      exact ih (k + 1) (by omega) K
    · rw [if_neg hc] at K
      rw [if_pos hc]
      exact K
/-- the search: pc 48 to 111 -/
theorem m123_from (I : lyI h fs l cr n C) {p most : Nat} (hp : p + most ≤ 300) : ∀ (d : Nat) (q : Nat × Nat) (x : Value), d ≤ p → q.1 ≤ 300 →
    (∀ y z, db_Go 123 111 [.ref 127, .int (nI p), .int (nI most), .int (nI (bs l p most d q).1), .int (nI (bs l p most d q).2), y, z] [] (ml h fs pa ln va m) P) → db_Go 123 48 [.ref 127, .int (nI p), .int (nI most), .int (nI q.1), .int (nI q.2), .int (nI d - nI 1), x] [] (ml h fs pa ln va m) P := by
  intro d
  induction d with
  | zero =>
    intro q x hd hq K
    rw [g_123_48]
    simp only [g_123_0, g_123_1, g_123_2, g_123_5, g_123_6, g_123_7, g_123_8, g_123_9, g_123_12, g_123_15, g_123_16, g_123_20, g_123_21, g_123_22, g_123_23, g_123_24, g_123_27, g_123_30, g_123_33, g_123_36, g_123_37, g_123_38, g_123_39, g_123_40, g_123_41, g_123_43, g_123_44, g_123_45, g_123_46, g_123_50, g_123_53, g_123_54, g_123_58, g_123_59, g_123_62, g_123_63, g_123_66, g_123_68, g_123_70, g_123_71, g_123_72, g_123_73, g_123_76, g_123_77, g_123_79, g_123_80, g_123_81, g_123_84, g_123_87, g_123_90, g_123_92, g_123_93, g_123_96, g_123_98, g_123_99, g_123_100, g_123_102, g_123_103, g_123_105, g_123_108, g_123_112, g_123_113, g_123_116, g_123_117, g_123_120, g_123_121, g_123_123, g_123_124, g_123_127, g_123_128, g_123_131, g_123_132, g_123_133, g_123_134, g_123_137, g_123_138, g_123_141, g_123_143, g_123_146, g_123_147, g_123_150, g_123_151, g_123_152, g_123_153, g_123_156, g_123_157, g_123_160, g_123_162, g_123_165, g_123_167, g_123_170, g_123_171, g_123_174, g_123_175, g_123_176, g_123_177, g_123_178, g_123_179, g_123_182, g_123_183, g_123_186, g_123_187, g_123_188, g_123_189, g_123_190, g_123_191, g_123_194, g_123_195, g_123_196, g_123_199, g_123_202, gs_nx, db_inx, gs_ldi, gs_lda, gs_ldn, List.getElem?_cons_zero, List.getElem?_cons_succ, List.set_cons_zero, List.set_cons_succ, gs_gx, fx_int, fx_ref, fx_null, gs_px, gs_lx, gs_ax, gs_sx, ft_int, ft_ref, ft_b0, ft_b1, c1_int, c1_ref, List.length_cons, List.length_nil, Nat.reduceAdd, Nat.reduceLT, Nat.reduceLeDiff, true_and, and_true, true_or, or_true, not_false_eq_true, Option.toList_some, Option.toList_none, List.nil_append, List.singleton_append, List.cons_append]
    rw [if_pos (show nI 0 - nI 1 < nI 0 by decide +kernel)]
    exact K _ _
  | succ d ih =>
    intro q x hd hq K
    rw [g_123_48]
    simp only [g_123_0, g_123_1, g_123_2, g_123_5, g_123_6, g_123_7, g_123_8, g_123_9, g_123_12, g_123_15, g_123_16, g_123_20, g_123_21, g_123_22, g_123_23, g_123_24, g_123_27, g_123_30, g_123_33, g_123_36, g_123_37, g_123_38, g_123_39, g_123_40, g_123_41, g_123_43, g_123_44, g_123_45, g_123_46, g_123_50, g_123_53, g_123_54, g_123_58, g_123_59, g_123_62, g_123_63, g_123_66, g_123_68, g_123_70, g_123_71, g_123_72, g_123_73, g_123_76, g_123_77, g_123_79, g_123_80, g_123_81, g_123_84, g_123_87, g_123_90, g_123_92, g_123_93, g_123_96, g_123_98, g_123_99, g_123_100, g_123_102, g_123_103, g_123_105, g_123_108, g_123_112, g_123_113, g_123_116, g_123_117, g_123_120, g_123_121, g_123_123, g_123_124, g_123_127, g_123_128, g_123_131, g_123_132, g_123_133, g_123_134, g_123_137, g_123_138, g_123_141, g_123_143, g_123_146, g_123_147, g_123_150, g_123_151, g_123_152, g_123_153, g_123_156, g_123_157, g_123_160, g_123_162, g_123_165, g_123_167, g_123_170, g_123_171, g_123_174, g_123_175, g_123_176, g_123_177, g_123_178, g_123_179, g_123_182, g_123_183, g_123_186, g_123_187, g_123_188, g_123_189, g_123_190, g_123_191, g_123_194, g_123_195, g_123_196, g_123_199, g_123_202, gs_nx, db_inx, gs_ldi, gs_lda, gs_ldn, List.getElem?_cons_zero, List.getElem?_cons_succ, List.set_cons_zero, List.set_cons_succ, gs_gx, fx_int, fx_ref, fx_null, gs_px, gs_lx, gs_ax, gs_sx, ft_int, ft_ref, ft_b0, ft_b1, c1_int, c1_ref, List.length_cons, List.length_nil, Nat.reduceAdd, Nat.reduceLT, Nat.reduceLeDiff, true_and, and_true, true_or, or_true, not_false_eq_true, Option.toList_some, Option.toList_none, List.nil_append, List.singleton_append, List.cons_append]
    rw [pk_sub (by omega), if_neg (nI_lt0 (by omega)), show d + 1 - 1 = d by omega]
    refine m123_run I (by omega) hp most 0 (by omega) ?_
    simp only [g_123_0, g_123_1, g_123_2, g_123_5, g_123_6, g_123_7, g_123_8, g_123_9, g_123_12, g_123_15, g_123_16, g_123_20, g_123_21, g_123_22, g_123_23, g_123_24, g_123_27, g_123_30, g_123_33, g_123_36, g_123_37, g_123_38, g_123_39, g_123_40, g_123_41, g_123_43, g_123_44, g_123_45, g_123_46, g_123_50, g_123_53, g_123_54, g_123_58, g_123_59, g_123_62, g_123_63, g_123_66, g_123_68, g_123_70, g_123_71, g_123_72, g_123_73, g_123_76, g_123_77, g_123_79, g_123_80, g_123_81, g_123_84, g_123_87, g_123_90, g_123_92, g_123_93, g_123_96, g_123_98, g_123_99, g_123_100, g_123_102, g_123_103, g_123_105, g_123_108, g_123_112, g_123_113, g_123_116, g_123_117, g_123_120, g_123_121, g_123_123, g_123_124, g_123_127, g_123_128, g_123_131, g_123_132, g_123_133, g_123_134, g_123_137, g_123_138, g_123_141, g_123_143, g_123_146, g_123_147, g_123_150, g_123_151, g_123_152, g_123_153, g_123_156, g_123_157, g_123_160, g_123_162, g_123_165, g_123_167, g_123_170, g_123_171, g_123_174, g_123_175, g_123_176, g_123_177, g_123_178, g_123_179, g_123_182, g_123_183, g_123_186, g_123_187, g_123_188, g_123_189, g_123_190, g_123_191, g_123_194, g_123_195, g_123_196, g_123_199, g_123_202, gs_nx, db_inx, gs_ldi, gs_lda, gs_ldn, List.getElem?_cons_zero, List.getElem?_cons_succ, List.set_cons_zero, List.set_cons_succ, gs_gx, fx_int, fx_ref, fx_null, gs_px, gs_lx, gs_ax, gs_sx, ft_int, ft_ref, ft_b0, ft_b1, c1_int, c1_ref, List.length_cons, List.length_nil, Nat.reduceAdd, Nat.reduceLT, Nat.reduceLeDiff, true_and, and_true, true_or, or_true, not_false_eq_true, Option.toList_some, Option.toList_none, List.nil_append, List.singleton_append, List.cons_append]
    have hrl := run_le l d p most
    have e1 : nI d + Int32.ofInt (-1) = nI d - nI 1 := by rw [m1_ofInt, Int32.sub_eq_add_neg]
    have e2 : rl l d p most 0 = run l d p most := rfl
    rw [e1, e2]
    rw [bs] at K
    by_cases h2 : q.1 < run l d p most
    · rw [if_pos h2] at K
      rw [if_neg (nI_ge h2 (by omega)), pk_sub (by omega)]
      exact ih (run l d p most, p - d) _ (by omega) (by show run l d p most ≤ 300; omega) K
    · rw [if_neg h2] at K
      rw [if_pos (nI_le (by omega) (by omega))]
      exact ih q _ (by omega) hq K
theorem bs_le (l : List Int32) (p most : Nat) : ∀ (d : Nat) (q : Nat × Nat), q.1 ≤ most → (bs l p most d q).1 ≤ most
  | 0, _, h => h
  | d + 1, q, h => by
    rw [bs]
    refine bs_le l p most d _ ?_
    split
    · exact run_le l d p most
    · exact h
theorem m123_loop (I : lyI h fs l cr n C) : ∀ (f p : Nat) (pre : List (Nat × Nat × Int32)) (pa ln va : List Int32) (x2 x3 x4 x5 x6 : Value), n - p ≤ f → pre.length ≤ p → p ≤ n → stOK pa ln va pre →
    (∀ pa' ln' va', stOK pa' ln' va' (pre ++ stF l C n f p) → P none (ml h fs pa' ln' va' (nI (pre ++ stF l C n f p).length))) → db_Go 123 7 [.ref 127, .int (nI p), x2, x3, x4, x5, x6] [] (ml h fs pa ln va (nI pre.length)) P := by
  intro f
  induction f with
  | zero =>
    intro p pre pa ln va x2 x3 x4 x5 x6 hf hi hp hs K
    obtain ⟨hlen, hfl, h128, hl, hn, h129, hcr, hC, hC2, hCb, f0, f1, f2, f3, f17, f18, f19⟩ := id I
    have e127 := ml_127 (fs := fs) (pa := pa) (ln := ln) (va := va) (m := nI pre.length) hlen
    have g1 : (fs.set 20 (.int (nI pre.length)))[1]? = some (.int (nI n)) := (fs_ne (by decide)).trans f1
    rw [g_123_7]
    simp only [g_123_0, g_123_1, g_123_2, g_123_5, g_123_6, g_123_8, g_123_9, g_123_12, g_123_15, g_123_16, g_123_20, g_123_21, g_123_22, g_123_23, g_123_24, g_123_27, g_123_30, g_123_33, g_123_36, g_123_37, g_123_38, g_123_39, g_123_40, g_123_41, g_123_43, g_123_44, g_123_45, g_123_46, g_123_50, g_123_53, g_123_54, g_123_56, g_123_58, g_123_59, g_123_62, g_123_63, g_123_66, g_123_68, g_123_70, g_123_71, g_123_72, g_123_73, g_123_76, g_123_77, g_123_79, g_123_80, g_123_81, g_123_84, g_123_87, g_123_90, g_123_92, g_123_93, g_123_96, g_123_98, g_123_99, g_123_100, g_123_102, g_123_103, g_123_105, g_123_108, g_123_111, g_123_112, g_123_113, g_123_116, g_123_117, g_123_120, g_123_121, g_123_123, g_123_124, g_123_127, g_123_128, g_123_131, g_123_132, g_123_133, g_123_134, g_123_137, g_123_138, g_123_141, g_123_143, g_123_146, g_123_147, g_123_150, g_123_151, g_123_152, g_123_153, g_123_156, g_123_157, g_123_160, g_123_162, g_123_165, g_123_167, g_123_170, g_123_171, g_123_174, g_123_175, g_123_176, g_123_177, g_123_178, g_123_179, g_123_182, g_123_183, g_123_186, g_123_187, g_123_188, g_123_189, g_123_190, g_123_191, g_123_194, g_123_195, g_123_196, g_123_199, g_123_202, gs_nx, db_inx, gs_ldi, gs_lda, gs_ldn, List.getElem?_cons_zero, List.getElem?_cons_succ, List.set_cons_zero, List.set_cons_succ, gs_gx, fx_int, fx_ref, fx_null, gs_px, gs_lx, gs_ax, gs_sx, ft_int, ft_ref, ft_b0, ft_b1, c1_int, c1_ref, List.length_cons, List.length_nil, Nat.reduceAdd, Nat.reduceLT, Nat.reduceLeDiff, true_and, and_true, true_or, or_true, not_false_eq_true, Option.toList_some, Option.toList_none, List.nil_append, List.singleton_append, List.cons_append, e127, g1, n5_127]
    rw [if_pos (nI_le (by omega) (by omega))]
    have := K pa ln va (by simpa [stF] using hs)
    simpa [stF] using this
  | succ f ih =>
    intro p pre pa ln va x2 x3 x4 x5 x6 hf hi hp hs K
    obtain ⟨hlen, hfl, h128, hl, hn, h129, hcr, hC, hC2, hCb, f0, f1, f2, f3, f17, f18, f19⟩ := id I
    have e127 : ∀ pa ln va m, (ml h fs pa ln va m)[127]? = some (.inr (12, fs.set 20 (.int m))) := fun _ _ _ _ => ml_127 hlen
    have e128 : ∀ pa ln va m, (ml h fs pa ln va m)[128]? = some (.inl (0, l)) := fun _ _ _ _ => (ml_ne (by decide) (by decide)).trans h128
    have e129 : ∀ pa ln va m, (ml h fs pa ln va m)[129]? = some (.inl (0, cr)) := fun _ _ _ _ => (ml_ne (by decide) (by decide)).trans h129
    have e139 : ∀ pa ln va m, (ml h fs pa ln va m)[139]? = some (.inl (0, pa)) := fun _ _ _ _ => ml_139 hlen
    have e140 : ∀ pa ln va m, (ml h fs pa ln va m)[140]? = some (.inl (0, ln)) := fun _ _ _ _ => ml_140 hlen
    have e141 : ∀ pa ln va m, (ml h fs pa ln va m)[141]? = some (.inl (0, va)) := fun _ _ _ _ => ml_141 hlen
    have g0 : ∀ x, (fs.set 20 x)[0]? = some (.ref 128) := fun x => (fs_ne (by decide)).trans f0
    have g1 : ∀ x, (fs.set 20 x)[1]? = some (.int (nI n)) := fun x => (fs_ne (by decide)).trans f1
    have g2 : ∀ x, (fs.set 20 x)[2]? = some (.ref 129) := fun x => (fs_ne (by decide)).trans f2
    have g3 : ∀ x, (fs.set 20 x)[3]? = some (.int (nI C.length)) := fun x => (fs_ne (by decide)).trans f3
    have g17 : ∀ x, (fs.set 20 x)[17]? = some (.ref 139) := fun x => (fs_ne (by decide)).trans f17
    have g18 : ∀ x, (fs.set 20 x)[18]? = some (.ref 140) := fun x => (fs_ne (by decide)).trans f18
    have g19 : ∀ x, (fs.set 20 x)[19]? = some (.ref 141) := fun x => (fs_ne (by decide)).trans f19
    have g20 : ∀ x, (fs.set 20 x)[20]? = some x := fun x => fs_at (by omega)
    have gl : ∀ x, (fs.set 20 x).length = 51 := fun x => by rw [List.length_set]; exact hfl
    rw [g_123_7]
    simp only [g_123_0, g_123_1, g_123_2, g_123_5, g_123_6, g_123_8, g_123_9, g_123_12, g_123_15, g_123_16, g_123_20, g_123_21, g_123_22, g_123_23, g_123_24, g_123_27, g_123_30, g_123_33, g_123_36, g_123_37, g_123_38, g_123_39, g_123_40, g_123_41, g_123_43, g_123_44, g_123_45, g_123_46, g_123_50, g_123_53, g_123_54, g_123_56, g_123_58, g_123_59, g_123_62, g_123_63, g_123_66, g_123_68, g_123_70, g_123_71, g_123_72, g_123_73, g_123_76, g_123_77, g_123_79, g_123_80, g_123_81, g_123_84, g_123_87, g_123_90, g_123_92, g_123_93, g_123_96, g_123_98, g_123_99, g_123_100, g_123_102, g_123_103, g_123_105, g_123_108, g_123_111, g_123_112, g_123_113, g_123_116, g_123_117, g_123_120, g_123_121, g_123_123, g_123_124, g_123_127, g_123_128, g_123_131, g_123_132, g_123_133, g_123_134, g_123_137, g_123_138, g_123_141, g_123_143, g_123_146, g_123_147, g_123_150, g_123_151, g_123_152, g_123_153, g_123_156, g_123_157, g_123_160, g_123_162, g_123_165, g_123_167, g_123_170, g_123_171, g_123_174, g_123_175, g_123_176, g_123_177, g_123_178, g_123_179, g_123_182, g_123_183, g_123_186, g_123_187, g_123_188, g_123_189, g_123_190, g_123_191, g_123_194, g_123_195, g_123_196, g_123_199, g_123_202, gs_nx, db_inx, gs_ldi, gs_lda, gs_ldn, List.getElem?_cons_zero, List.getElem?_cons_succ, List.set_cons_zero, List.set_cons_succ, gs_gx, fx_int, fx_ref, fx_null, gs_px, gs_lx, gs_ax, gs_sx, ft_int, ft_ref, ft_b0, ft_b1, c1_int, c1_ref, List.length_cons, List.length_nil, Nat.reduceAdd, Nat.reduceLT, Nat.reduceLeDiff, true_and, and_true, true_or, or_true, not_false_eq_true, Option.toList_some, Option.toList_none, List.nil_append, List.singleton_append, List.cons_append, e127, g1, n5_127]
    by_cases hpn : p < n
    · rw [stF, if_pos hpn] at K
      have heg := eo_gt (C := C) hpn
      have hee := (eo_spec p C n).1
      have hm1 : 1 ≤ mst C n p := by unfold mst; omega
      have hm2 : p + mst C n p ≤ 300 := by unfold mst; omega
      have hm3 : mst C n p ≤ eo C p n - p := by unfold mst; omega
      have hle := stpLV_le l p (mst C n p) hm1
      have hble := bs_le l p (mst C n p) p (0, 0) (Nat.zero_le _)
      rw [if_neg (nI_ge hpn (by omega))]
      refine c_123_17 (by simp) n5_127 (e127 _ _ _ _) ?_
      refine m124 (e127 _ _ _ _) (g1 _) (g2 _) (g3 _) (e129 _ _ _ _) (by omega) (by omega) ?_
      rw [hC, eo_nI (by omega) C n (by omega) (fun x hx => by have := hCb x hx; omega)]
      simp only [g_123_0, g_123_1, g_123_2, g_123_5, g_123_6, g_123_8, g_123_9, g_123_12, g_123_15, g_123_16, g_123_20, g_123_21, g_123_22, g_123_23, g_123_24, g_123_27, g_123_30, g_123_33, g_123_36, g_123_37, g_123_38, g_123_39, g_123_40, g_123_41, g_123_43, g_123_44, g_123_45, g_123_46, g_123_50, g_123_53, g_123_54, g_123_56, g_123_58, g_123_59, g_123_62, g_123_63, g_123_66, g_123_68, g_123_70, g_123_71, g_123_72, g_123_73, g_123_76, g_123_77, g_123_79, g_123_80, g_123_81, g_123_84, g_123_87, g_123_90, g_123_92, g_123_93, g_123_96, g_123_98, g_123_99, g_123_100, g_123_102, g_123_103, g_123_105, g_123_108, g_123_111, g_123_112, g_123_113, g_123_116, g_123_117, g_123_120, g_123_121, g_123_123, g_123_124, g_123_127, g_123_128, g_123_131, g_123_132, g_123_133, g_123_134, g_123_137, g_123_138, g_123_141, g_123_143, g_123_146, g_123_147, g_123_150, g_123_151, g_123_152, g_123_153, g_123_156, g_123_157, g_123_160, g_123_162, g_123_165, g_123_167, g_123_170, g_123_171, g_123_174, g_123_175, g_123_176, g_123_177, g_123_178, g_123_179, g_123_182, g_123_183, g_123_186, g_123_187, g_123_188, g_123_189, g_123_190, g_123_191, g_123_194, g_123_195, g_123_196, g_123_199, g_123_202, gs_nx, db_inx, gs_ldi, gs_lda, gs_ldn, List.getElem?_cons_zero, List.getElem?_cons_succ, List.set_cons_zero, List.set_cons_succ, gs_gx, fx_int, fx_ref, fx_null, gs_px, gs_lx, gs_ax, gs_sx, ft_int, ft_ref, ft_b0, ft_b1, c1_int, c1_ref, List.length_cons, List.length_nil, Nat.reduceAdd, Nat.reduceLT, Nat.reduceLeDiff, true_and, and_true, true_or, or_true, not_false_eq_true, Option.toList_some, Option.toList_none, List.nil_append, List.singleton_append, List.cons_append]
      rw [pk_sub (by omega)]
      have em : mst C n p = if 258 < eo C p n - p then 258 else eo C p n - p := by
        unfold mst
        split <;> omega
      have cont : db_Go 123 48 [.ref 127, .int (nI p), .int (nI (mst C n p)), .int (nI 0), .int (nI 0), .int (nI p - nI 1), x6] [] (ml h fs pa ln va (nI pre.length)) P := by
        refine m123_from I hm2 p (0, 0) x6 (Nat.le_refl p) (by decide) (fun y z => ?_)
        have fin : ∀ (x3 x4 x5 : Value), db_Go 123 7 [.ref 127, .int (nI (p + (stpLV l p (mst C n p)).1)), .int (nI (mst C n p)), x3, x4, x5, z] [] (ml h fs (pa.set pre.length (nI p)) (ln.set pre.length (nI (stpLV l p (mst C n p)).1)) (va.set pre.length (stpLV l p (mst C n p)).2) (nI (pre.length + 1))) P := by
          intro x3 x4 x5
          have hl2 : (pre ++ [(p, stpLV l p (mst C n p))]).length = pre.length + 1 := by simp
          rw [← hl2]
          refine ih (p + (stpLV l p (mst C n p)).1) (pre ++ [(p, stpLV l p (mst C n p))]) _ _ _ _ _ _ _ _ (by omega) (by rw [hl2]; omega) (by omega) (stOK_add (t := (p, stpLV l p (mst C n p))) hs (by omega)) ?_
          intro pa' ln' va' h2
          rw [List.append_assoc, List.singleton_append] at h2 ⊢
          exact K pa' ln' va' h2
        generalize hq : bs l p (mst C n p) p (0, 0) = q at hble
        have hst : stpLV l p (mst C n p) = if 3 ≤ q.1 then (q.1, nI q.2) else (1, l.getD p 0) := by
          unfold stpLV
          rw [hq]
        simp only [g_123_0, g_123_1, g_123_2, g_123_5, g_123_6, g_123_8, g_123_9, g_123_12, g_123_15, g_123_16, g_123_20, g_123_21, g_123_22, g_123_23, g_123_24, g_123_27, g_123_30, g_123_33, g_123_36, g_123_37, g_123_38, g_123_39, g_123_40, g_123_41, g_123_43, g_123_44, g_123_45, g_123_46, g_123_50, g_123_53, g_123_54, g_123_56, g_123_58, g_123_59, g_123_62, g_123_63, g_123_66, g_123_68, g_123_70, g_123_71, g_123_72, g_123_73, g_123_76, g_123_77, g_123_79, g_123_80, g_123_81, g_123_84, g_123_87, g_123_90, g_123_92, g_123_93, g_123_96, g_123_98, g_123_99, g_123_100, g_123_102, g_123_103, g_123_105, g_123_108, g_123_111, g_123_112, g_123_113, g_123_116, g_123_117, g_123_120, g_123_121, g_123_123, g_123_124, g_123_127, g_123_128, g_123_131, g_123_132, g_123_133, g_123_134, g_123_137, g_123_138, g_123_141, g_123_143, g_123_146, g_123_147, g_123_150, g_123_151, g_123_152, g_123_153, g_123_156, g_123_157, g_123_160, g_123_162, g_123_165, g_123_167, g_123_170, g_123_171, g_123_174, g_123_175, g_123_176, g_123_177, g_123_178, g_123_179, g_123_182, g_123_183, g_123_186, g_123_187, g_123_188, g_123_189, g_123_190, g_123_191, g_123_194, g_123_195, g_123_196, g_123_199, g_123_202, gs_nx, db_inx, gs_ldi, gs_lda, gs_ldn, List.getElem?_cons_zero, List.getElem?_cons_succ, List.set_cons_zero, List.set_cons_succ, gs_gx, fx_int, fx_ref, fx_null, gs_px, gs_lx, gs_ax, gs_sx, ft_int, ft_ref, ft_b0, ft_b1, c1_int, c1_ref, List.length_cons, List.length_nil, Nat.reduceAdd, Nat.reduceLT, Nat.reduceLeDiff, true_and, and_true, true_or, or_true, not_false_eq_true, Option.toList_some, Option.toList_none, List.nil_append, List.singleton_append, List.cons_append, e127, e128, e139, e140, e141, g0, g1, g2, g3, g17, g18, g19, g20, gl, n5_127, n5_139, n5_140, n5_141, ml_s139, ml_s140, ml_s141, ml_s127]
        rw [nI_clamp (by omega), hs.1, hs.2.1, hs.2.2.1, nI_clamp (by omega), hl]
        by_cases h3 : q.1 < 3
        · rw [if_neg (show ¬ 3 ≤ q.1 by omega)] at hst
          rw [if_pos (nI_lt h3 (by decide))]
          simp only [if_true]
          rw [List.length_set, hs.2.1, gd_self (by rw [hs.2.1]; omega), nI_add, nI_add]
          refine ⟨in_nI (by omega) (by decide), in_nI (by omega) (by decide), in_nI (by omega) (by decide), in_nI (by omega) (by decide), in_nI (by omega) (by decide), ?_⟩
          have := fin (.int (nI q.1)) (.int (nI q.2)) (.int (nI 0))
          rw [hst] at this
          exact this
        · rw [if_pos (show 3 ≤ q.1 by omega)] at hst
          rw [if_neg (nI_nlt (by omega) (by omega)), if_neg (show ¬ nI 1 = nI 0 by decide), if_neg (show ¬ nI 1 = nI 0 by decide)]
          rw [List.length_set, hs.2.1, gd_self (by rw [hs.2.1]; omega), nI_add, nI_add]
          refine ⟨in_nI (by omega) (by decide), in_nI (by omega) (by decide), in_nI (by omega) (by decide), in_nI (by omega) (by decide), ?_⟩
          have := fin (.int (nI q.1)) (.int (nI q.2)) (.int (nI 1))
          rw [hst] at this
          exact this
      by_cases h258 : 258 < eo C p n - p
      · rw [if_neg (nI_ge h258 (by omega))]
        rw [em, if_pos h258] at cont
        exact cont
      · rw [if_pos (nI_le (by omega) (by decide))]
        rw [em, if_neg h258] at cont
        exact cont
    · rw [stF, if_neg hpn, List.append_nil] at K
      rw [if_pos (nI_le (by omega) (by omega))]
      exact K pa ln va hs
/-- laySteps -/
theorem m123 (I : lyI h fs l cr n C) (h1 : pa.length = 300) (h2 : ln.length = 300) (h3 : va.length = 300) (K : ∀ pa' ln' va', stOK pa' ln' va' (steps l C n) → P none (ml h fs pa' ln' va' (nI (steps l C n).length))) : db_Go 123 0 [.ref 127, .retAddr 0, .retAddr 0, .retAddr 0, .retAddr 0, .retAddr 0, .retAddr 0] [] (ml h fs pa ln va m) P := by
  have e127 := ml_127 (fs := fs) (pa := pa) (ln := ln) (va := va) (m := m) I.1
  have gl : (fs.set 20 (.int m)).length = 51 := by rw [List.length_set]; exact I.2.1
  simp only [g_123_0, g_123_1, g_123_2, g_123_5, g_123_6, g_123_8, g_123_9, g_123_12, g_123_15, g_123_16, g_123_20, g_123_21, g_123_22, g_123_23, g_123_24, g_123_27, g_123_30, g_123_33, g_123_36, g_123_37, g_123_38, g_123_39, g_123_40, g_123_41, g_123_43, g_123_44, g_123_45, g_123_46, g_123_50, g_123_53, g_123_54, g_123_56, g_123_58, g_123_59, g_123_62, g_123_63, g_123_66, g_123_68, g_123_70, g_123_71, g_123_72, g_123_73, g_123_76, g_123_77, g_123_79, g_123_80, g_123_81, g_123_84, g_123_87, g_123_90, g_123_92, g_123_93, g_123_96, g_123_98, g_123_99, g_123_100, g_123_102, g_123_103, g_123_105, g_123_108, g_123_111, g_123_112, g_123_113, g_123_116, g_123_117, g_123_120, g_123_121, g_123_123, g_123_124, g_123_127, g_123_128, g_123_131, g_123_132, g_123_133, g_123_134, g_123_137, g_123_138, g_123_141, g_123_143, g_123_146, g_123_147, g_123_150, g_123_151, g_123_152, g_123_153, g_123_156, g_123_157, g_123_160, g_123_162, g_123_165, g_123_167, g_123_170, g_123_171, g_123_174, g_123_175, g_123_176, g_123_177, g_123_178, g_123_179, g_123_182, g_123_183, g_123_186, g_123_187, g_123_188, g_123_189, g_123_190, g_123_191, g_123_194, g_123_195, g_123_196, g_123_199, g_123_202, gs_nx, db_inx, gs_ldi, gs_lda, gs_ldn, List.getElem?_cons_zero, List.getElem?_cons_succ, List.set_cons_zero, List.set_cons_succ, gs_gx, fx_int, fx_ref, fx_null, gs_px, gs_lx, gs_ax, gs_sx, ft_int, ft_ref, ft_b0, ft_b1, c1_int, c1_ref, List.length_cons, List.length_nil, Nat.reduceAdd, Nat.reduceLT, Nat.reduceLeDiff, true_and, and_true, true_or, or_true, not_false_eq_true, Option.toList_some, Option.toList_none, List.nil_append, List.singleton_append, List.cons_append, e127, gl, n5_127, ml_s127]
  exact m123_loop I n 0 [] pa ln va _ _ _ _ _ (by omega) (by simp) (by omega) (stOK_nil h1 h2 h3) K
end LY
