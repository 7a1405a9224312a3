/-! CUTS: the class's Cuts (cells 10, 11), the model's cuts (129); a BLOCK's end; the model's object is cell 127 with the fields fs -/
def eoS (p e c : Int32) : Int32 := if c ≤ p then e else if e ≤ c then e else c
theorem n5_127 : ¬ 127 < db_n := by decide
theorem n5_129 : ¬ 129 < db_n := by decide
theorem n5_10 : ¬ 10 < db_n := by decide
theorem n5_11 : ¬ 11 < db_n := by decide
section CU
variable {h : db_H} {P : Option Value → db_H → Prop} {c : Nat} {l : List Int32} {fs : List Value}
theorem m31_loop {p e0 : Int32} (hb : h[10]? = some (.inr (3, [.ref 11, .int (nI c)]))) (hr : h[11]? = some (.inl (0, l))) (hn : c ≤ l.length) (hl : l.length < 2 ^ 31) : ∀ (d i : Nat) (e : Int32), i + d = c → P (some (.int (fIx (eoS p) l i d e))) h → db_Go 31 5 [.ref 10, .int p, .int e0, .int e, .int (nI i)] [] h P := by
  intro d
  induction d with
  | zero =>
    intro i e hi k
    rw [g_31_5]
    simp only [g_31_0, g_31_1, g_31_2, g_31_3, g_31_7, g_31_8, g_31_11, g_31_14, g_31_16, g_31_17, g_31_20, g_31_21, g_31_24, g_31_25, g_31_28, g_31_30, g_31_31, g_31_32, g_31_35, g_31_36, g_31_39, g_31_41, g_31_42, g_31_43, g_31_46, g_31_47, g_31_50, g_31_52, g_31_53, g_31_54, g_31_57, g_31_60, g_31_61, gs_nx, db_inx, gs_ldi, gs_lda, gs_ldn, List.getElem?_cons_zero, List.getElem?_cons_succ, List.set_cons_zero, List.set_cons_succ, gs_gx, fx_int, fx_ref, fx_null, gs_px, gs_lx, gs_ax, gs_sx, ft_int, ft_ref, ft_b0, ft_b1, c1_int, c1_ref, List.length_cons, List.length_nil, Nat.reduceAdd, Nat.reduceLT, Nat.reduceLeDiff, true_and, and_true, true_or, or_true, not_false_eq_true, Option.toList_some, Option.toList_none, List.nil_append, List.singleton_append, List.cons_append, hb, hr, n5_10]
    rw [if_pos (nI_le (by omega) (by omega))]
    exact k
  | succ d ih =>
    intro i e hi k
    rw [g_31_5]
    simp only [g_31_0, g_31_1, g_31_2, g_31_3, g_31_7, g_31_8, g_31_11, g_31_14, g_31_16, g_31_17, g_31_20, g_31_21, g_31_24, g_31_25, g_31_28, g_31_30, g_31_31, g_31_32, g_31_35, g_31_36, g_31_39, g_31_41, g_31_42, g_31_43, g_31_46, g_31_47, g_31_50, g_31_52, g_31_53, g_31_54, g_31_57, g_31_60, g_31_61, gs_nx, db_inx, gs_ldi, gs_lda, gs_ldn, List.getElem?_cons_zero, List.getElem?_cons_succ, List.set_cons_zero, List.set_cons_succ, gs_gx, fx_int, fx_ref, fx_null, gs_px, gs_lx, gs_ax, gs_sx, ft_int, ft_ref, ft_b0, ft_b1, c1_int, c1_ref, List.length_cons, List.length_nil, Nat.reduceAdd, Nat.reduceLT, Nat.reduceLeDiff, true_and, and_true, true_or, or_true, not_false_eq_true, Option.toList_some, Option.toList_none, List.nil_append, List.singleton_append, List.cons_append, hb, hr, n5_10]
    rw [if_neg (nI_ge (by omega) (by omega)), if_neg (nI_ge (by omega) hl), nI_clamp (by omega), nI_add]
    refine ⟨in_nI (by omega) hl, ?_⟩
    have := ih (i + 1) (eoS p e (l.getD i 0)) (by omega) k
    unfold eoS at this
    by_cases h1 : l.getD i 0 ≤ p
    · rw [if_pos h1] at this
      rw [if_pos h1]
      exact this
    · rw [if_neg h1] at this
      rw [if_neg h1]
      refine ⟨in_nI (by omega) hl, ?_⟩
      by_cases h2 : e ≤ l.getD i 0
      · rw [if_pos h2] at this
        rw [if_pos h2]
        exact this
      · rw [if_neg h2] at this
        rw [if_neg h2]
        exact ⟨in_nI (by omega) hl, this⟩
/-- endOfBlock -/
theorem m31 {p e0 : Int32} (hb : h[10]? = some (.inr (3, [.ref 11, .int (nI c)]))) (hr : h[11]? = some (.inl (0, l))) (hn : c ≤ l.length) (hl : l.length < 2 ^ 31) (k : P (some (.int ((l.take c).foldl (eoS p) e0))) h) : db_Go 31 0 [.ref 10, .int p, .int e0, .retAddr 0, .retAddr 0] [] h P := by
  simp only [g_31_0, g_31_1, g_31_2, g_31_3, g_31_7, g_31_8, g_31_11, g_31_14, g_31_16, g_31_17, g_31_20, g_31_21, g_31_24, g_31_25, g_31_28, g_31_30, g_31_31, g_31_32, g_31_35, g_31_36, g_31_39, g_31_41, g_31_42, g_31_43, g_31_46, g_31_47, g_31_50, g_31_52, g_31_53, g_31_54, g_31_57, g_31_60, g_31_61, gs_nx, db_inx, gs_ldi, gs_lda, gs_ldn, List.getElem?_cons_zero, List.getElem?_cons_succ, List.set_cons_zero, List.set_cons_succ, gs_gx, fx_int, fx_ref, fx_null, gs_px, gs_lx, gs_ax, gs_sx, ft_int, ft_ref, ft_b0, ft_b1, c1_int, c1_ref, List.length_cons, List.length_nil, Nat.reduceAdd, Nat.reduceLT, Nat.reduceLeDiff, true_and, and_true, true_or, or_true, not_false_eq_true, Option.toList_some, Option.toList_none, List.nil_append, List.singleton_append, List.cons_append]
  refine m31_loop hb hr hn hl c 0 _ (by omega) ?_
  rw [fIx_0 _ l c _ hn]
  exact k
theorem m124_loop {p : Int32} (hb : h[127]? = some (.inr (12, fs))) (h2 : fs[2]? = some (.ref 129)) (h3 : fs[3]? = some (.int (nI c))) (hr : h[129]? = some (.inl (0, l))) (hn : c ≤ l.length) (hl : l.length < 2 ^ 31) : ∀ (d i : Nat) (e : Int32), i + d = c → P (some (.int (fIx (eoS p) l i d e))) h → db_Go 124 7 [.ref 127, .int p, .int e, .int (nI i)] [] h P := by
  intro d
  induction d with
  | zero =>
    intro i e hi k
    rw [g_124_7]
    simp only [g_124_0, g_124_1, g_124_4, g_124_5, g_124_6, g_124_8, g_124_9, g_124_12, g_124_15, g_124_16, g_124_19, g_124_20, g_124_21, g_124_22, g_124_25, g_124_26, g_124_29, g_124_30, g_124_31, g_124_32, g_124_35, g_124_36, g_124_39, g_124_40, g_124_41, g_124_44, g_124_45, g_124_46, g_124_49, g_124_52, g_124_53, gs_nx, db_inx, gs_ldi, gs_lda, gs_ldn, List.getElem?_cons_zero, List.getElem?_cons_succ, List.set_cons_zero, List.set_cons_succ, gs_gx, fx_int, fx_ref, fx_null, gs_px, gs_lx, gs_ax, gs_sx, ft_int, ft_ref, ft_b0, ft_b1, c1_int, c1_ref, List.length_cons, List.length_nil, Nat.reduceAdd, Nat.reduceLT, Nat.reduceLeDiff, true_and, and_true, true_or, or_true, not_false_eq_true, Option.toList_some, Option.toList_none, List.nil_append, List.singleton_append, List.cons_append, hb, hr, h2, h3, n5_127]
    rw [if_pos (nI_le (by omega) (by omega))]
    exact k
  | succ d ih =>
    intro i e hi k
    rw [g_124_7]
    simp only [g_124_0, g_124_1, g_124_4, g_124_5, g_124_6, g_124_8, g_124_9, g_124_12, g_124_15, g_124_16, g_124_19, g_124_20, g_124_21, g_124_22, g_124_25, g_124_26, g_124_29, g_124_30, g_124_31, g_124_32, g_124_35, g_124_36, g_124_39, g_124_40, g_124_41, g_124_44, g_124_45, g_124_46, g_124_49, g_124_52, g_124_53, gs_nx, db_inx, gs_ldi, gs_lda, gs_ldn, List.getElem?_cons_zero, List.getElem?_cons_succ, List.set_cons_zero, List.set_cons_succ, gs_gx, fx_int, fx_ref, fx_null, gs_px, gs_lx, gs_ax, gs_sx, ft_int, ft_ref, ft_b0, ft_b1, c1_int, c1_ref, List.length_cons, List.length_nil, Nat.reduceAdd, Nat.reduceLT, Nat.reduceLeDiff, true_and, and_true, true_or, or_true, not_false_eq_true, Option.toList_some, Option.toList_none, List.nil_append, List.singleton_append, List.cons_append, hb, hr, h2, h3, n5_127]
    rw [if_neg (nI_ge (by omega) (by omega)), nI_clamp (by omega), nI_add]
    refine ⟨in_nI (by omega) hl, ?_⟩
    have := ih (i + 1) (eoS p e (l.getD i 0)) (by omega) k
    unfold eoS at this
    by_cases h1 : l.getD i 0 ≤ p
    · rw [if_pos h1] at this
      rw [if_pos h1]
      exact this
    · rw [if_neg h1] at this
      rw [if_neg h1]
      refine ⟨in_nI (by omega) hl, ?_⟩
      by_cases h2 : e ≤ l.getD i 0
      · rw [if_pos h2] at this
        rw [if_pos h2]
        exact this
      · rw [if_neg h2] at this
        rw [if_neg h2]
        exact ⟨in_nI (by omega) hl, this⟩
/-- the model's endOf -/
theorem m124 {p : Int32} {n : Nat} (hb : h[127]? = some (.inr (12, fs))) (h1 : fs[1]? = some (.int (nI n))) (h2 : fs[2]? = some (.ref 129)) (h3 : fs[3]? = some (.int (nI c))) (hr : h[129]? = some (.inl (0, l))) (hn : c ≤ l.length) (hl : l.length < 2 ^ 31) (k : P (some (.int ((l.take c).foldl (eoS p) (nI n)))) h) : db_Go 124 0 [.ref 127, .int p, .retAddr 0, .retAddr 0] [] h P := by
  simp only [g_124_0, g_124_1, g_124_4, g_124_5, g_124_6, g_124_8, g_124_9, g_124_12, g_124_15, g_124_16, g_124_19, g_124_20, g_124_21, g_124_22, g_124_25, g_124_26, g_124_29, g_124_30, g_124_31, g_124_32, g_124_35, g_124_36, g_124_39, g_124_40, g_124_41, g_124_44, g_124_45, g_124_46, g_124_49, g_124_52, g_124_53, gs_nx, db_inx, gs_ldi, gs_lda, gs_ldn, List.getElem?_cons_zero, List.getElem?_cons_succ, List.set_cons_zero, List.set_cons_succ, gs_gx, fx_int, fx_ref, fx_null, gs_px, gs_lx, gs_ax, gs_sx, ft_int, ft_ref, ft_b0, ft_b1, c1_int, c1_ref, List.length_cons, List.length_nil, Nat.reduceAdd, Nat.reduceLT, Nat.reduceLeDiff, true_and, and_true, true_or, or_true, not_false_eq_true, Option.toList_some, Option.toList_none, List.nil_append, List.singleton_append, List.cons_append, hb, h1, n5_127]
  refine m124_loop hb h2 h3 hr hn hl c 0 _ (by omega) ?_
  rw [fIx_0 _ l c _ hn]
  exact k
/-- is it among the first c -/
theorem m24_loop {v : Int32} (hb : h[10]? = some (.inr (3, [.ref 11, .int (nI c)]))) (hr : h[11]? = some (.inl (0, l))) (hn : c ≤ l.length) (hl : l.length < 2 ^ 31) (k1 : v ∈ l.take c → P (some (.int (nI 1))) h) (k0 : v ∉ l.take c → db_Go 24 37 [.ref 10, .int v, .int (nI c)] [] h P) : ∀ (d i : Nat), i + d = c → (∀ j, j < i → ¬ l.getD j 0 = v) → db_Go 24 2 [.ref 10, .int v, .int (nI i)] [] h P := by
  intro d
  induction d with
  | zero =>
    intro i hi hj
    rw [g_24_2]
    simp only [g_24_0, g_24_1, g_24_3, g_24_4, g_24_7, g_24_10, g_24_11, g_24_12, g_24_15, g_24_16, g_24_19, g_24_20, g_24_23, g_24_24, g_24_25, g_24_26, g_24_29, g_24_30, g_24_31, g_24_34, g_24_38, g_24_41, g_24_44, g_24_45, g_24_48, g_24_49, g_24_52, g_24_53, g_24_56, g_24_57, g_24_58, g_24_59, g_24_62, g_24_63, g_24_66, g_24_67, g_24_68, g_24_69, g_24_70, g_24_73, g_24_74, g_24_75, g_24_78, g_24_79, gs_nx, db_inx, gs_ldi, gs_lda, gs_ldn, List.getElem?_cons_zero, List.getElem?_cons_succ, List.set_cons_zero, List.set_cons_succ, gs_gx, fx_int, fx_ref, fx_null, gs_px, gs_lx, gs_ax, gs_sx, ft_int, ft_ref, ft_b0, ft_b1, c1_int, c1_ref, List.length_cons, List.length_nil, Nat.reduceAdd, Nat.reduceLT, Nat.reduceLeDiff, true_and, and_true, true_or, or_true, not_false_eq_true, Option.toList_some, Option.toList_none, List.nil_append, List.singleton_append, List.cons_append, hb, hr, n5_10]
    rw [if_pos (nI_le (by omega) (by omega)), show i = c by omega]
    refine k0 (fun hv => ?_)
    obtain ⟨j, hj1, hj2⟩ := List.getElem?_of_mem hv |>.imp (fun j e => List.getElem?_eq_some_iff.mp e)
    refine hj j (by simp at hj1; omega) ?_
    rw [List.getElem_take] at hj2
    rw [List.getD_eq_getElem?_getD, List.getElem?_eq_getElem (by simp at hj1; omega), Option.getD_some]
    exact hj2
  | succ d ih =>
    intro i hi hj
    rw [g_24_2]
    simp only [g_24_0, g_24_1, g_24_3, g_24_4, g_24_7, g_24_10, g_24_11, g_24_12, g_24_15, g_24_16, g_24_19, g_24_20, g_24_23, g_24_24, g_24_25, g_24_26, g_24_29, g_24_30, g_24_31, g_24_34, g_24_38, g_24_41, g_24_44, g_24_45, g_24_48, g_24_49, g_24_52, g_24_53, g_24_56, g_24_57, g_24_58, g_24_59, g_24_62, g_24_63, g_24_66, g_24_67, g_24_68, g_24_69, g_24_70, g_24_73, g_24_74, g_24_75, g_24_78, g_24_79, gs_nx, db_inx, gs_ldi, gs_lda, gs_ldn, List.getElem?_cons_zero, List.getElem?_cons_succ, List.set_cons_zero, List.set_cons_succ, gs_gx, fx_int, fx_ref, fx_null, gs_px, gs_lx, gs_ax, gs_sx, ft_int, ft_ref, ft_b0, ft_b1, c1_int, c1_ref, List.length_cons, List.length_nil, Nat.reduceAdd, Nat.reduceLT, Nat.reduceLeDiff, true_and, and_true, true_or, or_true, not_false_eq_true, Option.toList_some, Option.toList_none, List.nil_append, List.singleton_append, List.cons_append, hb, hr, n5_10]
    rw [if_neg (nI_ge (by omega) (by omega)), if_neg (nI_ge (by omega) hl), nI_clamp (by omega), nI_add]
    refine ⟨in_nI (by omega) hl, ?_⟩
    by_cases hv : l.getD i 0 = v
    · rw [if_neg (not_not_intro hv)]
      refine k1 ?_
      have hi2 : i < l.length := by omega
      rw [List.getD_eq_getElem?_getD, List.getElem?_eq_getElem hi2, Option.getD_some] at hv
      rw [← hv]
      exact List.mem_of_getElem? (i := i) (by rw [List.getElem?_take_of_lt (by omega), List.getElem?_eq_getElem hi2])
    · rw [if_pos hv]
      exact ih (i + 1) (by omega) (fun j h2 => by
        by_cases e : j = i
        · rw [e]; exact hv
        · exact hj j (by omega))
/-- Cuts.add -/
theorem m24 {v : Int32} (hb : h[10]? = some (.inr (3, [.ref 11, .int (nI c)]))) (hr : h[11]? = some (.inl (0, l))) (hn : c ≤ l.length) (hl : l.length < 2 ^ 31) (k1 : v ∈ l.take c → P (some (.int (nI 1))) h)
    (k2 : v ∉ l.take c → c < l.length → P (some (.int (nI 1))) ((h.set 11 (.inl (0, l.set c v))).set 10 (.inr (3, [.ref 11, .int (nI (c + 1))])))) (k3 : v ∉ l.take c → ¬ c < l.length → P (some (.int (nI 0))) h) : db_Go 24 0 [.ref 10, .int v, .retAddr 0] [] h P := by
  simp only [g_24_0, g_24_1, g_24_3, g_24_4, g_24_7, g_24_10, g_24_11, g_24_12, g_24_15, g_24_16, g_24_19, g_24_20, g_24_23, g_24_24, g_24_25, g_24_26, g_24_29, g_24_30, g_24_31, g_24_34, g_24_37, g_24_38, g_24_41, g_24_44, g_24_45, g_24_48, g_24_49, g_24_52, g_24_53, g_24_56, g_24_57, g_24_58, g_24_59, g_24_62, g_24_63, g_24_66, g_24_67, g_24_68, g_24_69, g_24_70, g_24_73, g_24_74, g_24_75, g_24_78, g_24_79, gs_nx, db_inx, gs_ldi, gs_lda, gs_ldn, List.getElem?_cons_zero, List.getElem?_cons_succ, List.set_cons_zero, List.set_cons_succ, gs_gx, fx_int, fx_ref, fx_null, gs_px, gs_lx, gs_ax, gs_sx, ft_int, ft_ref, ft_b0, ft_b1, c1_int, c1_ref, List.length_cons, List.length_nil, Nat.reduceAdd, Nat.reduceLT, Nat.reduceLeDiff, true_and, and_true, true_or, or_true, not_false_eq_true, Option.toList_some, Option.toList_none, List.nil_append, List.singleton_append, List.cons_append]
  refine m24_loop hb hr hn hl k1 (fun hv => ?_) c 0 (by omega) (fun j h => absurd h (Nat.not_lt_zero j))
  have hne : ¬ 11 = 10 := by decide
  simp only [g_24_0, g_24_1, g_24_3, g_24_4, g_24_7, g_24_10, g_24_11, g_24_12, g_24_15, g_24_16, g_24_19, g_24_20, g_24_23, g_24_24, g_24_25, g_24_26, g_24_29, g_24_30, g_24_31, g_24_34, g_24_37, g_24_38, g_24_41, g_24_44, g_24_45, g_24_48, g_24_49, g_24_52, g_24_53, g_24_56, g_24_57, g_24_58, g_24_59, g_24_62, g_24_63, g_24_66, g_24_67, g_24_68, g_24_69, g_24_70, g_24_73, g_24_74, g_24_75, g_24_78, g_24_79, gs_nx, db_inx, gs_ldi, gs_lda, gs_ldn, List.getElem?_cons_zero, List.getElem?_cons_succ, List.set_cons_zero, List.set_cons_succ, gs_gx, fx_int, fx_ref, fx_null, gs_px, gs_lx, gs_ax, gs_sx, ft_int, ft_ref, ft_b0, ft_b1, c1_int, c1_ref, List.length_cons, List.length_nil, Nat.reduceAdd, Nat.reduceLT, Nat.reduceLeDiff, true_and, and_true, true_or, or_true, not_false_eq_true, Option.toList_some, Option.toList_none, List.nil_append, List.singleton_append, List.cons_append, hb, hr, n5_10, n5_11, hs_ne hne]
  rw [if_neg (nI_lt0 (by omega)), nI_clamp (by omega), nI_add]
  by_cases hc : c < l.length
  · rw [if_pos (nI_lt hc hl)]
    exact ⟨in_nI hc hl, k2 hv hc⟩
  · rw [if_neg (nI_nlt (by omega) (by omega))]
    exact k3 hv hc
theorem m120_loop {v : Int32} (hb : h[127]? = some (.inr (12, fs))) (h2 : fs[2]? = some (.ref 129)) (h3 : fs[3]? = some (.int (nI c))) (hr : h[129]? = some (.inl (0, l))) (hn : c ≤ l.length) (hl : l.length < 2 ^ 31) (k1 : v ∈ l.take c → P (some (.int (nI c))) h) (k0 : v ∉ l.take c → db_Go 120 45 [.ref 127, .int v, .int (nI c)] [] h P) : ∀ (d i : Nat), i + d = c → (∀ j, j < i → ¬ l.getD j 0 = v) → db_Go 120 16 [.ref 127, .int v, .int (nI i)] [] h P := by
  intro d
  induction d with
  | zero =>
    intro i hi hj
    rw [g_120_16]
    simp only [g_120_0, g_120_1, g_120_2, g_120_8, g_120_11, g_120_13, g_120_14, g_120_15, g_120_17, g_120_18, g_120_21, g_120_24, g_120_25, g_120_28, g_120_29, g_120_30, g_120_31, g_120_34, g_120_35, g_120_38, g_120_39, g_120_42, g_120_46, g_120_49, g_120_50, g_120_53, g_120_55, g_120_56, g_120_57, g_120_60, g_120_61, g_120_64, g_120_65, g_120_66, g_120_67, g_120_68, g_120_71, g_120_72, g_120_73, g_120_76, g_120_77, g_120_80, gs_nx, db_inx, gs_ldi, gs_lda, gs_ldn, List.getElem?_cons_zero, List.getElem?_cons_succ, List.set_cons_zero, List.set_cons_succ, gs_gx, fx_int, fx_ref, fx_null, gs_px, gs_lx, gs_ax, gs_sx, ft_int, ft_ref, ft_b0, ft_b1, c1_int, c1_ref, List.length_cons, List.length_nil, Nat.reduceAdd, Nat.reduceLT, Nat.reduceLeDiff, true_and, and_true, true_or, or_true, not_false_eq_true, Option.toList_some, Option.toList_none, List.nil_append, List.singleton_append, List.cons_append, hb, hr, h2, h3, n5_127]
    rw [if_pos (nI_le (by omega) (by omega)), show i = c by omega]
    refine k0 (fun hv => ?_)
    obtain ⟨j, hj1, hj2⟩ := List.getElem?_of_mem hv |>.imp (fun j e => List.getElem?_eq_some_iff.mp e)
    refine hj j (by simp at hj1; omega) ?_
    rw [List.getElem_take] at hj2
    rw [List.getD_eq_getElem?_getD, List.getElem?_eq_getElem (by simp at hj1; omega), Option.getD_some]
    exact hj2
  | succ d ih =>
    intro i hi hj
    rw [g_120_16]
    simp only [g_120_0, g_120_1, g_120_2, g_120_8, g_120_11, g_120_13, g_120_14, g_120_15, g_120_17, g_120_18, g_120_21, g_120_24, g_120_25, g_120_28, g_120_29, g_120_30, g_120_31, g_120_34, g_120_35, g_120_38, g_120_39, g_120_42, g_120_46, g_120_49, g_120_50, g_120_53, g_120_55, g_120_56, g_120_57, g_120_60, g_120_61, g_120_64, g_120_65, g_120_66, g_120_67, g_120_68, g_120_71, g_120_72, g_120_73, g_120_76, g_120_77, g_120_80, gs_nx, db_inx, gs_ldi, gs_lda, gs_ldn, List.getElem?_cons_zero, List.getElem?_cons_succ, List.set_cons_zero, List.set_cons_succ, gs_gx, fx_int, fx_ref, fx_null, gs_px, gs_lx, gs_ax, gs_sx, ft_int, ft_ref, ft_b0, ft_b1, c1_int, c1_ref, List.length_cons, List.length_nil, Nat.reduceAdd, Nat.reduceLT, Nat.reduceLeDiff, true_and, and_true, true_or, or_true, not_false_eq_true, Option.toList_some, Option.toList_none, List.nil_append, List.singleton_append, List.cons_append, hb, hr, h2, h3, n5_127]
    rw [if_neg (nI_ge (by omega) (by omega)), nI_clamp (by omega), nI_add]
    refine ⟨in_nI (by omega) hl, ?_⟩
    by_cases hv : l.getD i 0 = v
    · rw [if_neg (not_not_intro hv)]
      refine k1 ?_
      have hi2 : i < l.length := by omega
      rw [List.getD_eq_getElem?_getD, List.getElem?_eq_getElem hi2, Option.getD_some] at hv
      rw [← hv]
      exact List.mem_of_getElem? (i := i) (by rw [List.getElem?_take_of_lt (by omega), List.getElem?_eq_getElem hi2])
    · rw [if_pos hv]
      exact ih (i + 1) (by omega) (fun j h2 => by
        by_cases e : j = i
        · rw [e]; exact hv
        · exact hj j (by omega))
theorem m118 {v a b : Int32} (k : P (some (.int (if v < a then nI 0 else if b < v then nI 0 else nI 1))) h) : db_Go 118 0 [.int v, .int a, .int b] [] h P := by
  simp only [g_118_0, g_118_1, g_118_2, g_118_5, g_118_6, g_118_7, g_118_10, g_118_11, g_118_14, g_118_15, gs_nx, db_inx, gs_ldi, gs_lda, gs_ldn, List.getElem?_cons_zero, List.getElem?_cons_succ, List.set_cons_zero, List.set_cons_succ, gs_gx, fx_int, fx_ref, fx_null, gs_px, gs_lx, gs_ax, gs_sx, ft_int, ft_ref, ft_b0, ft_b1, c1_int, c1_ref, List.length_cons, List.length_nil, Nat.reduceAdd, Nat.reduceLT, Nat.reduceLeDiff, true_and, and_true, true_or, or_true, not_false_eq_true, Option.toList_some, Option.toList_none, List.nil_append, List.singleton_append, List.cons_append]
  by_cases h1 : v < a
  · rw [if_pos h1] at k ⊢
    exact k
  · rw [if_neg h1] at k ⊢
    by_cases h2 : b < v
    · rw [if_pos h2] at k ⊢
      exact k
    · rw [if_neg h2] at k ⊢
      exact k
end CU
