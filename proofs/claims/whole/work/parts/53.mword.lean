/-! the model: align, countWidths, wordOf, word -/
theorem n5_k {k : Nat} (h : 5 ≤ k) : ¬ k < db_n := n5_ge h
theorem w15 {ws : List Nat} (h15 : ∀ x ∈ ws, x ≤ 15) (t : Nat) : ws.getD t 0 ≤ 15 := by
  rw [List.getD_eq_getElem?_getD]
  cases e : ws[t]? with
  | none => exact Nat.zero_le _
  | some x => exact h15 x (List.mem_of_getElem? e)
section MW
variable {h : db_H} {P : Option Value → db_H → Prop} {M : Nat → Int32}
theorem cntOK_s0 {ct : List Int32} {ws : List Nat} {x : Int32} (h : cntOK ct ws) : cntOK (ct.set 0 x) (ws ++ [0]) := by
  obtain ⟨a, b⟩ := cntOK_0 h
  exact ⟨by simpa using a, fun w h1 h2 => (gd_ne (by omega)).trans (b w h1 h2)⟩
theorem m137_z (hl : 164 < h.length) (hM : h[127]? = some (.inr (12, mfs M))) {k : Nat} {n : Int32} (K : ∀ ow, ow = List.replicate 16 (nI 0) → db_Go 137 23 [.ref 127, .ref k, .int n, .int (nI 0)] [] (h.set 142 (.inl (0, ow))) P) : ∀ (d w : Nat) (ow : List Int32), w + d = 16 → ow.length = 16 → ow.take w = List.replicate w (nI 0) → db_Go 137 2 [.ref 127, .ref k, .int n, .int (nI w)] [] (h.set 142 (.inl (0, ow))) P := by
  intro d
  induction d with
  | zero =>
    intro w ow hw ho hz
    rw [g_137_2]
    simp (disch := first | omega | (simp only [List.length_set]; omega)) only [g_137_0, g_137_1, g_137_3, g_137_5, g_137_8, g_137_9, g_137_12, g_137_13, g_137_14, g_137_15, g_137_18, g_137_21, g_137_22, g_137_24, g_137_25, g_137_28, g_137_29, g_137_32, g_137_33, g_137_34, g_137_35, g_137_36, g_137_37, g_137_38, g_137_39, g_137_40, g_137_43, g_137_46, gs_nx, db_inx, gs_ldi, gs_lda, gs_ldn, List.getElem?_cons_zero, List.getElem?_cons_succ, List.set_cons_zero, List.set_cons_succ, gx5, fx_int, fx_ref, fx_null, px5, gs_lx, gs_ax, sx5, ft_int, ft_ref, ft_b0, ft_b1, c1_int, c1_ref, List.length_cons, List.length_nil, Nat.reduceAdd, Nat.reduceLT, Nat.reduceLeDiff, true_and, and_true, true_or, or_true, not_false_eq_true, Option.toList_some, Option.toList_none, List.nil_append, List.singleton_append, List.cons_append, ↓reduceIte, z_max, z_min, nI_add, z_sub, z_dec, z_mul, z_div, z_mod, nI_clamp, z_lt, z_nlt, z_le, z_nle, z_ne, z_eq, z_in, not_true_eq_false, if_true, if_false, hs_at, hs_ne, hs_sort, hset_eq, vupp_eq, hs_over, List.length_set, vup_at, vup_ne, vup_over, vup_sort, mfs_len, n5_f, map_getD, List.length_map, gd_self, gd_ne, Nat.add_sub_cancel, mg_21, hM]
    refine K ow ?_
    rw [show w = 16 by omega, List.take_of_length_le (by omega)] at hz
    exact hz
  | succ d ih =>
    intro w ow hw ho hz
    rw [g_137_2]
    simp (disch := first | omega | (simp only [List.length_set]; omega)) only [g_137_0, g_137_1, g_137_3, g_137_5, g_137_8, g_137_9, g_137_12, g_137_13, g_137_14, g_137_15, g_137_18, g_137_21, g_137_22, g_137_24, g_137_25, g_137_28, g_137_29, g_137_32, g_137_33, g_137_34, g_137_35, g_137_36, g_137_37, g_137_38, g_137_39, g_137_40, g_137_43, g_137_46, gs_nx, db_inx, gs_ldi, gs_lda, gs_ldn, List.getElem?_cons_zero, List.getElem?_cons_succ, List.set_cons_zero, List.set_cons_succ, gx5, fx_int, fx_ref, fx_null, px5, gs_lx, gs_ax, sx5, ft_int, ft_ref, ft_b0, ft_b1, c1_int, c1_ref, List.length_cons, List.length_nil, Nat.reduceAdd, Nat.reduceLT, Nat.reduceLeDiff, true_and, and_true, true_or, or_true, not_false_eq_true, Option.toList_some, Option.toList_none, List.nil_append, List.singleton_append, List.cons_append, ↓reduceIte, z_max, z_min, nI_add, z_sub, z_dec, z_mul, z_div, z_mod, nI_clamp, z_lt, z_nlt, z_le, z_nle, z_ne, z_eq, z_in, not_true_eq_false, if_true, if_false, hs_at, hs_ne, hs_sort, hset_eq, vupp_eq, hs_over, List.length_set, vup_at, vup_ne, vup_over, vup_sort, mfs_len, n5_f, map_getD, List.length_map, gd_self, gd_ne, Nat.add_sub_cancel, mg_21, hM]
    refine ih (w + 1) _ (by omega) (by simpa using ho) ?_
    rw [List.take_succ, List.getElem?_set_self (by omega), List.take_set_of_le (by omega), hz, List.replicate_succ']
    rfl
theorem m137_c {k : Nat} {ws : List Nat} (hl : 164 < h.length) (hM : h[127]? = some (.inr (12, mfs M))) (hk : h[k]? = some (.inl (0, ws.map nI))) (hk2 : ¬ k = 142) (hw : ws.length ≤ 288) (h15 : ∀ x ∈ ws, x ≤ 15) (K : ∀ ow, cntOK ow ws → P none (h.set 142 (.inl (0, ow)))) : ∀ (d s : Nat) (ow : List Int32), s + d = ws.length → cntOK ow (ws.take s) → db_Go 137 23 [.ref 127, .ref k, .int (nI ws.length), .int (nI s)] [] (h.set 142 (.inl (0, ow))) P := by
  intro d
  induction d with
  | zero =>
    intro s ow hs hc
    rw [g_137_23]
    simp (disch := first | omega | (simp only [List.length_set]; omega)) only [g_137_0, g_137_1, g_137_3, g_137_5, g_137_8, g_137_9, g_137_12, g_137_13, g_137_14, g_137_15, g_137_18, g_137_21, g_137_22, g_137_24, g_137_25, g_137_28, g_137_29, g_137_32, g_137_33, g_137_34, g_137_35, g_137_36, g_137_37, g_137_38, g_137_39, g_137_40, g_137_43, g_137_46, gs_nx, db_inx, gs_ldi, gs_lda, gs_ldn, List.getElem?_cons_zero, List.getElem?_cons_succ, List.set_cons_zero, List.set_cons_succ, gx5, fx_int, fx_ref, fx_null, px5, gs_lx, gs_ax, sx5, ft_int, ft_ref, ft_b0, ft_b1, c1_int, c1_ref, List.length_cons, List.length_nil, Nat.reduceAdd, Nat.reduceLT, Nat.reduceLeDiff, true_and, and_true, true_or, or_true, not_false_eq_true, Option.toList_some, Option.toList_none, List.nil_append, List.singleton_append, List.cons_append, ↓reduceIte, z_max, z_min, nI_add, z_sub, z_dec, z_mul, z_div, z_mod, nI_clamp, z_lt, z_nlt, z_le, z_nle, z_ne, z_eq, z_in, not_true_eq_false, if_true, if_false, hs_at, hs_ne, hs_sort, hset_eq, vupp_eq, hs_over, List.length_set, vup_at, vup_ne, vup_over, vup_sort, mfs_len, n5_f, map_getD, List.length_map, gd_self, gd_ne, Nat.add_sub_cancel, mg_21, hM, hk]
    refine K ow ?_
    rw [List.take_of_length_le (by omega)] at hc
    exact hc
  | succ d ih =>
    intro s ow hs hc
    have hsl : s < ws.length := by omega
    have hx : ws.getD s 0 ≤ 15 := by
      rw [List.getD_eq_getElem?_getD, List.getElem?_eq_getElem hsl]
      exact h15 _ (List.getElem_mem hsl)
    have hol := hc.1
    rw [g_137_23]
    simp (disch := first | omega | (simp only [List.length_set]; omega)) only [g_137_0, g_137_1, g_137_3, g_137_5, g_137_8, g_137_9, g_137_12, g_137_13, g_137_14, g_137_15, g_137_18, g_137_21, g_137_22, g_137_24, g_137_25, g_137_28, g_137_29, g_137_32, g_137_33, g_137_34, g_137_35, g_137_36, g_137_37, g_137_38, g_137_39, g_137_40, g_137_43, g_137_46, gs_nx, db_inx, gs_ldi, gs_lda, gs_ldn, List.getElem?_cons_zero, List.getElem?_cons_succ, List.set_cons_zero, List.set_cons_succ, gx5, fx_int, fx_ref, fx_null, px5, gs_lx, gs_ax, sx5, ft_int, ft_ref, ft_b0, ft_b1, c1_int, c1_ref, List.length_cons, List.length_nil, Nat.reduceAdd, Nat.reduceLT, Nat.reduceLeDiff, true_and, and_true, true_or, or_true, not_false_eq_true, Option.toList_some, Option.toList_none, List.nil_append, List.singleton_append, List.cons_append, ↓reduceIte, z_max, z_min, nI_add, z_sub, z_dec, z_mul, z_div, z_mod, nI_clamp, z_lt, z_nlt, z_le, z_nle, z_ne, z_eq, z_in, not_true_eq_false, if_true, if_false, hs_at, hs_ne, hs_sort, hset_eq, vupp_eq, hs_over, List.length_set, vup_at, vup_ne, vup_over, vup_sort, mfs_len, n5_f, map_getD, List.length_map, gd_self, gd_ne, Nat.add_sub_cancel, mg_21, hM, hk, Bool.and_self]
    refine ih (s + 1) _ (by omega) ?_
    rw [take_snoc hsl]
    by_cases h0 : ws.getD s 0 = 0
    · rw [h0]
      exact cntOK_s0 hc
    · rw [hc.2 _ (by omega) hx, nI_add]
      exact cntOK_add hc (by omega) hx
/-- countWidths -/
theorem m137 {k : Nat} {ws : List Nat} {ow : List Int32} (hl : 164 < h.length) (hM : h[127]? = some (.inr (12, mfs M))) (h142 : h[142]? = some (.inl (0, ow))) (ho : ow.length = 16) (hk : h[k]? = some (.inl (0, ws.map nI))) (hk2 : ¬ k = 142) (hw : ws.length ≤ 288) (h15 : ∀ x ∈ ws, x ≤ 15) (K : ∀ ow, cntOK ow ws → P none (h.set 142 (.inl (0, ow)))) : db_Go 137 0 [.ref 127, .ref k, .int (nI ws.length), .retAddr 0] [] h P := by
  rw [← hs_self h142]
  simp (disch := first | omega | (simp only [List.length_set]; omega)) only [g_137_0, g_137_1, g_137_3, g_137_5, g_137_8, g_137_9, g_137_12, g_137_13, g_137_14, g_137_15, g_137_18, g_137_21, g_137_22, g_137_23, g_137_24, g_137_25, g_137_28, g_137_29, g_137_32, g_137_33, g_137_34, g_137_35, g_137_36, g_137_37, g_137_38, g_137_39, g_137_40, g_137_43, g_137_46, gs_nx, db_inx, gs_ldi, gs_lda, gs_ldn, List.getElem?_cons_zero, List.getElem?_cons_succ, List.set_cons_zero, List.set_cons_succ, gx5, fx_int, fx_ref, fx_null, px5, gs_lx, gs_ax, sx5, ft_int, ft_ref, ft_b0, ft_b1, c1_int, c1_ref, List.length_cons, List.length_nil, Nat.reduceAdd, Nat.reduceLT, Nat.reduceLeDiff, true_and, and_true, true_or, or_true, not_false_eq_true, Option.toList_some, Option.toList_none, List.nil_append, List.singleton_append, List.cons_append, ↓reduceIte, z_max, z_min, nI_add, z_sub, z_dec, z_mul, z_div, z_mod, nI_clamp, z_lt, z_nlt, z_le, z_nle, z_ne, z_eq, z_in, not_true_eq_false, if_true, if_false, hs_at, hs_ne, hs_sort, hset_eq, vupp_eq, hs_over, List.length_set, vup_at, vup_ne, vup_over, vup_sort, mfs_len, n5_f, map_getD, List.length_map, gd_self, gd_ne, Nat.add_sub_cancel, mg_21]
  refine m137_z hl hM (fun ow hz => ?_) 16 0 ow (by omega) ho (by simp)
  exact m137_c hl hM hk hk2 hw h15 K ws.length 0 ow (by omega) (by rw [hz, List.take_zero]; exact cntOK_nil)
theorem m136_a {k s : Nat} {ws : List Nat} {ow : List Int32} (hl : 164 < h.length) (hM : h[127]? = some (.inr (12, mfs M))) (h142 : h[142]? = some (.inl (0, ow))) (hc : cntOK ow ws) (hk : h[k]? = some (.inl (0, ws.map nI))) (hw : ws.length ≤ 288) (hs : s < ws.length) (hx : ws.getD s 0 ≤ 15) {n : Int32} (K : ∀ x, db_Go 136 40 [.ref 127, .ref k, .int n, .int (nI s), .int (nI (2 * nx ws (ws.getD s 0 - 1))), x] [] h P) : ∀ (d w : Nat), w + d = ws.getD s 0 → 1 ≤ w → db_Go 136 12 [.ref 127, .ref k, .int n, .int (nI s), .int (nI (2 * nx ws (w - 1))), .int (nI w)] [] h P := by
  have hol := hc.1
  intro d
  induction d with
  | zero =>
    intro w hd h1
    rw [g_136_12]
    simp (disch := first | omega | (simp only [List.length_set]; omega)) only [g_136_0, g_136_1, g_136_2, g_136_6, g_136_7, g_136_9, g_136_10, g_136_14, g_136_15, g_136_16, g_136_17, g_136_20, g_136_21, g_136_23, g_136_24, g_136_27, g_136_29, g_136_30, g_136_31, g_136_32, g_136_34, g_136_37, g_136_41, g_136_43, g_136_45, g_136_46, g_136_49, g_136_51, g_136_52, g_136_54, g_136_55, g_136_56, g_136_57, g_136_58, g_136_61, g_136_62, g_136_65, g_136_66, g_136_67, g_136_69, g_136_72, g_136_75, g_136_77, gs_nx, db_inx, gs_ldi, gs_lda, gs_ldn, List.getElem?_cons_zero, List.getElem?_cons_succ, List.set_cons_zero, List.set_cons_succ, gx5, fx_int, fx_ref, fx_null, px5, gs_lx, gs_ax, sx5, ft_int, ft_ref, ft_b0, ft_b1, c1_int, c1_ref, List.length_cons, List.length_nil, Nat.reduceAdd, Nat.reduceLT, Nat.reduceLeDiff, true_and, and_true, true_or, or_true, not_false_eq_true, Option.toList_some, Option.toList_none, List.nil_append, List.singleton_append, List.cons_append, ↓reduceIte, z_max, z_min, nI_add, z_sub, z_dec, z_mul, z_div, z_mod, nI_clamp, z_lt, z_nlt, z_le, z_nle, z_ne, z_eq, z_in, not_true_eq_false, if_true, if_false, hs_at, hs_ne, hs_sort, hset_eq, vupp_eq, hs_over, List.length_set, vup_at, vup_ne, vup_over, vup_sort, mfs_len, n5_f, map_getD, List.length_map, gd_self, gd_ne, Nat.add_sub_cancel, mg_21, hM, hk, h142]
    rw [show w = ws.getD s 0 by omega]
    exact K _
  | succ d ih =>
    intro w hd h1
    have hcw := hc.2 w h1 (by omega)
    have := ih (w + 1) (by omega) (by omega)
    rw [g_136_12]
    simp (disch := first | omega | (simp only [List.length_set]; omega)) only [g_136_0, g_136_1, g_136_2, g_136_6, g_136_7, g_136_9, g_136_10, g_136_14, g_136_15, g_136_16, g_136_17, g_136_20, g_136_21, g_136_23, g_136_24, g_136_27, g_136_29, g_136_30, g_136_31, g_136_32, g_136_34, g_136_37, g_136_41, g_136_43, g_136_45, g_136_46, g_136_49, g_136_51, g_136_52, g_136_54, g_136_55, g_136_56, g_136_57, g_136_58, g_136_61, g_136_62, g_136_65, g_136_66, g_136_67, g_136_69, g_136_72, g_136_75, g_136_77, gs_nx, db_inx, gs_ldi, gs_lda, gs_ldn, List.getElem?_cons_zero, List.getElem?_cons_succ, List.set_cons_zero, List.set_cons_succ, gx5, fx_int, fx_ref, fx_null, px5, gs_lx, gs_ax, sx5, ft_int, ft_ref, ft_b0, ft_b1, c1_int, c1_ref, List.length_cons, List.length_nil, Nat.reduceAdd, Nat.reduceLT, Nat.reduceLeDiff, true_and, and_true, true_or, or_true, not_false_eq_true, Option.toList_some, Option.toList_none, List.nil_append, List.singleton_append, List.cons_append, ↓reduceIte, z_max, z_min, nI_add, z_sub, z_dec, z_mul, z_div, z_mod, nI_clamp, z_lt, z_nlt, z_le, z_nle, z_ne, z_eq, z_in, not_true_eq_false, if_true, if_false, hs_at, hs_ne, hs_sort, hset_eq, vupp_eq, hs_over, List.length_set, vup_at, vup_ne, vup_over, vup_sort, mfs_len, n5_f, map_getD, List.length_map, gd_self, gd_ne, Nat.add_sub_cancel, mg_21, hM, hk, h142, hcw]
    rw [show w + 1 - 1 = w - 1 + 1 by omega, nx, show w - 1 + 1 = w by omega] at this
    exact this
theorem m136_b {k s : Nat} {ws : List Nat} (h15 : ∀ x ∈ ws, x ≤ 15) (hk : h[k]? = some (.inl (0, ws.map nI))) (hw : ws.length ≤ 288) (hs : s < ws.length) (hx : ws.getD s 0 ≤ 15) {n : Int32} {z : Nat} (K : P (some (.int (nI (z + (ws.take s).count (ws.getD s 0))))) h) : ∀ (d t : Nat), t + d = s → db_Go 136 43 [.ref 127, .ref k, .int n, .int (nI s), .int (nI (z + (ws.take t).count (ws.getD s 0))), .int (nI t)] [] h P := by
  intro d
  induction d with
  | zero =>
    intro t hd
    rw [g_136_43]
    simp (disch := first | omega | (simp only [List.length_set]; omega)) only [g_136_0, g_136_1, g_136_2, g_136_6, g_136_7, g_136_9, g_136_10, g_136_14, g_136_15, g_136_16, g_136_17, g_136_20, g_136_21, g_136_23, g_136_24, g_136_27, g_136_29, g_136_30, g_136_31, g_136_32, g_136_34, g_136_37, g_136_40, g_136_41, g_136_45, g_136_46, g_136_49, g_136_51, g_136_52, g_136_54, g_136_55, g_136_56, g_136_57, g_136_58, g_136_61, g_136_62, g_136_65, g_136_66, g_136_67, g_136_69, g_136_72, g_136_75, g_136_77, gs_nx, db_inx, gs_ldi, gs_lda, gs_ldn, List.getElem?_cons_zero, List.getElem?_cons_succ, List.set_cons_zero, List.set_cons_succ, gx5, fx_int, fx_ref, fx_null, px5, gs_lx, gs_ax, sx5, ft_int, ft_ref, ft_b0, ft_b1, c1_int, c1_ref, List.length_cons, List.length_nil, Nat.reduceAdd, Nat.reduceLT, Nat.reduceLeDiff, true_and, and_true, true_or, or_true, not_false_eq_true, Option.toList_some, Option.toList_none, List.nil_append, List.singleton_append, List.cons_append, ↓reduceIte, z_max, z_min, nI_add, z_sub, z_dec, z_mul, z_div, z_mod, nI_clamp, z_lt, z_nlt, z_le, z_nle, z_ne, z_eq, z_in, not_true_eq_false, if_true, if_false, hs_at, hs_ne, hs_sort, hset_eq, vupp_eq, hs_over, List.length_set, vup_at, vup_ne, vup_over, vup_sort, mfs_len, n5_f, map_getD, List.length_map, gd_self, gd_ne, Nat.add_sub_cancel, mg_21, hk]
    rw [show t = s by omega]
    exact K
  | succ d ih =>
    intro t hd
    have := ih (t + 1) (by omega)
    rw [take_snoc (by omega), List.count_append, List.count_singleton] at this
    rw [g_136_43]
    by_cases e : ws.getD t 0 = ws.getD s 0
    · simp (disch := first | omega | (simp only [List.length_set]; omega)) only [g_136_0, g_136_1, g_136_2, g_136_6, g_136_7, g_136_9, g_136_10, g_136_14, g_136_15, g_136_16, g_136_17, g_136_20, g_136_21, g_136_23, g_136_24, g_136_27, g_136_29, g_136_30, g_136_31, g_136_32, g_136_34, g_136_37, g_136_40, g_136_41, g_136_45, g_136_46, g_136_49, g_136_51, g_136_52, g_136_54, g_136_55, g_136_56, g_136_57, g_136_58, g_136_61, g_136_62, g_136_65, g_136_66, g_136_67, g_136_69, g_136_72, g_136_75, g_136_77, gs_nx, db_inx, gs_ldi, gs_lda, gs_ldn, List.getElem?_cons_zero, List.getElem?_cons_succ, List.set_cons_zero, List.set_cons_succ, gx5, fx_int, fx_ref, fx_null, px5, gs_lx, gs_ax, sx5, ft_int, ft_ref, ft_b0, ft_b1, c1_int, c1_ref, List.length_cons, List.length_nil, Nat.reduceAdd, Nat.reduceLT, Nat.reduceLeDiff, true_and, and_true, true_or, or_true, not_false_eq_true, Option.toList_some, Option.toList_none, List.nil_append, List.singleton_append, List.cons_append, ↓reduceIte, z_max, z_min, nI_add, z_sub, z_dec, z_mul, z_div, z_mod, nI_clamp, z_lt, z_nlt, z_le, z_nle, z_ne, z_eq, z_in, not_true_eq_false, if_true, if_false, hs_at, hs_ne, hs_sort, hset_eq, vupp_eq, hs_over, List.length_set, vup_at, vup_ne, vup_over, vup_sort, mfs_len, n5_f, map_getD, List.length_map, gd_self, gd_ne, Nat.add_sub_cancel, mg_21, hk, e]
      rw [e, beq_self_eq_true, if_pos rfl, ← Nat.add_assoc] at this
      exact this
    · have hy := w15 h15 t
      simp (disch := first | omega | (simp only [List.length_set]; omega)) only [g_136_0, g_136_1, g_136_2, g_136_6, g_136_7, g_136_9, g_136_10, g_136_14, g_136_15, g_136_16, g_136_17, g_136_20, g_136_21, g_136_23, g_136_24, g_136_27, g_136_29, g_136_30, g_136_31, g_136_32, g_136_34, g_136_37, g_136_40, g_136_41, g_136_45, g_136_46, g_136_49, g_136_51, g_136_52, g_136_54, g_136_55, g_136_56, g_136_57, g_136_58, g_136_61, g_136_62, g_136_65, g_136_66, g_136_67, g_136_69, g_136_72, g_136_75, g_136_77, gs_nx, db_inx, gs_ldi, gs_lda, gs_ldn, List.getElem?_cons_zero, List.getElem?_cons_succ, List.set_cons_zero, List.set_cons_succ, gx5, fx_int, fx_ref, fx_null, px5, gs_lx, gs_ax, sx5, ft_int, ft_ref, ft_b0, ft_b1, c1_int, c1_ref, List.length_cons, List.length_nil, Nat.reduceAdd, Nat.reduceLT, Nat.reduceLeDiff, true_and, and_true, true_or, or_true, not_false_eq_true, Option.toList_some, Option.toList_none, List.nil_append, List.singleton_append, List.cons_append, ↓reduceIte, z_max, z_min, nI_add, z_sub, z_dec, z_mul, z_div, z_mod, nI_clamp, z_lt, z_nlt, z_le, z_nle, z_ne, z_eq, z_in, not_true_eq_false, if_true, if_false, hs_at, hs_ne, hs_sort, hset_eq, vupp_eq, hs_over, List.length_set, vup_at, vup_ne, vup_over, vup_sort, mfs_len, n5_f, map_getD, List.length_map, gd_self, gd_ne, Nat.add_sub_cancel, mg_21, hk]
      rw [if_neg (by simpa using e), Nat.add_zero] at this
      exact this
/-- wordOf -/
theorem m136 {k s : Nat} {ws : List Nat} {ow : List Int32} (hl : 164 < h.length) (hM : h[127]? = some (.inr (12, mfs M))) (h142 : h[142]? = some (.inl (0, ow))) (ho : ow.length = 16) (hk : h[k]? = some (.inl (0, ws.map nI))) (hk2 : ¬ k = 142) (hw : ws.length ≤ 288) (h15 : ∀ x ∈ ws, x ≤ 15) (hs : s < ws.length) (K : ∀ ow, cntOK ow ws → P (some (.int (nI (wdN ws s)))) (h.set 142 (.inl (0, ow)))) : db_Go 136 0 [.ref 127, .ref k, .int (nI ws.length), .int (nI s), .retAddr 0, .retAddr 0] [] h P := by
  have hx : ws.getD s 0 ≤ 15 := by
    rw [List.getD_eq_getElem?_getD, List.getElem?_eq_getElem hs]
    exact h15 _ (List.getElem_mem hs)
  simp (disch := first | omega | (simp only [List.length_set]; omega)) only [g_136_0, g_136_1, g_136_2, g_136_6, g_136_7, g_136_9, g_136_10, g_136_14, g_136_15, g_136_16, g_136_17, g_136_20, g_136_21, g_136_23, g_136_24, g_136_27, g_136_29, g_136_30, g_136_31, g_136_32, g_136_34, g_136_37, g_136_40, g_136_41, g_136_43, g_136_45, g_136_46, g_136_49, g_136_51, g_136_52, g_136_54, g_136_55, g_136_56, g_136_57, g_136_58, g_136_61, g_136_62, g_136_65, g_136_66, g_136_67, g_136_69, g_136_72, g_136_75, g_136_77, gs_nx, db_inx, gs_ldi, gs_lda, gs_ldn, List.getElem?_cons_zero, List.getElem?_cons_succ, List.set_cons_zero, List.set_cons_succ, gx5, fx_int, fx_ref, fx_null, px5, gs_lx, gs_ax, sx5, ft_int, ft_ref, ft_b0, ft_b1, c1_int, c1_ref, List.length_cons, List.length_nil, Nat.reduceAdd, Nat.reduceLT, Nat.reduceLeDiff, true_and, and_true, true_or, or_true, not_false_eq_true, Option.toList_some, Option.toList_none, List.nil_append, List.singleton_append, List.cons_append, ↓reduceIte, z_max, z_min, nI_add, z_sub, z_dec, z_mul, z_div, z_mod, nI_clamp, z_lt, z_nlt, z_le, z_nle, z_ne, z_eq, z_in, not_true_eq_false, if_true, if_false, hs_at, hs_ne, hs_sort, hset_eq, vupp_eq, hs_over, List.length_set, vup_at, vup_ne, vup_over, vup_sort, mfs_len, n5_f, map_getD, List.length_map, gd_self, gd_ne, Nat.add_sub_cancel, mg_21]
  refine c_136_3 (by simp) (n5_ge (by omega)) hM ?_
  refine m137 hl hM h142 ho hk hk2 hw h15 (fun ow hc => ?_)
  simp (disch := first | omega | (simp only [List.length_set]; omega)) only [g_136_0, g_136_1, g_136_2, g_136_6, g_136_7, g_136_9, g_136_10, g_136_14, g_136_15, g_136_16, g_136_17, g_136_20, g_136_21, g_136_23, g_136_24, g_136_27, g_136_29, g_136_30, g_136_31, g_136_32, g_136_34, g_136_37, g_136_40, g_136_41, g_136_43, g_136_45, g_136_46, g_136_49, g_136_51, g_136_52, g_136_54, g_136_55, g_136_56, g_136_57, g_136_58, g_136_61, g_136_62, g_136_65, g_136_66, g_136_67, g_136_69, g_136_72, g_136_75, g_136_77, gs_nx, db_inx, gs_ldi, gs_lda, gs_ldn, List.getElem?_cons_zero, List.getElem?_cons_succ, List.set_cons_zero, List.set_cons_succ, gx5, fx_int, fx_ref, fx_null, px5, gs_lx, gs_ax, sx5, ft_int, ft_ref, ft_b0, ft_b1, c1_int, c1_ref, List.length_cons, List.length_nil, Nat.reduceAdd, Nat.reduceLT, Nat.reduceLeDiff, true_and, and_true, true_or, or_true, not_false_eq_true, Option.toList_some, Option.toList_none, List.nil_append, List.singleton_append, List.cons_append, ↓reduceIte, z_max, z_min, nI_add, z_sub, z_dec, z_mul, z_div, z_mod, nI_clamp, z_lt, z_nlt, z_le, z_nle, z_ne, z_eq, z_in, not_true_eq_false, if_true, if_false, hs_at, hs_ne, hs_sort, hset_eq, vupp_eq, hs_over, List.length_set, vup_at, vup_ne, vup_over, vup_sort, mfs_len, n5_f, map_getD, List.length_map, gd_self, gd_ne, Nat.add_sub_cancel, mg_21]
  have hM2 : (h.set 142 (.inl (0, ow)))[127]? = some (.inr (12, mfs M)) := by simp (disch := first | omega | (simp only [List.length_set]; omega)) only [hs_at, hs_ne, List.length_set, hM]
  have h1422 : (h.set 142 (.inl (0, ow)))[142]? = some (.inl (0, ow)) := by simp (disch := first | omega | (simp only [List.length_set]; omega)) only [hs_at, hs_ne, List.length_set]
  have hk3 : (h.set 142 (.inl (0, ow)))[k]? = some (.inl (0, ws.map nI)) := by simp (disch := first | omega | (simp only [List.length_set]; omega)) only [hs_at, hs_ne, List.length_set, hk]
  have fin : ∀ x, db_Go 136 40 [.ref 127, .ref k, .int (nI ws.length), .int (nI s), .int (nI (2 * nx ws (ws.getD s 0 - 1))), x] [] (h.set 142 (.inl (0, ow))) P := by
    intro x
    simp (disch := first | omega | (simp only [List.length_set]; omega)) only [g_136_0, g_136_1, g_136_2, g_136_6, g_136_7, g_136_9, g_136_10, g_136_14, g_136_15, g_136_16, g_136_17, g_136_20, g_136_21, g_136_23, g_136_24, g_136_27, g_136_29, g_136_30, g_136_31, g_136_32, g_136_34, g_136_37, g_136_40, g_136_41, g_136_45, g_136_46, g_136_49, g_136_51, g_136_52, g_136_54, g_136_55, g_136_56, g_136_57, g_136_58, g_136_61, g_136_62, g_136_65, g_136_66, g_136_67, g_136_69, g_136_72, g_136_75, g_136_77, gs_nx, db_inx, gs_ldi, gs_lda, gs_ldn, List.getElem?_cons_zero, List.getElem?_cons_succ, List.set_cons_zero, List.set_cons_succ, gx5, fx_int, fx_ref, fx_null, px5, gs_lx, gs_ax, sx5, ft_int, ft_ref, ft_b0, ft_b1, c1_int, c1_ref, List.length_cons, List.length_nil, Nat.reduceAdd, Nat.reduceLT, Nat.reduceLeDiff, true_and, and_true, true_or, or_true, not_false_eq_true, Option.toList_some, Option.toList_none, List.nil_append, List.singleton_append, List.cons_append, ↓reduceIte, z_max, z_min, nI_add, z_sub, z_dec, z_mul, z_div, z_mod, nI_clamp, z_lt, z_nlt, z_le, z_nle, z_ne, z_eq, z_in, not_true_eq_false, if_true, if_false, hs_at, hs_ne, hs_sort, hset_eq, vupp_eq, hs_over, List.length_set, vup_at, vup_ne, vup_over, vup_sort, mfs_len, n5_f, map_getD, List.length_map, gd_self, gd_ne, Nat.add_sub_cancel, mg_21]
    have := m136_b (P := P) (n := nI ws.length) (z := 2 * nx ws (ws.getD s 0 - 1)) h15 hk3 hw hs hx (K ow hc) s 0 (by omega)
    rw [List.take_zero, List.count_nil, Nat.add_zero] at this
    exact this
  by_cases h0 : ws.getD s 0 = 0
  · rw [g_136_12]
    simp (disch := first | omega | (simp only [List.length_set]; omega)) only [g_136_0, g_136_1, g_136_2, g_136_6, g_136_7, g_136_9, g_136_10, g_136_14, g_136_15, g_136_16, g_136_17, g_136_20, g_136_21, g_136_23, g_136_24, g_136_27, g_136_29, g_136_30, g_136_31, g_136_32, g_136_34, g_136_37, g_136_41, g_136_43, g_136_45, g_136_46, g_136_49, g_136_51, g_136_52, g_136_54, g_136_55, g_136_56, g_136_57, g_136_58, g_136_61, g_136_62, g_136_65, g_136_66, g_136_67, g_136_69, g_136_72, g_136_75, g_136_77, gs_nx, db_inx, gs_ldi, gs_lda, gs_ldn, List.getElem?_cons_zero, List.getElem?_cons_succ, List.set_cons_zero, List.set_cons_succ, gx5, fx_int, fx_ref, fx_null, px5, gs_lx, gs_ax, sx5, ft_int, ft_ref, ft_b0, ft_b1, c1_int, c1_ref, List.length_cons, List.length_nil, Nat.reduceAdd, Nat.reduceLT, Nat.reduceLeDiff, true_and, and_true, true_or, or_true, not_false_eq_true, Option.toList_some, Option.toList_none, List.nil_append, List.singleton_append, List.cons_append, ↓reduceIte, z_max, z_min, nI_add, z_sub, z_dec, z_mul, z_div, z_mod, nI_clamp, z_lt, z_nlt, z_le, z_nle, z_ne, z_eq, z_in, not_true_eq_false, if_true, if_false, hs_at, hs_ne, hs_sort, hset_eq, vupp_eq, hs_over, List.length_set, vup_at, vup_ne, vup_over, vup_sort, mfs_len, n5_f, map_getD, List.length_map, gd_self, gd_ne, Nat.add_sub_cancel, mg_21, hM, hk]
    rw [h0] at fin
    exact fin _
  · exact m136_a (by simpa using hl) hM2 h1422 hc hk3 hw hs hx fin (ws.getD s 0 - 1) 1 (by omega) (by omega)
end MW
