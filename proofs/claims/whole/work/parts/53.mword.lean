/-! the model: align, countWidths, wordOf, word -/
theorem n5_k {k : Nat} (h : 5 ≤ k) : ¬ k < db_n := n5_ge h
section MW
variable {h : db_H} {P : Option Value → db_H → Prop} {M : Nat → Int32}
theorem cntOK_s0 {ct : List Int32} {ws : List Nat} {x : Int32} (h : cntOK ct ws) : cntOK (ct.set 0 x) (ws ++ [0]) := by
  obtain ⟨a, b⟩ := cntOK_0 h
  exact ⟨by simpa using a, fun w h1 h2 => (gd_ne (by omega)).trans (b w h1 h2)⟩
theorem m137_z (hl : 164 < h.length) (hM : h[127]? = some (.inr (12, mfs M))) {k : Nat} {n : Int32} (K : ∀ ow, ow = List.replicate 16 (nI 0) → db_Go 137 23 [.ref 127, .ref k, .int n, .int (nI 0)] [] (h.set 142 (.inl (0, ow))) P) : ∀ (d w : Nat) (ow : List Int32), w + d = 16 → ow.length = 16 → ow.take w = List.replicate w (nI 0) → db_Go 137 2 [.ref 127, .ref k, .int n, .int (nI w)] [] (h.set 142 (.inl (0, ow))) P := by
  intro d
  induction d with
  | zero =>
    intro w ow hw ho hz
    rw [g_137_2]
    simp (disch := omega) only [g_137_0, g_137_1, g_137_3, g_137_5, g_137_8, g_137_9, g_137_12, g_137_13, g_137_14, g_137_15, g_137_18, g_137_21, g_137_22, g_137_24, g_137_25, g_137_28, g_137_29, g_137_32, g_137_33, g_137_34, g_137_35, g_137_36, g_137_37, g_137_38, g_137_39, g_137_40, g_137_43, g_137_46, gs_nx, db_inx, gs_ldi, gs_lda, gs_ldn, List.getElem?_cons_zero, List.getElem?_cons_succ, List.set_cons_zero, List.set_cons_succ, gx5, fx_int, fx_ref, fx_null, px5, gs_lx, gs_ax, sx5, ft_int, ft_ref, ft_b0, ft_b1, c1_int, c1_ref, List.length_cons, List.length_nil, Nat.reduceAdd, Nat.reduceLT, Nat.reduceLeDiff, true_and, and_true, true_or, or_true, not_false_eq_true, Option.toList_some, Option.toList_none, List.nil_append, List.singleton_append, List.cons_append, ↓reduceIte, nI_add, z_sub, z_dec, z_mul, z_div, z_mod, nI_clamp, z_lt, z_nlt, z_le, z_nle, z_ne, z_eq, z_in, not_true_eq_false, if_true, if_false, hs_at, hs_ne, hs_sort, hs_over, List.length_set, vup_at, vup_ne, vup_over, vup_sort, mfs_len, n5_f, mg_21, hM]
    refine K ow ?_
    rw [show w = 16 by omega, List.take_of_length_le (by omega)] at hz
    exact hz
  | succ d ih =>
    intro w ow hw ho hz
    rw [g_137_2]
    simp (disch := omega) only [g_137_0, g_137_1, g_137_3, g_137_5, g_137_8, g_137_9, g_137_12, g_137_13, g_137_14, g_137_15, g_137_18, g_137_21, g_137_22, g_137_24, g_137_25, g_137_28, g_137_29, g_137_32, g_137_33, g_137_34, g_137_35, g_137_36, g_137_37, g_137_38, g_137_39, g_137_40, g_137_43, g_137_46, gs_nx, db_inx, gs_ldi, gs_lda, gs_ldn, List.getElem?_cons_zero, List.getElem?_cons_succ, List.set_cons_zero, List.set_cons_succ, gx5, fx_int, fx_ref, fx_null, px5, gs_lx, gs_ax, sx5, ft_int, ft_ref, ft_b0, ft_b1, c1_int, c1_ref, List.length_cons, List.length_nil, Nat.reduceAdd, Nat.reduceLT, Nat.reduceLeDiff, true_and, and_true, true_or, or_true, not_false_eq_true, Option.toList_some, Option.toList_none, List.nil_append, List.singleton_append, List.cons_append, ↓reduceIte, nI_add, z_sub, z_dec, z_mul, z_div, z_mod, nI_clamp, z_lt, z_nlt, z_le, z_nle, z_ne, z_eq, z_in, not_true_eq_false, if_true, if_false, hs_at, hs_ne, hs_sort, hs_over, List.length_set, vup_at, vup_ne, vup_over, vup_sort, mfs_len, n5_f, mg_21, hM]
    refine ih (w + 1) _ (by omega) (by simpa using ho) ?_
    rw [List.take_succ, List.getElem?_set_self (by omega), List.take_set_of_le (by omega), hz, List.replicate_succ']
    rfl
end MW
