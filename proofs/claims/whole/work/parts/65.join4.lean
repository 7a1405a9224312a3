/-! Joining: join -/
def jS (h : db_H) : Prop := ∃ a b c d la nu jt dd, h[60]? = some (jO a b c d) ∧ h[61]? = some (.inl (0, la)) ∧ h[62]? = some (.inl (0, nu)) ∧ h[63]? = some (.inl (0, jt)) ∧ h[64]? = some (.inl (0, dd)) ∧ la.length = 286 ∧ nu.length = 572 ∧ jt.length = 572 ∧ dd.length = 572
def FJ (w : Nat) : List Nat := [w, 60, 61, 62, 63, 64]
section J4
variable {h : db_H} {P : Option Value → db_H → Prop} {cs : List Nat} {k w : Nat}
theorem m44_loop {a b c : Int32} {la dd : List Int32} (hl : 164 < h.length) (hw2 : 5 ≤ w ∧ w < 60) (h60 : h[60]? = some (jO (nI (lfs cs).length) a b c)) (h61 : h[61]? = some (.inl (0, la))) (h64 : h[64]? = some (.inl (0, dd))) (l1 : la.length = 286) (l4 : dd.length = 572) (hcs : cs.length ≤ 286) (ha : agr la (fun k => (lfs cs).getD k 0) (lfs cs).length) (hd : agr dd (dep (hE cs).2.1 (2 * (lfs cs).length - 2)) (lfs cs).length) (K : P none (h.set w (.inl (0, (hufW cs).map nI)))) : ∀ (d i : Nat) (x : Value), i + d = (lfs cs).length → db_Go 44 20 [.ref 60, .ref k, .ref w, .int (nI i), x] [] (h.set w (.inl (0, (hfold cs i).map nI))) P := by
  unfold jO at h60
  have hle := lvs_len (cF cs) cs.length
  have hle2 : (lfs cs).length ≤ cs.length := hle
  intro d
  induction d with
  | zero =>
    intro i x hi
    rw [show i = (lfs cs).length by omega]
    rw [g_44_20]
    simp (disch := first | omega | (simp only [List.length_set]; omega)) only [g_44_0, g_44_1, g_44_5, g_44_6, g_44_10, g_44_14, g_44_18, g_44_19, g_44_21, g_44_22, g_44_25, g_44_28, g_44_29, g_44_30, g_44_33, g_44_34, g_44_37, g_44_38, g_44_41, g_44_42, g_44_43, g_44_45, g_44_47, g_44_50, g_44_52, g_44_53, g_44_54, g_44_57, g_44_58, g_44_60, g_44_61, g_44_64, g_44_65, g_44_68, g_44_69, g_44_72, g_44_73, g_44_76, g_44_77, g_44_78, g_44_79, g_44_82, g_44_85, gs_nx, db_inx, gs_ldi, gs_lda, gs_ldn, List.getElem?_cons_zero, List.getElem?_cons_succ, List.set_cons_zero, List.set_cons_succ, gx5, fx_int, fx_ref, fx_null, px5, gs_lx, gs_ax, sx5, ft_int, ft_ref, ft_b0, ft_b1, c1_int, c1_ref, List.length_cons, List.length_nil, Nat.reduceAdd, Nat.reduceLT, Nat.reduceLeDiff, true_and, and_true, true_or, or_true, not_false_eq_true, Option.toList_some, Option.toList_none, List.nil_append, List.singleton_append, List.cons_append, ↓reduceIte, z_max, z_min, nI_add, z_sub, z_dec, z_mul, z_div, z_mod, nI_clamp, z_lt, z_nlt, z_le, z_nle, z_ne, z_eq, z_in, not_true_eq_false, if_true, if_false, hs_at, hs_ne, hs_sort, hset_eq, vupp_eq, hs_over, List.length_set, vup_at, vup_ne, vup_over, vup_sort, mfs_len, n5_f, map_getD, List.length_map, gd_self, gd_ne, Nat.add_sub_cancel, h60, h61, h64]
    exact K
  | succ d ih =>
    intro i x hi
    have hil : i < (lfs cs).length := by omega
    have hs := (lfs_at hil).1
    have e1 := ha i hil
    have e2 := hd i hil
    simp only at e1
    have hfl := hfold_len cs i
    have nx := fun x => ih (i + 1) x (by omega)
    rw [hfold, List.map_set] at nx
    rw [g_44_20]
    by_cases h1 : (lfs cs).length = 1
    · unfold wD at nx
      rw [if_pos h1] at nx
      simp (disch := first | omega | (simp only [List.length_set]; omega)) only [g_44_0, g_44_1, g_44_5, g_44_6, g_44_10, g_44_14, g_44_18, g_44_19, g_44_21, g_44_22, g_44_25, g_44_28, g_44_29, g_44_30, g_44_33, g_44_34, g_44_37, g_44_38, g_44_41, g_44_42, g_44_43, g_44_45, g_44_47, g_44_50, g_44_52, g_44_53, g_44_54, g_44_57, g_44_58, g_44_60, g_44_61, g_44_64, g_44_65, g_44_68, g_44_69, g_44_72, g_44_73, g_44_76, g_44_77, g_44_78, g_44_79, g_44_82, g_44_85, gs_nx, db_inx, gs_ldi, gs_lda, gs_ldn, List.getElem?_cons_zero, List.getElem?_cons_succ, List.set_cons_zero, List.set_cons_succ, gx5, fx_int, fx_ref, fx_null, px5, gs_lx, gs_ax, sx5, ft_int, ft_ref, ft_b0, ft_b1, c1_int, c1_ref, List.length_cons, List.length_nil, Nat.reduceAdd, Nat.reduceLT, Nat.reduceLeDiff, true_and, and_true, true_or, or_true, not_false_eq_true, Option.toList_some, Option.toList_none, List.nil_append, List.singleton_append, List.cons_append, ↓reduceIte, z_max, z_min, nI_add, z_sub, z_dec, z_mul, z_div, z_mod, nI_clamp, z_lt, z_nlt, z_le, z_nle, z_ne, z_eq, z_in, not_true_eq_false, if_true, if_false, hs_at, hs_ne, hs_sort, hset_eq, vupp_eq, hs_over, List.length_set, vup_at, vup_ne, vup_over, vup_sort, mfs_len, n5_f, map_getD, List.length_map, gd_self, gd_ne, Nat.add_sub_cancel, h60, h61, h64, e1, e2]
      exact nx _
    · unfold wD at nx
      rw [if_neg h1] at nx
      simp (disch := first | omega | (simp only [List.length_set]; omega)) only [g_44_0, g_44_1, g_44_5, g_44_6, g_44_10, g_44_14, g_44_18, g_44_19, g_44_21, g_44_22, g_44_25, g_44_28, g_44_29, g_44_30, g_44_33, g_44_34, g_44_37, g_44_38, g_44_41, g_44_42, g_44_43, g_44_45, g_44_47, g_44_50, g_44_52, g_44_53, g_44_54, g_44_57, g_44_58, g_44_60, g_44_61, g_44_64, g_44_65, g_44_68, g_44_69, g_44_72, g_44_73, g_44_76, g_44_77, g_44_78, g_44_79, g_44_82, g_44_85, gs_nx, db_inx, gs_ldi, gs_lda, gs_ldn, List.getElem?_cons_zero, List.getElem?_cons_succ, List.set_cons_zero, List.set_cons_succ, gx5, fx_int, fx_ref, fx_null, px5, gs_lx, gs_ax, sx5, ft_int, ft_ref, ft_b0, ft_b1, c1_int, c1_ref, List.length_cons, List.length_nil, Nat.reduceAdd, Nat.reduceLT, Nat.reduceLeDiff, true_and, and_true, true_or, or_true, not_false_eq_true, Option.toList_some, Option.toList_none, List.nil_append, List.singleton_append, List.cons_append, ↓reduceIte, z_max, z_min, nI_add, z_sub, z_dec, z_mul, z_div, z_mod, nI_clamp, z_lt, z_nlt, z_le, z_nle, z_ne, z_eq, z_in, not_true_eq_false, if_true, if_false, hs_at, hs_ne, hs_sort, hset_eq, vupp_eq, hs_over, List.length_set, vup_at, vup_ne, vup_over, vup_sort, mfs_len, n5_f, map_getD, List.length_map, gd_self, gd_ne, Nat.add_sub_cancel, h60, h61, h64, e1, e2]
      exact nx _
/-- join: the widths of counts -/
theorem f44 {wa : List Int32} (hl : 164 < h.length) (J : jS h) (hk : h[k]? = some (.inl (0, cs.map nI))) (hk2 : 65 ≤ k ∧ k ≤ 67) (hw : h[w]? = some (.inl (0, wa))) (hw2 : 5 ≤ w ∧ w < 60) (hwa : wa.length = cs.length) (hcs : cs.length ≤ 286) (hT : cs.sum < 2 ^ 20) (K : ∀ h2, Fr (FJ w) h h2 → jS h2 → h2[w]? = some (.inl (0, (hufW cs).map nI)) → P none h2) : db_Go 44 0 [.ref 60, .ref k, .ref w, .retAddr 0, .retAddr 0] [] h P := by
  obtain ⟨a, b, c, d, la, nu, jt, dd, h60, h61, h62, h63, h64, l1, l2, l3, l4⟩ := J
  have hb : ∀ i, cs.getD i 0 < 2 ^ 20 := by
    intro i
    by_cases hi : i < cs.length
    · refine Nat.lt_of_le_of_lt ?_ hT
      have := sg_ge (N := fun i => cs.getD i 0) (lo := 0) (x := i) (Nat.zero_le _) hi
      unfold sg at this
      rw [Nat.sub_zero, ← List.range_eq_range', range_get] at this
      exact this
    · rw [List.getD_eq_getElem?_getD, List.getElem?_eq_none (by omega)]
      decide
  have hle : (lfs cs).length ≤ cs.length := lvs_len (cF cs) cs.length
  simp (disch := first | omega | (simp only [List.length_set]; omega)) only [g_44_0, g_44_1, g_44_5, g_44_6, g_44_10, g_44_14, g_44_18, g_44_19, g_44_21, g_44_22, g_44_25, g_44_28, g_44_29, g_44_30, g_44_33, g_44_34, g_44_37, g_44_38, g_44_41, g_44_42, g_44_43, g_44_45, g_44_47, g_44_50, g_44_52, g_44_53, g_44_54, g_44_57, g_44_58, g_44_60, g_44_61, g_44_64, g_44_65, g_44_68, g_44_69, g_44_72, g_44_73, g_44_76, g_44_77, g_44_78, g_44_79, g_44_82, g_44_85, gs_nx, db_inx, gs_ldi, gs_lda, gs_ldn, List.getElem?_cons_zero, List.getElem?_cons_succ, List.set_cons_zero, List.set_cons_succ, gx5, fx_int, fx_ref, fx_null, px5, gs_lx, gs_ax, sx5, ft_int, ft_ref, ft_b0, ft_b1, c1_int, c1_ref, List.length_cons, List.length_nil, Nat.reduceAdd, Nat.reduceLT, Nat.reduceLeDiff, true_and, and_true, true_or, or_true, not_false_eq_true, Option.toList_some, Option.toList_none, List.nil_append, List.singleton_append, List.cons_append, ↓reduceIte, z_max, z_min, nI_add, z_sub, z_dec, z_mul, z_div, z_mod, nI_clamp, z_lt, z_nlt, z_le, z_nle, z_ne, z_eq, z_in, not_true_eq_false, if_true, if_false, hs_at, hs_ne, hs_sort, hset_eq, vupp_eq, hs_over, List.length_set, vup_at, vup_ne, vup_over, vup_sort, mfs_len, n5_f, map_getD, List.length_map, gd_self, gd_ne, Nat.add_sub_cancel]
  refine c_44_2 (by simp) ?_
  refine m11 (n5_ge (by omega)) hw (by omega) ?_
  have F1 : Fr (FJ w) h (h.set w (.inl (0, List.replicate wa.length (nI 0)))) := Fr_set (by simp [FJ])
  have w1 : (h.set w (.inl (0, List.replicate wa.length (nI 0))))[w]? = some (.inl (0, List.replicate wa.length (nI 0))) := by simp (disch := first | omega | (simp only [List.length_set]; omega)) only [hs_at, hs_ne, List.length_set]
  have h60 : (h.set w (.inl (0, List.replicate wa.length (nI 0))))[60]? = some (jO a b c d) := by simp (disch := first | omega | (simp only [List.length_set]; omega)) only [hs_at, hs_ne, List.length_set, h60]
  have h61 : (h.set w (.inl (0, List.replicate wa.length (nI 0))))[61]? = some (.inl (0, la)) := by simp (disch := first | omega | (simp only [List.length_set]; omega)) only [hs_at, hs_ne, List.length_set, h61]
  have h62 : (h.set w (.inl (0, List.replicate wa.length (nI 0))))[62]? = some (.inl (0, nu)) := by simp (disch := first | omega | (simp only [List.length_set]; omega)) only [hs_at, hs_ne, List.length_set, h62]
  have h63 : (h.set w (.inl (0, List.replicate wa.length (nI 0))))[63]? = some (.inl (0, jt)) := by simp (disch := first | omega | (simp only [List.length_set]; omega)) only [hs_at, hs_ne, List.length_set, h63]
  have h64 : (h.set w (.inl (0, List.replicate wa.length (nI 0))))[64]? = some (.inl (0, dd)) := by simp (disch := first | omega | (simp only [List.length_set]; omega)) only [hs_at, hs_ne, List.length_set, h64]
  have hk : (h.set w (.inl (0, List.replicate wa.length (nI 0))))[k]? = some (.inl (0, cs.map nI)) := by simp (disch := first | omega | (simp only [List.length_set]; omega)) only [hs_at, hs_ne, List.length_set, hk]
  have hl1 : 164 < (h.set w (.inl (0, List.replicate wa.length (nI 0)))).length := by simpa using hl
  generalize h.set w (.inl (0, List.replicate wa.length (nI 0))) = h1 at *
  simp (disch := first | omega | (simp only [List.length_set]; omega)) only [g_44_0, g_44_1, g_44_5, g_44_6, g_44_10, g_44_14, g_44_18, g_44_19, g_44_21, g_44_22, g_44_25, g_44_28, g_44_29, g_44_30, g_44_33, g_44_34, g_44_37, g_44_38, g_44_41, g_44_42, g_44_43, g_44_45, g_44_47, g_44_50, g_44_52, g_44_53, g_44_54, g_44_57, g_44_58, g_44_60, g_44_61, g_44_64, g_44_65, g_44_68, g_44_69, g_44_72, g_44_73, g_44_76, g_44_77, g_44_78, g_44_79, g_44_82, g_44_85, gs_nx, db_inx, gs_ldi, gs_lda, gs_ldn, List.getElem?_cons_zero, List.getElem?_cons_succ, List.set_cons_zero, List.set_cons_succ, gx5, fx_int, fx_ref, fx_null, px5, gs_lx, gs_ax, sx5, ft_int, ft_ref, ft_b0, ft_b1, c1_int, c1_ref, List.length_cons, List.length_nil, Nat.reduceAdd, Nat.reduceLT, Nat.reduceLeDiff, true_and, and_true, true_or, or_true, not_false_eq_true, Option.toList_some, Option.toList_none, List.nil_append, List.singleton_append, List.cons_append, ↓reduceIte, z_max, z_min, nI_add, z_sub, z_dec, z_mul, z_div, z_mod, nI_clamp, z_lt, z_nlt, z_le, z_nle, z_ne, z_eq, z_in, not_true_eq_false, if_true, if_false, hs_at, hs_ne, hs_sort, hset_eq, vupp_eq, hs_over, List.length_set, vup_at, vup_ne, vup_over, vup_sort, mfs_len, n5_f, map_getD, List.length_map, gd_self, gd_ne, Nat.add_sub_cancel]
  refine c_44_7 (by simp) (n5_ge (by omega)) h60 ?_
  refine m45 hl1 h60 h61 h62 l1 l2 hk hk2 hcs hb (fun la2 nu2 q1 q2 q3 q4 => ?_)
  change agr la2 (fun k => (lfs cs).getD k 0) (lfs cs).length at q3
  change agr nu2 (hN0 cs) (lfs cs).length at q4
  change db_Go 44 10 _ _ (((h1.set 60 (jO (nI (lfs cs).length) b c d)).set 61 (.inl (0, la2))).set 62 (.inl (0, nu2))) P
  have F2 : Fr (FJ w) h1 (((h1.set 60 (jO (nI (lfs cs).length) b c d)).set 61 (.inl (0, la2))).set 62 (.inl (0, nu2))) := Fr_s (Fr_s (Fr_set (by simp [FJ])) (by simp [FJ])) (by simp [FJ])
  have g60 : (((h1.set 60 (jO (nI (lfs cs).length) b c d)).set 61 (.inl (0, la2))).set 62 (.inl (0, nu2)))[60]? = some (jO (nI (lfs cs).length) b c d) := by simp (disch := first | omega | (simp only [List.length_set]; omega)) only [hs_at, hs_ne, List.length_set]
  have g61 : (((h1.set 60 (jO (nI (lfs cs).length) b c d)).set 61 (.inl (0, la2))).set 62 (.inl (0, nu2)))[61]? = some (.inl (0, la2)) := by simp (disch := first | omega | (simp only [List.length_set]; omega)) only [hs_at, hs_ne, List.length_set]
  have g62 : (((h1.set 60 (jO (nI (lfs cs).length) b c d)).set 61 (.inl (0, la2))).set 62 (.inl (0, nu2)))[62]? = some (.inl (0, nu2)) := by simp (disch := first | omega | (simp only [List.length_set]; omega)) only [hs_at, hs_ne, List.length_set]
  have g63 : (((h1.set 60 (jO (nI (lfs cs).length) b c d)).set 61 (.inl (0, la2))).set 62 (.inl (0, nu2)))[63]? = some (.inl (0, jt)) := by simp (disch := first | omega | (simp only [List.length_set]; omega)) only [hs_at, hs_ne, List.length_set, h63]
  have g64 : (((h1.set 60 (jO (nI (lfs cs).length) b c d)).set 61 (.inl (0, la2))).set 62 (.inl (0, nu2)))[64]? = some (.inl (0, dd)) := by simp (disch := first | omega | (simp only [List.length_set]; omega)) only [hs_at, hs_ne, List.length_set, h64]
  have gw : (((h1.set 60 (jO (nI (lfs cs).length) b c d)).set 61 (.inl (0, la2))).set 62 (.inl (0, nu2)))[w]? = some (.inl (0, List.replicate wa.length (nI 0))) := by simp (disch := first | omega | (simp only [List.length_set]; omega)) only [hs_at, hs_ne, List.length_set, w1]
  have hl2 : 164 < (((h1.set 60 (jO (nI (lfs cs).length) b c d)).set 61 (.inl (0, la2))).set 62 (.inl (0, nu2))).length := by simpa using hl1
  generalize ((h1.set 60 (jO (nI (lfs cs).length) b c d)).set 61 (.inl (0, la2))).set 62 (.inl (0, nu2)) = h2 at *
  simp (disch := first | omega | (simp only [List.length_set]; omega)) only [g_44_0, g_44_1, g_44_5, g_44_6, g_44_10, g_44_14, g_44_18, g_44_19, g_44_21, g_44_22, g_44_25, g_44_28, g_44_29, g_44_30, g_44_33, g_44_34, g_44_37, g_44_38, g_44_41, g_44_42, g_44_43, g_44_45, g_44_47, g_44_50, g_44_52, g_44_53, g_44_54, g_44_57, g_44_58, g_44_60, g_44_61, g_44_64, g_44_65, g_44_68, g_44_69, g_44_72, g_44_73, g_44_76, g_44_77, g_44_78, g_44_79, g_44_82, g_44_85, gs_nx, db_inx, gs_ldi, gs_lda, gs_ldn, List.getElem?_cons_zero, List.getElem?_cons_succ, List.set_cons_zero, List.set_cons_succ, gx5, fx_int, fx_ref, fx_null, px5, gs_lx, gs_ax, sx5, ft_int, ft_ref, ft_b0, ft_b1, c1_int, c1_ref, List.length_cons, List.length_nil, Nat.reduceAdd, Nat.reduceLT, Nat.reduceLeDiff, true_and, and_true, true_or, or_true, not_false_eq_true, Option.toList_some, Option.toList_none, List.nil_append, List.singleton_append, List.cons_append, ↓reduceIte, z_max, z_min, nI_add, z_sub, z_dec, z_mul, z_div, z_mod, nI_clamp, z_lt, z_nlt, z_le, z_nle, z_ne, z_eq, z_in, not_true_eq_false, if_true, if_false, hs_at, hs_ne, hs_sort, hset_eq, vupp_eq, hs_over, List.length_set, vup_at, vup_ne, vup_over, vup_sort, mfs_len, n5_f, map_getD, List.length_map, gd_self, gd_ne, Nat.add_sub_cancel]
  refine c_44_11 (by simp) (n5_ge (by omega)) g60 ?_
  have H0 : HI (lfs cs).length cs.sum (hN0 cs) 0 (hN0 cs, fun _ => 0, 0, (lfs cs).length, (lfs cs).length) := by
    rw [← h_sum cs]
    refine HI_0 (fun x y a b => ?_) (fun x hx => (lfs_at hx).2)
    rcases lfs_lt a b with q | ⟨q, -⟩ <;> omega
  refine m46 hl2 g60 g62 g63 q2 l3 q4 (by omega) (by omega) (fun x y a b => lfs_lt a b) (fun x hx => (lfs_at hx).1) H0 (fun nu3 jt3 r2 r3 r4 => ?_)
  rw [show hrun (lfs cs).length (hN0 cs, fun _ => 0, 0, (lfs cs).length, (lfs cs).length) ((lfs cs).length - 1) = hE cs from rfl] at r4 ⊢
  have F3 : Fr (FJ w) h2 (((h2.set 60 (jO (nI (lfs cs).length) (nI (hE cs).2.2.2.2) (nI (hE cs).2.2.1) (nI (hE cs).2.2.2.1))).set 62 (.inl (0, nu3))).set 63 (.inl (0, jt3))) := Fr_s (Fr_s (Fr_set (by simp [FJ])) (by simp [FJ])) (by simp [FJ])
  have f60 : (((h2.set 60 (jO (nI (lfs cs).length) (nI (hE cs).2.2.2.2) (nI (hE cs).2.2.1) (nI (hE cs).2.2.2.1))).set 62 (.inl (0, nu3))).set 63 (.inl (0, jt3)))[60]? = some (jO (nI (lfs cs).length) (nI (hE cs).2.2.2.2) (nI (hE cs).2.2.1) (nI (hE cs).2.2.2.1)) := by simp (disch := first | omega | (simp only [List.length_set]; omega)) only [hs_at, hs_ne, List.length_set]
  have f61 : (((h2.set 60 (jO (nI (lfs cs).length) (nI (hE cs).2.2.2.2) (nI (hE cs).2.2.1) (nI (hE cs).2.2.2.1))).set 62 (.inl (0, nu3))).set 63 (.inl (0, jt3)))[61]? = some (.inl (0, la2)) := by simp (disch := first | omega | (simp only [List.length_set]; omega)) only [hs_at, hs_ne, List.length_set, g61]
  have f62 : (((h2.set 60 (jO (nI (lfs cs).length) (nI (hE cs).2.2.2.2) (nI (hE cs).2.2.1) (nI (hE cs).2.2.2.1))).set 62 (.inl (0, nu3))).set 63 (.inl (0, jt3)))[62]? = some (.inl (0, nu3)) := by simp (disch := first | omega | (simp only [List.length_set]; omega)) only [hs_at, hs_ne, List.length_set]
  have f63 : (((h2.set 60 (jO (nI (lfs cs).length) (nI (hE cs).2.2.2.2) (nI (hE cs).2.2.1) (nI (hE cs).2.2.2.1))).set 62 (.inl (0, nu3))).set 63 (.inl (0, jt3)))[63]? = some (.inl (0, jt3)) := by simp (disch := first | omega | (simp only [List.length_set]; omega)) only [hs_at, hs_ne, List.length_set]
  have f64 : (((h2.set 60 (jO (nI (lfs cs).length) (nI (hE cs).2.2.2.2) (nI (hE cs).2.2.1) (nI (hE cs).2.2.2.1))).set 62 (.inl (0, nu3))).set 63 (.inl (0, jt3)))[64]? = some (.inl (0, dd)) := by simp (disch := first | omega | (simp only [List.length_set]; omega)) only [hs_at, hs_ne, List.length_set, g64]
  have fw : (((h2.set 60 (jO (nI (lfs cs).length) (nI (hE cs).2.2.2.2) (nI (hE cs).2.2.1) (nI (hE cs).2.2.2.1))).set 62 (.inl (0, nu3))).set 63 (.inl (0, jt3)))[w]? = some (.inl (0, List.replicate wa.length (nI 0))) := by simp (disch := first | omega | (simp only [List.length_set]; omega)) only [hs_at, hs_ne, List.length_set, gw]
  have hl3 : 164 < (((h2.set 60 (jO (nI (lfs cs).length) (nI (hE cs).2.2.2.2) (nI (hE cs).2.2.1) (nI (hE cs).2.2.2.1))).set 62 (.inl (0, nu3))).set 63 (.inl (0, jt3))).length := by simpa using hl2
  generalize ((h2.set 60 (jO (nI (lfs cs).length) (nI (hE cs).2.2.2.2) (nI (hE cs).2.2.1) (nI (hE cs).2.2.2.1))).set 62 (.inl (0, nu3))).set 63 (.inl (0, jt3)) = h3 at *
  simp (disch := first | omega | (simp only [List.length_set]; omega)) only [g_44_0, g_44_1, g_44_5, g_44_6, g_44_10, g_44_14, g_44_18, g_44_19, g_44_21, g_44_22, g_44_25, g_44_28, g_44_29, g_44_30, g_44_33, g_44_34, g_44_37, g_44_38, g_44_41, g_44_42, g_44_43, g_44_45, g_44_47, g_44_50, g_44_52, g_44_53, g_44_54, g_44_57, g_44_58, g_44_60, g_44_61, g_44_64, g_44_65, g_44_68, g_44_69, g_44_72, g_44_73, g_44_76, g_44_77, g_44_78, g_44_79, g_44_82, g_44_85, gs_nx, db_inx, gs_ldi, gs_lda, gs_ldn, List.getElem?_cons_zero, List.getElem?_cons_succ, List.set_cons_zero, List.set_cons_succ, gx5, fx_int, fx_ref, fx_null, px5, gs_lx, gs_ax, sx5, ft_int, ft_ref, ft_b0, ft_b1, c1_int, c1_ref, List.length_cons, List.length_nil, Nat.reduceAdd, Nat.reduceLT, Nat.reduceLeDiff, true_and, and_true, true_or, or_true, not_false_eq_true, Option.toList_some, Option.toList_none, List.nil_append, List.singleton_append, List.cons_append, ↓reduceIte, z_max, z_min, nI_add, z_sub, z_dec, z_mul, z_div, z_mod, nI_clamp, z_lt, z_nlt, z_le, z_nle, z_ne, z_eq, z_in, not_true_eq_false, if_true, if_false, hs_at, hs_ne, hs_sort, hset_eq, vupp_eq, hs_over, List.length_set, vup_at, vup_ne, vup_over, vup_sort, mfs_len, n5_f, map_getD, List.length_map, gd_self, gd_ne, Nat.add_sub_cancel]
  refine c_44_15 (by simp) (n5_ge (by omega)) f60 ?_
  have end0 : (lfs cs).length = 0 → (hE cs).2.2.2.2 = 0 := by
    intro e
    unfold hE
    rw [e]
    rfl
  have fin : ∀ dd4 : List Int32, dd4.length = 572 → agr dd4 (dep (hE cs).2.1 (2 * (lfs cs).length - 2)) (lfs cs).length → db_Go 44 18 [.ref 60, .ref k, .ref w, .retAddr 0, .retAddr 0] [] (h3.set 64 (.inl (0, dd4))) P := by
    intro dd4 s1 s2
    simp (disch := first | omega | (simp only [List.length_set]; omega)) only [g_44_0, g_44_1, g_44_5, g_44_6, g_44_10, g_44_14, g_44_18, g_44_19, g_44_21, g_44_22, g_44_25, g_44_28, g_44_29, g_44_30, g_44_33, g_44_34, g_44_37, g_44_38, g_44_41, g_44_42, g_44_43, g_44_45, g_44_47, g_44_50, g_44_52, g_44_53, g_44_54, g_44_57, g_44_58, g_44_60, g_44_61, g_44_64, g_44_65, g_44_68, g_44_69, g_44_72, g_44_73, g_44_76, g_44_77, g_44_78, g_44_79, g_44_82, g_44_85, gs_nx, db_inx, gs_ldi, gs_lda, gs_ldn, List.getElem?_cons_zero, List.getElem?_cons_succ, List.set_cons_zero, List.set_cons_succ, gx5, fx_int, fx_ref, fx_null, px5, gs_lx, gs_ax, sx5, ft_int, ft_ref, ft_b0, ft_b1, c1_int, c1_ref, List.length_cons, List.length_nil, Nat.reduceAdd, Nat.reduceLT, Nat.reduceLeDiff, true_and, and_true, true_or, or_true, not_false_eq_true, Option.toList_some, Option.toList_none, List.nil_append, List.singleton_append, List.cons_append, ↓reduceIte, z_max, z_min, nI_add, z_sub, z_dec, z_mul, z_div, z_mod, nI_clamp, z_lt, z_nlt, z_le, z_nle, z_ne, z_eq, z_in, not_true_eq_false, if_true, if_false, hs_at, hs_ne, hs_sort, hset_eq, vupp_eq, hs_over, List.length_set, vup_at, vup_ne, vup_over, vup_sort, mfs_len, n5_f, map_getD, List.length_map, gd_self, gd_ne, Nat.add_sub_cancel]
    have ew : (h3.set 64 (.inl (0, dd4)))[w]? = some (.inl (0, (hfold cs 0).map nI)) := by
      simp (disch := first | omega | (simp only [List.length_set]; omega)) only [hs_at, hs_ne, List.length_set, fw]
      rw [hfold, List.map_replicate, hwa]
    rw [← hs_self ew]
    refine m44_loop (k := k) (la := la2) (dd := dd4) (by simpa using hl3) hw2 (by simp (disch := first | omega | (simp only [List.length_set]; omega)) only [hs_at, hs_ne, List.length_set, f60]; rfl) (by simp (disch := first | omega | (simp only [List.length_set]; omega)) only [hs_at, hs_ne, List.length_set, f61]) (by simp (disch := first | omega | (simp only [List.length_set]; omega)) only [hs_at, hs_ne, List.length_set]) q1 s1 hcs q3 s2 ?_ (lfs cs).length 0 _ (Nat.zero_add _)
    refine K _ (Fr_tr (Fr_tr F1 F2) (Fr_tr F3 (Fr_s (Fr_set (by simp [FJ])) (by simp [FJ])))) ?_ (by simp (disch := first | omega | (simp only [List.length_set]; omega)) only [hs_at, hs_ne, List.length_set])
    exact ⟨_, _, _, _, la2, nu3, jt3, dd4, by simp (disch := first | omega | (simp only [List.length_set]; omega)) only [hs_at, hs_ne, List.length_set, f60]; rfl, by simp (disch := first | omega | (simp only [List.length_set]; omega)) only [hs_at, hs_ne, List.length_set, f61], by simp (disch := first | omega | (simp only [List.length_set]; omega)) only [hs_at, hs_ne, List.length_set, f62], by simp (disch := first | omega | (simp only [List.length_set]; omega)) only [hs_at, hs_ne, List.length_set, f63], by simp (disch := first | omega | (simp only [List.length_set]; omega)) only [hs_at, hs_ne, List.length_set], q1, r2, r3, s1⟩
  by_cases h0 : (lfs cs).length = 0
  · have e0 := end0 h0
    rw [e0] at f60
    refine m48 (n := 0) (Q := id) hl3 f60 f63 f64 r3 l4 (by omega) (fun x hx => absurd hx (Nat.not_lt_zero _)) (fun x hx => absurd hx (Nat.not_lt_zero _)) (fun dd4 s1 s2 => ?_)
    exact fin dd4 s1 (fun k hk => absurd hk (by omega))
  · obtain ⟨z1, z2, z3, -⟩ := hE_end (cs := cs) (by omega)
    rw [z1] at f60
    refine m48 (n := 2 * (lfs cs).length - 1) (Q := (hE cs).2.1) hl3 f60 f63 f64 r3 l4 (by omega) (fun x hx => by have := z3 x (by omega); omega) (fun x hx => r4 x (by omega) ((z2 x (by omega)).mpr (by omega))) (fun dd4 s1 s2 => ?_)
    exact fin dd4 s1 (fun k hk => by
      have := s2 k (by omega)
      rw [show 2 * (lfs cs).length - 1 - 1 = 2 * (lfs cs).length - 2 by omega] at this
      exact this)
end J4
