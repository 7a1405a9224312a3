/-! the making of the objects -/
section MK
variable {y pc : Nat} {L0 L S : List Value} {h0 h : db_H} {P : Option Value → db_H → Prop}
theorem nw_new {k c z : Nat} {kd : List Nat} : db_Gs y L0 h0 P (db_stp (.new k, 3, c :: z :: kd) pc L S h) ↔ db_Go y (pc + 3) L (.ref h.length :: S) (h ++ [.inr (c, db_df kd)]) P := Iff.rfl
theorem nw_int {n : Nat} (hn : n ≤ 100000) : db_Gs y L0 h0 P (db_stp (.newarray .int, 2, []) pc L (.int (nI n) :: S) h) ↔ db_Go y (pc + 2) L (.ref h.length :: S) (h ++ [.inl (0, List.replicate n 0)]) P := by
  have e : db_stp (.newarray .int, 2, []) pc L (.int (nI n) :: S) h = db_nx (pc + 2) L (.ref h.length :: S) (h ++ [.inl (0, List.replicate n 0)]) := by
    simp only [db_stp, db_nwa, db_new]
    have p : ¬ nI n < 0 := nI_pos (by omega)
    rw [nI_clamp (by omega), if_neg (show ¬ (nI n < 0 ∨ 100000 < n) from fun z => z.elim p (fun z => by omega))]
  rw [e]
  exact Iff.rfl
theorem nw_bool {n : Nat} (hn : n ≤ 100000) : db_Gs y L0 h0 P (db_stp (.newarray .boolean, 2, []) pc L (.int (nI n) :: S) h) ↔ db_Go y (pc + 2) L (.ref h.length :: S) (h ++ [.inl (1, List.replicate n 0)]) P := by
  have e : db_stp (.newarray .boolean, 2, []) pc L (.int (nI n) :: S) h = db_nx (pc + 2) L (.ref h.length :: S) (h ++ [.inl (1, List.replicate n 0)]) := by
    simp only [db_stp, db_nwa, db_new]
    have p : ¬ nI n < 0 := nI_pos (by omega)
    rw [nI_clamp (by omega), if_neg (show ¬ (nI n < 0 ∨ 100000 < n) from fun z => z.elim p (fun z => by omega))]
  rw [e]
  exact Iff.rfl
theorem nat4 {k q o : Nat} : db_Gs y L0 h0 P (db_stp (.invokespecial k, 3, [4, q]) pc L [.ref o] h) ↔ db_Go y (pc + 3) L [] h P := Iff.rfl
theorem ap_at {n : Nat} {c : db_C} {l : db_H} (e : n = h.length) : (h ++ c :: l)[n]? = some c := by
  rw [e, List.getElem?_append_right (Nat.le_refl _), Nat.sub_self]
  rfl
theorem st_at {n : Nat} {c x : db_C} {l : db_H} (e : n = h.length) : (h ++ c :: l).set n x = h ++ x :: l := by
  rw [e, List.set_append_right _ _ (Nat.le_refl _), Nat.sub_self]
  rfl
theorem al_at {n : Nat} {l : db_H} (e : n < h.length) : (h ++ l)[n]? = h[n]? := List.getElem?_append_left e
theorem al_set {n : Nat} {x : db_C} {l : db_H} (e : n < h.length) : (h ++ l).set n x = h.set n x ++ l := List.set_append_left _ _ e
theorem aq {n k : Nat} {l : db_H} (e : n = h.length + k) : (h ++ l)[n]? = l[k]? := by
  rw [e, List.getElem?_append_right (by omega), Nat.add_sub_cancel_left]
theorem mx0 {n : Nat} : max 0 n = n := Nat.max_eq_right (Nat.zero_le n)
theorem rep0 {n : Nat} : List.replicate n (0 : Int32) = (List.replicate n 0).map nI := by
  rw [List.map_replicate]
  rfl

theorem df1 : db_df [2, 0] = [.null, .int (nI 0)] := rfl
theorem df9 : db_df [2, 2, 2, 0, 0, 0] = [.null, .null, .null, .int (nI 0), .int (nI 0), .int (nI 0)] := rfl
theorem df7 : db_df [2, 2, 2, 2, 0, 0, 0, 0] = [.null, .null, .null, .null, .int (nI 0), .int (nI 0), .int (nI 0), .int (nI 0)] := rfl
theorem df5 : db_df [2, 2, 2, 2, 2, 2, 2, 2] = [.null, .null, .null, .null, .null, .null, .null, .null] := rfl
theorem df0 : db_df [2, 2, 2, 2, 0, 1] = [.null, .null, .null, .null, .int (nI 0), .int (nI 0)] := rfl
theorem df2 : db_df [2, 2, 2, 2, 2, 2, 2, 0, 0, 1] = [.null, .null, .null, .null, .null, .null, .null, .int (nI 0), .int (nI 0), .int (nI 0)] := rfl
theorem df8 : db_df [2, 0, 0, 0] = [.null, .int (nI 0), .int (nI 0), .int (nI 0)] := rfl
theorem df6 : db_df [2, 2, 2, 2, 2, 2, 2, 2, 2, 2, 0, 0, 0, 0] = [.null, .null, .null, .null, .null, .null, .null, .null, .null, .null, .int (nI 0), .int (nI 0), .int (nI 0), .int (nI 0)] := rfl
theorem df11 : db_df [2, 2, 2, 2, 2, 2, 2, 2, 1, 0] = [.null, .null, .null, .null, .null, .null, .null, .null, .int (nI 0), .int (nI 0)] := rfl
theorem df4 : db_df [2, 0, 0] = [.null, .int (nI 0), .int (nI 0)] := rfl
/-- no cell is larger than this -/
def bd (h : db_H) : Prop := ∀ (k : Nat) (c : db_C), h[k]? = some c → db_cz c ≤ 24000
theorem bd_ap {l : db_H} (b : bd h) (q : ∀ c ∈ l, db_cz c ≤ 24000) : bd (h ++ l) := by
  intro k c e
  by_cases z : k < h.length
  · rw [List.getElem?_append_left z] at e
    exact b k c e
  · rw [List.getElem?_append_right (by omega)] at e
    exact q c (List.mem_of_getElem? e)
theorem bd_set {k : Nat} {c : db_C} (b : bd h) (q : db_cz c ≤ 24000) : bd (h.set k c) := by
  intro j d e
  by_cases z : k = j
  · have hl : j < (h.set k c).length := (List.getElem?_eq_some_iff.mp e).1
    rw [List.length_set] at hl
    rw [z, List.getElem?_set_self hl] at e
    have : c = d := by simpa using e
    rw [← this]
    exact q
  · rw [List.getElem?_set_ne z] at e
    exact b j d e
theorem bd_zs {h2 : db_H} (z : zs h h2) (hl : h2.length ≤ h.length) (b : bd h) : bd h2 := fun k c e => by
  have h1 := (List.getElem?_eq_some_iff.mp e).1
  have h3 : k < h.length := by omega
  rw [zs_at z (List.getElem?_eq_getElem h3) e]
  exact b k _ (List.getElem?_eq_getElem h3)
theorem Fr_ex {F : List Nat} {l h2 : db_H} (f : Fr F (h ++ l) h2) (hF : ∀ k ∈ F, h.length ≤ k) : ∃ ex, h2 = h ++ ex ∧ ex.length = l.length := by
  have hl := f.1
  rw [List.length_append] at hl
  refine ⟨h2.drop h.length, ?_, by rw [List.length_drop]; omega⟩
  have e : h2.take h.length = h := by
    refine List.ext_getElem? (fun k => ?_)
    by_cases z : k < h.length
    · rw [List.getElem?_take_of_lt z, f.2 k (by rw [List.length_append]; omega) (fun q => by have := hF k q; omega), List.getElem?_append_left z]
    · rw [List.getElem?_eq_none (by rw [List.length_take]; omega), List.getElem?_eq_none (by omega)]
  have := (List.take_append_drop h.length h2).symm
  rwa [e] at this

theorem k2 {g : db_H} {o : Nat} {n : Nat} (hg : g = h ++ [.inr (1, [.null, .int (nI 0)])]) (ho : h.length = o) (h5 : 5 ≤ o) (hn : n ≤ 100000) (K : P none (h ++ [.inr (1, [.ref (o + 1), .int (nI 0)]), .inl (0, List.replicate n 0)])) : db_Go 2 0 [.ref o, .int (nI n)] [] g P := by
  subst hg
  simp (disch := first | omega | (simp only [List.length_set]; omega)) only [g_2_0, g_2_1, g_2_4, g_2_5, g_2_6, g_2_7, g_2_10, g_2_12, g_2_15, gs_nx, db_inx, gs_ldi, gs_lda, gs_ldn, List.getElem?_cons_zero, List.getElem?_cons_succ, List.set_cons_zero, List.set_cons_succ, gx5, fx_int, fx_ref, fx_null, px5, gs_lx, gs_ax, sx5, ft_int, ft_ref, ft_b0, ft_b1, c1_int, c1_ref, List.length_cons, List.length_nil, Nat.reduceAdd, Nat.reduceLT, Nat.reduceLeDiff, true_and, and_true, true_or, or_true, not_false_eq_true, Option.toList_some, Option.toList_none, List.nil_append, List.singleton_append, List.cons_append, ↓reduceIte, Bool.and_self, eq_self, z_max, z_min, nI_add, z_sub, z_dec, z_mul, z_div, z_mod, nI_clamp, z_lt, z_nlt, z_le, z_nle, z_ne, z_eq, z_in, not_true_eq_false, if_true, if_false, hs_at, hs_ne, hs_sort, hset_eq, vupp_eq, hs_over, List.length_set, vup_at, vup_ne, vup_over, vup_sort, mfs_len, n5_f, map_getD, List.length_map, gd_self, gd_ne, Nat.add_sub_cancel, nw_new, nw_int, nw_bool, nat4, ap_at, st_at, List.length_append, List.append_assoc, al_at, al_set, mx0, df1, df9, df7, df5, df0, df2, df8, df4, df6, df11, ho]
  exact K
theorem k3 {g : db_H} {o : Nat} (hg : g = h ++ [.inr (3, [.null, .int (nI 0)])]) (ho : h.length = o) (h5 : 5 ≤ o) (K : P none (h ++ [.inr (3, [.ref (o + 1), .int (nI 0)]), .inl (0, List.replicate 2 0)])) : db_Go 3 0 [.ref o] [] g P := by
  subst hg
  simp (disch := first | omega | (simp only [List.length_set]; omega)) only [g_3_0, g_3_1, g_3_4, g_3_5, g_3_6, g_3_8, g_3_11, gs_nx, db_inx, gs_ldi, gs_lda, gs_ldn, List.getElem?_cons_zero, List.getElem?_cons_succ, List.set_cons_zero, List.set_cons_succ, gx5, fx_int, fx_ref, fx_null, px5, gs_lx, gs_ax, sx5, ft_int, ft_ref, ft_b0, ft_b1, c1_int, c1_ref, List.length_cons, List.length_nil, Nat.reduceAdd, Nat.reduceLT, Nat.reduceLeDiff, true_and, and_true, true_or, or_true, not_false_eq_true, Option.toList_some, Option.toList_none, List.nil_append, List.singleton_append, List.cons_append, ↓reduceIte, Bool.and_self, eq_self, z_max, z_min, nI_add, z_sub, z_dec, z_mul, z_div, z_mod, nI_clamp, z_lt, z_nlt, z_le, z_nle, z_ne, z_eq, z_in, not_true_eq_false, if_true, if_false, hs_at, hs_ne, hs_sort, hset_eq, vupp_eq, hs_over, List.length_set, vup_at, vup_ne, vup_over, vup_sort, mfs_len, n5_f, map_getD, List.length_map, gd_self, gd_ne, Nat.add_sub_cancel, nw_new, nw_int, nw_bool, nat4, ap_at, st_at, List.length_append, List.append_assoc, al_at, al_set, mx0, df1, df9, df7, df5, df0, df2, df8, df4, df6, df11, ho]
  exact K
theorem k4 {g : db_H} {o : Nat} (hg : g = h ++ [.inr (9, [.null, .null, .null, .int (nI 0), .int (nI 0), .int (nI 0)])]) (ho : h.length = o) (h5 : 5 ≤ o) (K : P none (h ++ [.inr (9, [.ref (o + 1), .ref (o + 2), .ref (o + 3), .int (nI 0), .int (nI 0), .int (nI 0)]), .inl (0, List.replicate 300 0), .inl (0, List.replicate 300 0), .inl (0, List.replicate 300 0)])) : db_Go 4 0 [.ref o] [] g P := by
  subst hg
  simp (disch := first | omega | (simp only [List.length_set]; omega)) only [g_4_0, g_4_1, g_4_4, g_4_5, g_4_8, g_4_10, g_4_13, g_4_14, g_4_17, g_4_19, g_4_22, g_4_23, g_4_26, g_4_28, g_4_31, gs_nx, db_inx, gs_ldi, gs_lda, gs_ldn, List.getElem?_cons_zero, List.getElem?_cons_succ, List.set_cons_zero, List.set_cons_succ, gx5, fx_int, fx_ref, fx_null, px5, gs_lx, gs_ax, sx5, ft_int, ft_ref, ft_b0, ft_b1, c1_int, c1_ref, List.length_cons, List.length_nil, Nat.reduceAdd, Nat.reduceLT, Nat.reduceLeDiff, true_and, and_true, true_or, or_true, not_false_eq_true, Option.toList_some, Option.toList_none, List.nil_append, List.singleton_append, List.cons_append, ↓reduceIte, Bool.and_self, eq_self, z_max, z_min, nI_add, z_sub, z_dec, z_mul, z_div, z_mod, nI_clamp, z_lt, z_nlt, z_le, z_nle, z_ne, z_eq, z_in, not_true_eq_false, if_true, if_false, hs_at, hs_ne, hs_sort, hset_eq, vupp_eq, hs_over, List.length_set, vup_at, vup_ne, vup_over, vup_sort, mfs_len, n5_f, map_getD, List.length_map, gd_self, gd_ne, Nat.add_sub_cancel, nw_new, nw_int, nw_bool, nat4, ap_at, st_at, List.length_append, List.append_assoc, al_at, al_set, mx0, df1, df9, df7, df5, df0, df2, df8, df4, df6, df11, ho]
  exact K
theorem k6 {g : db_H} {o : Nat} (hg : g = h ++ [.inr (10, [.null, .int (nI 0)])]) (ho : h.length = o) (h5 : 5 ≤ o) (K : P none (h ++ [.inr (10, [.ref (o + 1), .int (nI 0)]), .inl (0, List.replicate 400 0)])) : db_Go 6 0 [.ref o] [] g P := by
  subst hg
  simp (disch := first | omega | (simp only [List.length_set]; omega)) only [g_6_0, g_6_1, g_6_4, g_6_5, g_6_8, g_6_10, g_6_13, gs_nx, db_inx, gs_ldi, gs_lda, gs_ldn, List.getElem?_cons_zero, List.getElem?_cons_succ, List.set_cons_zero, List.set_cons_succ, gx5, fx_int, fx_ref, fx_null, px5, gs_lx, gs_ax, sx5, ft_int, ft_ref, ft_b0, ft_b1, c1_int, c1_ref, List.length_cons, List.length_nil, Nat.reduceAdd, Nat.reduceLT, Nat.reduceLeDiff, true_and, and_true, true_or, or_true, not_false_eq_true, Option.toList_some, Option.toList_none, List.nil_append, List.singleton_append, List.cons_append, ↓reduceIte, Bool.and_self, eq_self, z_max, z_min, nI_add, z_sub, z_dec, z_mul, z_div, z_mod, nI_clamp, z_lt, z_nlt, z_le, z_nle, z_ne, z_eq, z_in, not_true_eq_false, if_true, if_false, hs_at, hs_ne, hs_sort, hset_eq, vupp_eq, hs_over, List.length_set, vup_at, vup_ne, vup_over, vup_sort, mfs_len, n5_f, map_getD, List.length_map, gd_self, gd_ne, Nat.add_sub_cancel, nw_new, nw_int, nw_bool, nat4, ap_at, st_at, List.length_append, List.append_assoc, al_at, al_set, mx0, df1, df9, df7, df5, df0, df2, df8, df4, df6, df11, ho]
  exact K
theorem k8 {g : db_H} {o : Nat} {n : Nat} (hg : g = h ++ [.inr (2, [.null, .null, .null, .null, .null, .null, .null, .int (nI 0), .int (nI 0), .int (nI 0)])]) (ho : h.length = o) (h5 : 5 ≤ o) (hn : n ≤ 100000) (K : P none (h ++ [.inr (2, [.ref (o + 5), .ref (o + 6), .ref (o + 7), .ref (o + 1), .ref (o + 2), .ref (o + 3), .ref (o + 4), .int (nI 0), .int (nI 0), .int (nI 0)]), .inl (0, List.replicate 16 0), .inl (0, List.replicate 16 0), .inl (0, List.replicate 16 0), .inl (0, List.replicate 16 0), .inl (0, List.replicate n 0), .inl (0, List.replicate n 0), .inl (0, List.replicate n 0)])) : db_Go 8 0 [.ref o, .int (nI n), .retAddr 0] [] g P := by
  subst hg
  simp (disch := first | omega | (simp only [List.length_set]; omega)) only [g_8_0, g_8_1, g_8_4, g_8_5, g_8_7, g_8_9, g_8_12, g_8_13, g_8_15, g_8_17, g_8_20, g_8_21, g_8_23, g_8_25, g_8_28, g_8_29, g_8_31, g_8_33, g_8_36, g_8_37, g_8_38, g_8_41, g_8_42, g_8_43, g_8_44, g_8_46, g_8_49, g_8_50, g_8_51, g_8_53, g_8_56, g_8_57, g_8_58, g_8_60, g_8_63, gs_nx, db_inx, gs_ldi, gs_lda, gs_ldn, List.getElem?_cons_zero, List.getElem?_cons_succ, List.set_cons_zero, List.set_cons_succ, gx5, fx_int, fx_ref, fx_null, px5, gs_lx, gs_ax, sx5, ft_int, ft_ref, ft_b0, ft_b1, c1_int, c1_ref, List.length_cons, List.length_nil, Nat.reduceAdd, Nat.reduceLT, Nat.reduceLeDiff, true_and, and_true, true_or, or_true, not_false_eq_true, Option.toList_some, Option.toList_none, List.nil_append, List.singleton_append, List.cons_append, ↓reduceIte, Bool.and_self, eq_self, z_max, z_min, nI_add, z_sub, z_dec, z_mul, z_div, z_mod, nI_clamp, z_lt, z_nlt, z_le, z_nle, z_ne, z_eq, z_in, not_true_eq_false, if_true, if_false, hs_at, hs_ne, hs_sort, hset_eq, vupp_eq, hs_over, List.length_set, vup_at, vup_ne, vup_over, vup_sort, mfs_len, n5_f, map_getD, List.length_map, gd_self, gd_ne, Nat.add_sub_cancel, nw_new, nw_int, nw_bool, nat4, ap_at, st_at, List.length_append, List.append_assoc, al_at, al_set, mx0, df1, df9, df7, df5, df0, df2, df8, df4, df6, df11, ho]
  exact K
theorem k15 {g : db_H} {o : Nat} (hg : g = h ++ [.inr (4, [.null, .null, .null, .null, .int (nI 0), .int (nI 0), .int (nI 0), .int (nI 0)])]) (ho : h.length = o) (h5 : 5 ≤ o) (K : P none (h ++ [.inr (4, [.ref (o + 1), .ref (o + 2), .ref (o + 3), .ref (o + 4), .int (nI 0), .int (nI 0), .int (nI 0), .int (nI 0)]), .inl (0, List.replicate 286 0), .inl (0, List.replicate 572 0), .inl (0, List.replicate 572 0), .inl (0, List.replicate 572 0)])) : db_Go 15 0 [.ref o] [] g P := by
  subst hg
  simp (disch := first | omega | (simp only [List.length_set]; omega)) only [g_15_0, g_15_1, g_15_4, g_15_5, g_15_8, g_15_10, g_15_13, g_15_14, g_15_17, g_15_19, g_15_22, g_15_23, g_15_26, g_15_28, g_15_31, g_15_32, g_15_35, g_15_37, g_15_40, gs_nx, db_inx, gs_ldi, gs_lda, gs_ldn, List.getElem?_cons_zero, List.getElem?_cons_succ, List.set_cons_zero, List.set_cons_succ, gx5, fx_int, fx_ref, fx_null, px5, gs_lx, gs_ax, sx5, ft_int, ft_ref, ft_b0, ft_b1, c1_int, c1_ref, List.length_cons, List.length_nil, Nat.reduceAdd, Nat.reduceLT, Nat.reduceLeDiff, true_and, and_true, true_or, or_true, not_false_eq_true, Option.toList_some, Option.toList_none, List.nil_append, List.singleton_append, List.cons_append, ↓reduceIte, Bool.and_self, eq_self, z_max, z_min, nI_add, z_sub, z_dec, z_mul, z_div, z_mod, nI_clamp, z_lt, z_nlt, z_le, z_nle, z_ne, z_eq, z_in, not_true_eq_false, if_true, if_false, hs_at, hs_ne, hs_sort, hset_eq, vupp_eq, hs_over, List.length_set, vup_at, vup_ne, vup_over, vup_sort, mfs_len, n5_f, map_getD, List.length_map, gd_self, gd_ne, Nat.add_sub_cancel, nw_new, nw_int, nw_bool, nat4, ap_at, st_at, List.length_append, List.append_assoc, al_at, al_set, mx0, df1, df9, df7, df5, df0, df2, df8, df4, df6, df11, ho]
  exact K
theorem k17 {g : db_H} {o : Nat} (hg : g = h ++ [.inr (8, [.null, .int (nI 0), .int (nI 0), .int (nI 0)])]) (ho : h.length = o) (h5 : 5 ≤ o) (K : P none (h ++ [.inr (8, [.ref (o + 1), .int (nI 0), .int (nI 0), .int (nI 0)]), .inl (0, List.replicate 0 0)])) : db_Go 17 0 [.ref o] [] g P := by
  subst hg
  simp (disch := first | omega | (simp only [List.length_set]; omega)) only [g_17_0, g_17_1, g_17_4, g_17_5, g_17_6, g_17_8, g_17_11, gs_nx, db_inx, gs_ldi, gs_lda, gs_ldn, List.getElem?_cons_zero, List.getElem?_cons_succ, List.set_cons_zero, List.set_cons_succ, gx5, fx_int, fx_ref, fx_null, px5, gs_lx, gs_ax, sx5, ft_int, ft_ref, ft_b0, ft_b1, c1_int, c1_ref, List.length_cons, List.length_nil, Nat.reduceAdd, Nat.reduceLT, Nat.reduceLeDiff, true_and, and_true, true_or, or_true, not_false_eq_true, Option.toList_some, Option.toList_none, List.nil_append, List.singleton_append, List.cons_append, ↓reduceIte, Bool.and_self, eq_self, z_max, z_min, nI_add, z_sub, z_dec, z_mul, z_div, z_mod, nI_clamp, z_lt, z_nlt, z_le, z_nle, z_ne, z_eq, z_in, not_true_eq_false, if_true, if_false, hs_at, hs_ne, hs_sort, hset_eq, vupp_eq, hs_over, List.length_set, vup_at, vup_ne, vup_over, vup_sort, mfs_len, n5_f, map_getD, List.length_map, gd_self, gd_ne, Nat.add_sub_cancel, nw_new, nw_int, nw_bool, nat4, ap_at, st_at, List.length_append, List.append_assoc, al_at, al_set, mx0, df1, df9, df7, df5, df0, df2, df8, df4, df6, df11, ho]
  exact K
theorem k18 {g : db_H} {o : Nat} (hg : g = h ++ [.inr (0, [.null, .null, .null, .null, .int (nI 0), .int (nI 0)])]) (ho : h.length = o) (h5 : 5 ≤ o) (K : P none (h ++ [.inr (0, [.ref (o + 1), .ref (o + 2), .ref (o + 3), .ref (o + 4), .int (nI 0), .int (nI 0)]), .inl (0, List.replicate 15 0), .inl (0, List.replicate 286 0), .inl (0, List.replicate 30 0), .inl (0, List.replicate 19 0)])) : db_Go 18 0 [.ref o] [] g P := by
  subst hg
  simp (disch := first | omega | (simp only [List.length_set]; omega)) only [g_18_0, g_18_1, g_18_4, g_18_5, g_18_7, g_18_9, g_18_12, g_18_13, g_18_16, g_18_18, g_18_21, g_18_22, g_18_24, g_18_26, g_18_29, g_18_30, g_18_32, g_18_34, g_18_37, gs_nx, db_inx, gs_ldi, gs_lda, gs_ldn, List.getElem?_cons_zero, List.getElem?_cons_succ, List.set_cons_zero, List.set_cons_succ, gx5, fx_int, fx_ref, fx_null, px5, gs_lx, gs_ax, sx5, ft_int, ft_ref, ft_b0, ft_b1, c1_int, c1_ref, List.length_cons, List.length_nil, Nat.reduceAdd, Nat.reduceLT, Nat.reduceLeDiff, true_and, and_true, true_or, or_true, not_false_eq_true, Option.toList_some, Option.toList_none, List.nil_append, List.singleton_append, List.cons_append, ↓reduceIte, Bool.and_self, eq_self, z_max, z_min, nI_add, z_sub, z_dec, z_mul, z_div, z_mod, nI_clamp, z_lt, z_nlt, z_le, z_nle, z_ne, z_eq, z_in, not_true_eq_false, if_true, if_false, hs_at, hs_ne, hs_sort, hset_eq, vupp_eq, hs_over, List.length_set, vup_at, vup_ne, vup_over, vup_sort, mfs_len, n5_f, map_getD, List.length_map, gd_self, gd_ne, Nat.add_sub_cancel, nw_new, nw_int, nw_bool, nat4, ap_at, st_at, List.length_append, List.append_assoc, al_at, al_set, mx0, df1, df9, df7, df5, df0, df2, df8, df4, df6, df11, ho]
  exact K
theorem tk_push {l : List Int32} {F : List Nat} {i v : Nat} (q : l.take i = (F.take i).map nI) (hi : i < F.length) (hl : i < l.length) (e : F.getD i 0 = v) : (l.set i (nI v)).take (i + 1) = (F.take (i + 1)).map nI := by
  refine List.ext_getElem? (fun j => ?_)
  by_cases z : j < i + 1
  · rw [List.getElem?_take_of_lt z, List.getElem?_map, List.getElem?_take_of_lt z]
    by_cases z2 : j = i
    · rw [z2, List.getElem?_set_self hl, List.getElem?_eq_getElem hi]
      rw [List.getD_eq_getElem?_getD, List.getElem?_eq_getElem hi, Option.getD_some] at e
      rw [e]
      rfl
    · rw [List.getElem?_set_ne (fun w => z2 w.symm)]
      have := congrArg (fun w => w[j]?) q
      simp only [List.getElem?_map] at this
      rwa [List.getElem?_take_of_lt (by omega), List.getElem?_take_of_lt (by omega)] at this
  · rw [List.getElem?_eq_none (by rw [List.length_take]; omega), List.getElem?_eq_none (by rw [List.length_map, List.length_take]; omega)]
theorem fxS_v : ∀ i, i < 288 → fxS.getD i 0 = if i < 144 then 8 else if i < 256 then 9 else if i < 280 then 7 else 8 := by decide +kernel
theorem m7_loop {o : Nat} {fs : List Value} (h5 : 5 ≤ o) (ho : h[o]? = some (.inr (2, .ref (o + 5) :: fs))) (hlen : o + 5 < h.length) (K : db_Go 7 72 [.ref o, .int (nI 288)] [] (h.set (o + 5) (.inl (0, fxS.map nI))) P) : ∀ d i (l : List Int32), i + d = 288 → l.length = 288 → l.take i = (fxS.take i).map nI → db_Go 7 13 [.ref o, .int (nI i)] [] (h.set (o + 5) (.inl (0, l))) P := by
  intro d
  induction d with
  | zero =>
    intro i l hi hl q
    have e : l = fxS.map nI := by
      rw [show i = 288 by omega, List.take_of_length_le (by omega), List.take_of_length_le (by rw [fxS_len]; omega)] at q
      exact q
    rw [show i = 288 by omega, g_7_13]
    simp (disch := first | omega | (simp only [List.length_set]; omega)) only [g_7_0, g_7_3, g_7_4, g_7_10, g_7_11, g_7_12, g_7_14, g_7_15, g_7_18, g_7_19, g_7_22, g_7_23, g_7_26, g_7_27, g_7_28, g_7_31, g_7_34, g_7_36, g_7_39, g_7_40, g_7_43, g_7_46, g_7_48, g_7_51, g_7_52, g_7_55, g_7_58, g_7_60, g_7_63, g_7_65, g_7_66, g_7_69, g_7_76, g_7_77, gs_nx, db_inx, gs_ldi, gs_lda, gs_ldn, List.getElem?_cons_zero, List.getElem?_cons_succ, List.set_cons_zero, List.set_cons_succ, gx5, fx_int, fx_ref, fx_null, px5, gs_lx, gs_ax, sx5, ft_int, ft_ref, ft_b0, ft_b1, c1_int, c1_ref, List.length_cons, List.length_nil, Nat.reduceAdd, Nat.reduceLT, Nat.reduceLeDiff, true_and, and_true, true_or, or_true, not_false_eq_true, Option.toList_some, Option.toList_none, List.nil_append, List.singleton_append, List.cons_append, ↓reduceIte, Bool.and_self, eq_self, z_max, z_min, nI_add, z_sub, z_dec, z_mul, z_div, z_mod, nI_clamp, z_lt, z_nlt, z_le, z_nle, z_ne, z_eq, z_in, not_true_eq_false, if_true, if_false, hs_at, hs_ne, hs_sort, hset_eq, vupp_eq, hs_over, List.length_set, vup_at, vup_ne, vup_over, vup_sort, mfs_len, n5_f, map_getD, List.length_map, gd_self, gd_ne, Nat.add_sub_cancel, ho, hl]
    rw [e]
    exact K
  | succ d ih =>
    intro i l hi hl q
    have ev := fxS_v i (by omega)
    rw [g_7_13]
    by_cases q1 : i < 144
    · rw [if_pos q1] at ev
      simp (disch := first | omega | (simp only [List.length_set]; omega)) only [g_7_0, g_7_3, g_7_4, g_7_10, g_7_11, g_7_12, g_7_14, g_7_15, g_7_18, g_7_19, g_7_22, g_7_23, g_7_26, g_7_27, g_7_28, g_7_31, g_7_34, g_7_36, g_7_39, g_7_40, g_7_43, g_7_46, g_7_48, g_7_51, g_7_52, g_7_55, g_7_58, g_7_60, g_7_63, g_7_65, g_7_66, g_7_69, g_7_76, g_7_77, gs_nx, db_inx, gs_ldi, gs_lda, gs_ldn, List.getElem?_cons_zero, List.getElem?_cons_succ, List.set_cons_zero, List.set_cons_succ, gx5, fx_int, fx_ref, fx_null, px5, gs_lx, gs_ax, sx5, ft_int, ft_ref, ft_b0, ft_b1, c1_int, c1_ref, List.length_cons, List.length_nil, Nat.reduceAdd, Nat.reduceLT, Nat.reduceLeDiff, true_and, and_true, true_or, or_true, not_false_eq_true, Option.toList_some, Option.toList_none, List.nil_append, List.singleton_append, List.cons_append, ↓reduceIte, Bool.and_self, eq_self, z_max, z_min, nI_add, z_sub, z_dec, z_mul, z_div, z_mod, nI_clamp, z_lt, z_nlt, z_le, z_nle, z_ne, z_eq, z_in, not_true_eq_false, if_true, if_false, hs_at, hs_ne, hs_sort, hset_eq, vupp_eq, hs_over, List.length_set, vup_at, vup_ne, vup_over, vup_sort, mfs_len, n5_f, map_getD, List.length_map, gd_self, gd_ne, Nat.add_sub_cancel, ho, hl]
      exact ih (i + 1) _ (by omega) (by rw [List.length_set]; exact hl) (tk_push q (by rw [fxS_len]; omega) (by omega) ev)
    · rw [if_neg q1] at ev
      by_cases q2 : i < 256
      · rw [if_pos q2] at ev
        simp (disch := first | omega | (simp only [List.length_set]; omega)) only [g_7_0, g_7_3, g_7_4, g_7_10, g_7_11, g_7_12, g_7_14, g_7_15, g_7_18, g_7_19, g_7_22, g_7_23, g_7_26, g_7_27, g_7_28, g_7_31, g_7_34, g_7_36, g_7_39, g_7_40, g_7_43, g_7_46, g_7_48, g_7_51, g_7_52, g_7_55, g_7_58, g_7_60, g_7_63, g_7_65, g_7_66, g_7_69, g_7_76, g_7_77, gs_nx, db_inx, gs_ldi, gs_lda, gs_ldn, List.getElem?_cons_zero, List.getElem?_cons_succ, List.set_cons_zero, List.set_cons_succ, gx5, fx_int, fx_ref, fx_null, px5, gs_lx, gs_ax, sx5, ft_int, ft_ref, ft_b0, ft_b1, c1_int, c1_ref, List.length_cons, List.length_nil, Nat.reduceAdd, Nat.reduceLT, Nat.reduceLeDiff, true_and, and_true, true_or, or_true, not_false_eq_true, Option.toList_some, Option.toList_none, List.nil_append, List.singleton_append, List.cons_append, ↓reduceIte, Bool.and_self, eq_self, z_max, z_min, nI_add, z_sub, z_dec, z_mul, z_div, z_mod, nI_clamp, z_lt, z_nlt, z_le, z_nle, z_ne, z_eq, z_in, not_true_eq_false, if_true, if_false, hs_at, hs_ne, hs_sort, hset_eq, vupp_eq, hs_over, List.length_set, vup_at, vup_ne, vup_over, vup_sort, mfs_len, n5_f, map_getD, List.length_map, gd_self, gd_ne, Nat.add_sub_cancel, ho, hl]
        exact ih (i + 1) _ (by omega) (by rw [List.length_set]; exact hl) (tk_push q (by rw [fxS_len]; omega) (by omega) ev)
      · rw [if_neg q2] at ev
        by_cases q3 : i < 280
        · rw [if_pos q3] at ev
          simp (disch := first | omega | (simp only [List.length_set]; omega)) only [g_7_0, g_7_3, g_7_4, g_7_10, g_7_11, g_7_12, g_7_14, g_7_15, g_7_18, g_7_19, g_7_22, g_7_23, g_7_26, g_7_27, g_7_28, g_7_31, g_7_34, g_7_36, g_7_39, g_7_40, g_7_43, g_7_46, g_7_48, g_7_51, g_7_52, g_7_55, g_7_58, g_7_60, g_7_63, g_7_65, g_7_66, g_7_69, g_7_76, g_7_77, gs_nx, db_inx, gs_ldi, gs_lda, gs_ldn, List.getElem?_cons_zero, List.getElem?_cons_succ, List.set_cons_zero, List.set_cons_succ, gx5, fx_int, fx_ref, fx_null, px5, gs_lx, gs_ax, sx5, ft_int, ft_ref, ft_b0, ft_b1, c1_int, c1_ref, List.length_cons, List.length_nil, Nat.reduceAdd, Nat.reduceLT, Nat.reduceLeDiff, true_and, and_true, true_or, or_true, not_false_eq_true, Option.toList_some, Option.toList_none, List.nil_append, List.singleton_append, List.cons_append, ↓reduceIte, Bool.and_self, eq_self, z_max, z_min, nI_add, z_sub, z_dec, z_mul, z_div, z_mod, nI_clamp, z_lt, z_nlt, z_le, z_nle, z_ne, z_eq, z_in, not_true_eq_false, if_true, if_false, hs_at, hs_ne, hs_sort, hset_eq, vupp_eq, hs_over, List.length_set, vup_at, vup_ne, vup_over, vup_sort, mfs_len, n5_f, map_getD, List.length_map, gd_self, gd_ne, Nat.add_sub_cancel, ho, hl]
          exact ih (i + 1) _ (by omega) (by rw [List.length_set]; exact hl) (tk_push q (by rw [fxS_len]; omega) (by omega) ev)
        · rw [if_neg q3] at ev
          simp (disch := first | omega | (simp only [List.length_set]; omega)) only [g_7_0, g_7_3, g_7_4, g_7_10, g_7_11, g_7_12, g_7_14, g_7_15, g_7_18, g_7_19, g_7_22, g_7_23, g_7_26, g_7_27, g_7_28, g_7_31, g_7_34, g_7_36, g_7_39, g_7_40, g_7_43, g_7_46, g_7_48, g_7_51, g_7_52, g_7_55, g_7_58, g_7_60, g_7_63, g_7_65, g_7_66, g_7_69, g_7_76, g_7_77, gs_nx, db_inx, gs_ldi, gs_lda, gs_ldn, List.getElem?_cons_zero, List.getElem?_cons_succ, List.set_cons_zero, List.set_cons_succ, gx5, fx_int, fx_ref, fx_null, px5, gs_lx, gs_ax, sx5, ft_int, ft_ref, ft_b0, ft_b1, c1_int, c1_ref, List.length_cons, List.length_nil, Nat.reduceAdd, Nat.reduceLT, Nat.reduceLeDiff, true_and, and_true, true_or, or_true, not_false_eq_true, Option.toList_some, Option.toList_none, List.nil_append, List.singleton_append, List.cons_append, ↓reduceIte, Bool.and_self, eq_self, z_max, z_min, nI_add, z_sub, z_dec, z_mul, z_div, z_mod, nI_clamp, z_lt, z_nlt, z_le, z_nle, z_ne, z_eq, z_in, not_true_eq_false, if_true, if_false, hs_at, hs_ne, hs_sort, hset_eq, vupp_eq, hs_over, List.length_set, vup_at, vup_ne, vup_over, vup_sort, mfs_len, n5_f, map_getD, List.length_map, gd_self, gd_ne, Nat.add_sub_cancel, ho, hl]
          exact ih (i + 1) _ (by omega) (by rw [List.length_set]; exact hl) (tk_push q (by rw [fxS_len]; omega) (by omega) ev)

theorem cd_mk {ws : List Nat} {o n : Nat} {l : db_H} (ho : h.length = o) (hw : ws.length = n) : cdS (h ++ (.inr (2, [.ref (o + 5), .ref (o + 6), .ref (o + 7), .ref (o + 1), .ref (o + 2), .ref (o + 3), .ref (o + 4), .int (nI 0), .int (nI 0), .int (nI 0)]) :: .inl (0, List.replicate 16 0) :: .inl (0, List.replicate 16 0) :: .inl (0, List.replicate 16 0) :: .inl (0, List.replicate 16 0) :: .inl (0, ws.map nI) :: .inl (0, List.replicate n 0) :: .inl (0, List.replicate n 0) :: l)) o ws :=
  ⟨_, _, _, _, _, _, _, _, _, (aq (k := 0) (by omega)).trans rfl, (aq (k := 1) (by omega)).trans rfl, (aq (k := 2) (by omega)).trans rfl, (aq (k := 3) (by omega)).trans rfl, (aq (k := 4) (by omega)).trans rfl, (aq (k := 5) (by omega)).trans rfl, (aq (k := 6) (by omega)).trans rfl, (aq (k := 7) (by omega)).trans rfl, List.length_replicate, List.length_replicate, List.length_replicate, List.length_replicate, by rw [List.length_replicate, hw], by rw [List.length_replicate, hw]⟩
theorem fxD_l : fxD.length = 32 := rfl
theorem rw0 {n : Nat} : (List.replicate n 0).length = n := List.length_replicate
theorem k7 {o : Nat} (ho : h.length = o) (h19 : 19 ≤ o) (b : bd h) (K : ∀ ex, ex.length = 8 → bd (h ++ ex) → cdW (h ++ ex) o fxS → P (some (.ref o)) (h ++ ex)) : db_Go 7 0 [.retAddr 0, .retAddr 0] [] h P := by
  have e5 : ∀ l, (h ++ ([.inr (2, [.ref (o + 5), .ref (o + 6), .ref (o + 7), .ref (o + 1), .ref (o + 2), .ref (o + 3), .ref (o + 4), .int (nI 0), .int (nI 0), .int (nI 0)]), .inl (0, List.replicate 16 0), .inl (0, List.replicate 16 0), .inl (0, List.replicate 16 0), .inl (0, List.replicate 16 0), .inl (0, List.replicate 288 0), .inl (0, List.replicate 288 0), .inl (0, List.replicate 288 0)] : db_H)).set (o + 5) (.inl (0, l)) = h ++ [.inr (2, [.ref (o + 5), .ref (o + 6), .ref (o + 7), .ref (o + 1), .ref (o + 2), .ref (o + 3), .ref (o + 4), .int (nI 0), .int (nI 0), .int (nI 0)]), .inl (0, List.replicate 16 0), .inl (0, List.replicate 16 0), .inl (0, List.replicate 16 0), .inl (0, List.replicate 16 0), .inl (0, l), .inl (0, List.replicate 288 0), .inl (0, List.replicate 288 0)] := fun l => by
    rw [List.set_append_right _ _ (by omega), show o + 5 - h.length = 5 by omega]
    rfl
  simp (disch := first | omega | (simp only [List.length_set]; omega)) only [g_7_0, g_7_3, g_7_4, g_7_10, g_7_11, g_7_12, g_7_14, g_7_15, g_7_18, g_7_19, g_7_22, g_7_23, g_7_26, g_7_27, g_7_28, g_7_31, g_7_34, g_7_36, g_7_39, g_7_40, g_7_43, g_7_46, g_7_48, g_7_51, g_7_52, g_7_55, g_7_58, g_7_60, g_7_63, g_7_65, g_7_66, g_7_69, g_7_76, g_7_77, gs_nx, db_inx, gs_ldi, gs_lda, gs_ldn, List.getElem?_cons_zero, List.getElem?_cons_succ, List.set_cons_zero, List.set_cons_succ, gx5, fx_int, fx_ref, fx_null, px5, gs_lx, gs_ax, sx5, ft_int, ft_ref, ft_b0, ft_b1, c1_int, c1_ref, List.length_cons, List.length_nil, Nat.reduceAdd, Nat.reduceLT, Nat.reduceLeDiff, true_and, and_true, true_or, or_true, not_false_eq_true, Option.toList_some, Option.toList_none, List.nil_append, List.singleton_append, List.cons_append, ↓reduceIte, Bool.and_self, eq_self, z_max, z_min, nI_add, z_sub, z_dec, z_mul, z_div, z_mod, nI_clamp, z_lt, z_nlt, z_le, z_nle, z_ne, z_eq, z_in, not_true_eq_false, if_true, if_false, hs_at, hs_ne, hs_sort, hset_eq, vupp_eq, hs_over, List.length_set, vup_at, vup_ne, vup_over, vup_sort, mfs_len, n5_f, map_getD, List.length_map, gd_self, gd_ne, Nat.add_sub_cancel, nw_new, nw_int, nw_bool, nat4, ap_at, st_at, List.length_append, List.append_assoc, al_at, al_set, mx0, df1, df9, df7, df5, df0, df2, df8, df4, df6, df11, ho]
  refine c_7_7 (by simp) (n5_ge (by omega)) (ap_at ho.symm) ?_
  refine k8 (h := h) (o := o) rfl ho (by omega) (by decide) ?_
  simp (disch := first | omega | (simp only [List.length_set]; omega)) only [g_7_0, g_7_3, g_7_4, g_7_10, g_7_11, g_7_12, g_7_14, g_7_15, g_7_18, g_7_19, g_7_22, g_7_23, g_7_26, g_7_27, g_7_28, g_7_31, g_7_34, g_7_36, g_7_39, g_7_40, g_7_43, g_7_46, g_7_48, g_7_51, g_7_52, g_7_55, g_7_58, g_7_60, g_7_63, g_7_65, g_7_66, g_7_69, g_7_76, g_7_77, gs_nx, db_inx, gs_ldi, gs_lda, gs_ldn, List.getElem?_cons_zero, List.getElem?_cons_succ, List.set_cons_zero, List.set_cons_succ, gx5, fx_int, fx_ref, fx_null, px5, gs_lx, gs_ax, sx5, ft_int, ft_ref, ft_b0, ft_b1, c1_int, c1_ref, List.length_cons, List.length_nil, Nat.reduceAdd, Nat.reduceLT, Nat.reduceLeDiff, true_and, and_true, true_or, or_true, not_false_eq_true, Option.toList_some, Option.toList_none, List.nil_append, List.singleton_append, List.cons_append, ↓reduceIte, Bool.and_self, eq_self, z_max, z_min, nI_add, z_sub, z_dec, z_mul, z_div, z_mod, nI_clamp, z_lt, z_nlt, z_le, z_nle, z_ne, z_eq, z_in, not_true_eq_false, if_true, if_false, hs_at, hs_ne, hs_sort, hset_eq, vupp_eq, hs_over, List.length_set, vup_at, vup_ne, vup_over, vup_sort, mfs_len, n5_f, map_getD, List.length_map, gd_self, gd_ne, Nat.add_sub_cancel, nw_new, nw_int, nw_bool, nat4, ap_at, st_at, List.length_append, List.append_assoc, al_at, al_set, mx0, df1, df9, df7, df5, df0, df2, df8, df4, df6, df11]
  have lp := m7_loop (P := P) (h := h ++ ([.inr (2, [.ref (o + 5), .ref (o + 6), .ref (o + 7), .ref (o + 1), .ref (o + 2), .ref (o + 3), .ref (o + 4), .int (nI 0), .int (nI 0), .int (nI 0)]), .inl (0, List.replicate 16 0), .inl (0, List.replicate 16 0), .inl (0, List.replicate 16 0), .inl (0, List.replicate 16 0), .inl (0, List.replicate 288 0), .inl (0, List.replicate 288 0), .inl (0, List.replicate 288 0)] : db_H)) (o := o) (by omega) (ap_at ho.symm) (by rw [List.length_append, ho]; simp only [List.length_cons, List.length_nil]; omega) ?_ 288 0 (List.replicate 288 0) rfl List.length_replicate rfl
  · rw [e5] at lp
    exact lp
  · rw [e5]
    simp (disch := first | omega | (simp only [List.length_set]; omega)) only [g_7_0, g_7_3, g_7_4, g_7_10, g_7_11, g_7_12, g_7_14, g_7_15, g_7_18, g_7_19, g_7_22, g_7_23, g_7_26, g_7_27, g_7_28, g_7_31, g_7_34, g_7_36, g_7_39, g_7_40, g_7_43, g_7_46, g_7_48, g_7_51, g_7_52, g_7_55, g_7_58, g_7_60, g_7_63, g_7_65, g_7_66, g_7_69, g_7_72, g_7_76, g_7_77, gs_nx, db_inx, gs_ldi, gs_lda, gs_ldn, List.getElem?_cons_zero, List.getElem?_cons_succ, List.set_cons_zero, List.set_cons_succ, gx5, fx_int, fx_ref, fx_null, px5, gs_lx, gs_ax, sx5, ft_int, ft_ref, ft_b0, ft_b1, c1_int, c1_ref, List.length_cons, List.length_nil, Nat.reduceAdd, Nat.reduceLT, Nat.reduceLeDiff, true_and, and_true, true_or, or_true, not_false_eq_true, Option.toList_some, Option.toList_none, List.nil_append, List.singleton_append, List.cons_append, ↓reduceIte, Bool.and_self, eq_self, z_max, z_min, nI_add, z_sub, z_dec, z_mul, z_div, z_mod, nI_clamp, z_lt, z_nlt, z_le, z_nle, z_ne, z_eq, z_in, not_true_eq_false, if_true, if_false, hs_at, hs_ne, hs_sort, hset_eq, vupp_eq, hs_over, List.length_set, vup_at, vup_ne, vup_over, vup_sort, mfs_len, n5_f, map_getD, List.length_map, gd_self, gd_ne, Nat.add_sub_cancel, nw_new, nw_int, nw_bool, nat4, ap_at, st_at, List.length_append, List.append_assoc, al_at, al_set, mx0, df1, df9, df7, df5, df0, df2, df8, df4, df6, df11]
    refine c_7_73 (by simp) (n5_ge (by omega)) (ap_at ho.symm) ?_
    refine go_zs ?_
    refine f9 h19 (cd_mk ho fxS_len) (by rw [fxS_len]; decide) (by decide +kernel) (fun h2 f cw zz => ?_)
    obtain ⟨ex, e, el⟩ := Fr_ex f (fun k hk => by
      unfold FO at hk
      simp only [List.mem_cons, List.not_mem_nil, or_false] at hk
      omega)
    have l2 := f.1
    have b2 := bd_zs zz (by omega) (bd_ap b (by simp only [List.forall_mem_cons, List.forall_mem_nil, db_cz, List.length_cons, List.length_nil, List.length_replicate, List.length_map, fxS_len, fxD_l, and_true] <;> decide))
    subst e
    simp (disch := first | omega | (simp only [List.length_set]; omega)) only [g_7_0, g_7_3, g_7_4, g_7_10, g_7_11, g_7_12, g_7_14, g_7_15, g_7_18, g_7_19, g_7_22, g_7_23, g_7_26, g_7_27, g_7_28, g_7_31, g_7_34, g_7_36, g_7_39, g_7_40, g_7_43, g_7_46, g_7_48, g_7_51, g_7_52, g_7_55, g_7_58, g_7_60, g_7_63, g_7_65, g_7_66, g_7_69, g_7_72, g_7_76, g_7_77, gs_nx, db_inx, gs_ldi, gs_lda, gs_ldn, List.getElem?_cons_zero, List.getElem?_cons_succ, List.set_cons_zero, List.set_cons_succ, gx5, fx_int, fx_ref, fx_null, px5, gs_lx, gs_ax, sx5, ft_int, ft_ref, ft_b0, ft_b1, c1_int, c1_ref, List.length_cons, List.length_nil, Nat.reduceAdd, Nat.reduceLT, Nat.reduceLeDiff, true_and, and_true, true_or, or_true, not_false_eq_true, Option.toList_some, Option.toList_none, List.nil_append, List.singleton_append, List.cons_append, ↓reduceIte, Bool.and_self, eq_self, z_max, z_min, nI_add, z_sub, z_dec, z_mul, z_div, z_mod, nI_clamp, z_lt, z_nlt, z_le, z_nle, z_ne, z_eq, z_in, not_true_eq_false, if_true, if_false, hs_at, hs_ne, hs_sort, hset_eq, vupp_eq, hs_over, List.length_set, vup_at, vup_ne, vup_over, vup_sort, mfs_len, n5_f, map_getD, List.length_map, gd_self, gd_ne, Nat.add_sub_cancel, nw_new, nw_int, nw_bool, nat4, ap_at, st_at, List.length_append, List.append_assoc, al_at, al_set, mx0, df1, df9, df7, df5, df0, df2, df8, df4, df6, df11]
    exact K ex el b2 cw
theorem k13 {o : Nat} (ho : h.length = o) (h19 : 19 ≤ o) (b : bd h) (K : ∀ ex, ex.length = 8 → bd (h ++ ex) → cdW (h ++ ex) o fxD → P (some (.ref o)) (h ++ ex)) : db_Go 13 0 [.retAddr 0] [] h P := by
  have e5 : (h ++ ([.inr (2, [.ref (o + 5), .ref (o + 6), .ref (o + 7), .ref (o + 1), .ref (o + 2), .ref (o + 3), .ref (o + 4), .int (nI 0), .int (nI 0), .int (nI 0)]), .inl (0, List.replicate 16 0), .inl (0, List.replicate 16 0), .inl (0, List.replicate 16 0), .inl (0, List.replicate 16 0), .inl (0, List.replicate 32 0), .inl (0, List.replicate 32 0), .inl (0, List.replicate 32 0)] : db_H)).set (o + 5) (.inl (0, List.replicate (List.replicate 32 (0 : Int32)).length (nI 5))) = h ++ [.inr (2, [.ref (o + 5), .ref (o + 6), .ref (o + 7), .ref (o + 1), .ref (o + 2), .ref (o + 3), .ref (o + 4), .int (nI 0), .int (nI 0), .int (nI 0)]), .inl (0, List.replicate 16 0), .inl (0, List.replicate 16 0), .inl (0, List.replicate 16 0), .inl (0, List.replicate 16 0), .inl (0, fxD.map nI), .inl (0, List.replicate 32 0), .inl (0, List.replicate 32 0)] := by
    rw [List.set_append_right _ _ (by omega), show o + 5 - h.length = 5 by omega]
    rfl
  simp (disch := first | omega | (simp only [List.length_set]; omega)) only [g_13_0, g_13_3, g_13_4, g_13_9, g_13_10, g_13_11, g_13_14, g_13_18, g_13_22, g_13_23, gs_nx, db_inx, gs_ldi, gs_lda, gs_ldn, List.getElem?_cons_zero, List.getElem?_cons_succ, List.set_cons_zero, List.set_cons_succ, gx5, fx_int, fx_ref, fx_null, px5, gs_lx, gs_ax, sx5, ft_int, ft_ref, ft_b0, ft_b1, c1_int, c1_ref, List.length_cons, List.length_nil, Nat.reduceAdd, Nat.reduceLT, Nat.reduceLeDiff, true_and, and_true, true_or, or_true, not_false_eq_true, Option.toList_some, Option.toList_none, List.nil_append, List.singleton_append, List.cons_append, ↓reduceIte, Bool.and_self, eq_self, z_max, z_min, nI_add, z_sub, z_dec, z_mul, z_div, z_mod, nI_clamp, z_lt, z_nlt, z_le, z_nle, z_ne, z_eq, z_in, not_true_eq_false, if_true, if_false, hs_at, hs_ne, hs_sort, hset_eq, vupp_eq, hs_over, List.length_set, vup_at, vup_ne, vup_over, vup_sort, mfs_len, n5_f, map_getD, List.length_map, gd_self, gd_ne, Nat.add_sub_cancel, nw_new, nw_int, nw_bool, nat4, ap_at, st_at, List.length_append, List.append_assoc, al_at, al_set, mx0, df1, df9, df7, df5, df0, df2, df8, df4, df6, df11, ho]
  refine c_13_6 (by simp) (n5_ge (by omega)) (ap_at ho.symm) ?_
  refine k8 (h := h) (o := o) rfl ho (by omega) (by decide) ?_
  simp (disch := first | omega | (simp only [List.length_set]; omega)) only [g_13_0, g_13_3, g_13_4, g_13_9, g_13_10, g_13_11, g_13_14, g_13_18, g_13_22, g_13_23, gs_nx, db_inx, gs_ldi, gs_lda, gs_ldn, List.getElem?_cons_zero, List.getElem?_cons_succ, List.set_cons_zero, List.set_cons_succ, gx5, fx_int, fx_ref, fx_null, px5, gs_lx, gs_ax, sx5, ft_int, ft_ref, ft_b0, ft_b1, c1_int, c1_ref, List.length_cons, List.length_nil, Nat.reduceAdd, Nat.reduceLT, Nat.reduceLeDiff, true_and, and_true, true_or, or_true, not_false_eq_true, Option.toList_some, Option.toList_none, List.nil_append, List.singleton_append, List.cons_append, ↓reduceIte, Bool.and_self, eq_self, z_max, z_min, nI_add, z_sub, z_dec, z_mul, z_div, z_mod, nI_clamp, z_lt, z_nlt, z_le, z_nle, z_ne, z_eq, z_in, not_true_eq_false, if_true, if_false, hs_at, hs_ne, hs_sort, hset_eq, vupp_eq, hs_over, List.length_set, vup_at, vup_ne, vup_over, vup_sort, mfs_len, n5_f, map_getD, List.length_map, gd_self, gd_ne, Nat.add_sub_cancel, nw_new, nw_int, nw_bool, nat4, ap_at, st_at, List.length_append, List.append_assoc, al_at, al_set, mx0, df1, df9, df7, df5, df0, df2, df8, df4, df6, df11]
  refine c_13_15 (by simp) ?_
  refine m11 (n5_ge (by omega)) ((aq (k := 5) (by omega)).trans rfl) (by rw [List.length_replicate]; decide) ?_
  rw [e5]
  simp (disch := first | omega | (simp only [List.length_set]; omega)) only [g_13_0, g_13_3, g_13_4, g_13_9, g_13_10, g_13_11, g_13_14, g_13_18, g_13_22, g_13_23, gs_nx, db_inx, gs_ldi, gs_lda, gs_ldn, List.getElem?_cons_zero, List.getElem?_cons_succ, List.set_cons_zero, List.set_cons_succ, gx5, fx_int, fx_ref, fx_null, px5, gs_lx, gs_ax, sx5, ft_int, ft_ref, ft_b0, ft_b1, c1_int, c1_ref, List.length_cons, List.length_nil, Nat.reduceAdd, Nat.reduceLT, Nat.reduceLeDiff, true_and, and_true, true_or, or_true, not_false_eq_true, Option.toList_some, Option.toList_none, List.nil_append, List.singleton_append, List.cons_append, ↓reduceIte, Bool.and_self, eq_self, z_max, z_min, nI_add, z_sub, z_dec, z_mul, z_div, z_mod, nI_clamp, z_lt, z_nlt, z_le, z_nle, z_ne, z_eq, z_in, not_true_eq_false, if_true, if_false, hs_at, hs_ne, hs_sort, hset_eq, vupp_eq, hs_over, List.length_set, vup_at, vup_ne, vup_over, vup_sort, mfs_len, n5_f, map_getD, List.length_map, gd_self, gd_ne, Nat.add_sub_cancel, nw_new, nw_int, nw_bool, nat4, ap_at, st_at, List.length_append, List.append_assoc, al_at, al_set, mx0, df1, df9, df7, df5, df0, df2, df8, df4, df6, df11]
  refine c_13_19 (by simp) (n5_ge (by omega)) (ap_at ho.symm) ?_
  refine go_zs ?_
  refine f9 h19 (cd_mk ho (show fxD.length = 32 from rfl)) (by decide) (by decide +kernel) (fun h2 f cw zz => ?_)
  obtain ⟨ex, e, el⟩ := Fr_ex f (fun k hk => by
    unfold FO at hk
    simp only [List.mem_cons, List.not_mem_nil, or_false] at hk
    omega)
  have l2 := f.1
  have b2 := bd_zs zz (by omega) (bd_ap b (by simp only [List.forall_mem_cons, List.forall_mem_nil, db_cz, List.length_cons, List.length_nil, List.length_replicate, List.length_map, fxS_len, fxD_l, and_true] <;> decide))
  subst e
  simp (disch := first | omega | (simp only [List.length_set]; omega)) only [g_13_0, g_13_3, g_13_4, g_13_9, g_13_10, g_13_11, g_13_14, g_13_18, g_13_22, g_13_23, gs_nx, db_inx, gs_ldi, gs_lda, gs_ldn, List.getElem?_cons_zero, List.getElem?_cons_succ, List.set_cons_zero, List.set_cons_succ, gx5, fx_int, fx_ref, fx_null, px5, gs_lx, gs_ax, sx5, ft_int, ft_ref, ft_b0, ft_b1, c1_int, c1_ref, List.length_cons, List.length_nil, Nat.reduceAdd, Nat.reduceLT, Nat.reduceLeDiff, true_and, and_true, true_or, or_true, not_false_eq_true, Option.toList_some, Option.toList_none, List.nil_append, List.singleton_append, List.cons_append, ↓reduceIte, Bool.and_self, eq_self, z_max, z_min, nI_add, z_sub, z_dec, z_mul, z_div, z_mod, nI_clamp, z_lt, z_nlt, z_le, z_nle, z_ne, z_eq, z_in, not_true_eq_false, if_true, if_false, hs_at, hs_ne, hs_sort, hset_eq, vupp_eq, hs_over, List.length_set, vup_at, vup_ne, vup_over, vup_sort, mfs_len, n5_f, map_getD, List.length_map, gd_self, gd_ne, Nat.add_sub_cancel, nw_new, nw_int, nw_bool, nat4, ap_at, st_at, List.length_append, List.append_assoc, al_at, al_set, mx0, df1, df9, df7, df5, df0, df2, df8, df4, df6, df11]
  exact K ex el b2 cw
end MK
