/-! OwnCodes of the class: countSteps, upToLast, fillRow -/
def owC (a b c d : Int32) : db_C := .inr (6, [.ref 36, .ref 44, .ref 52, .ref 60, .ref 65, .ref 66, .ref 67, .ref 68, .ref 69, .ref 70, .int a, .int b, .int c, .int d])
section OW
variable {h : db_H} {P : Option Value → db_H → Prop}
theorem gs_acp {y pc k1 k2 a b sp dp n : Nat} {f g : List Int32} {L0 L S : List Value} {h0 : db_H} (ha5 : 5 ≤ a) (hb5 : 5 ≤ b) (hS : S.length ≤ 8) (ha : h[a]? = some (.inl (0, f))) (hb : h[b]? = some (.inl (0, g))) (h1 : sp + n ≤ f.length) (h2 : dp + n ≤ g.length) (h3 : f.length < 2 ^ 31) (h4 : g.length < 2 ^ 31) (K : db_Go y (pc + 3) L S (h.set b (.inl (0, db_cpy f g sp dp n))) P) : db_Gs y L0 h0 P (db_stp (.invokestatic k1, 3, [3, k2]) pc L (.int (nI n) :: .int (nI dp) :: .ref b :: .int (nI sp) :: .ref a :: S) h) := by
  have e : db_stp (.invokestatic k1, 3, [3, k2]) pc L (.int (nI n) :: .int (nI dp) :: .ref b :: .int (nI sp) :: .ref a :: S) h = db_nx (pc + 3) L S (h.set b (.inl (0, db_cpy f g sp dp n))) := by
    have q1 := n5_ge ha5
    have q2 := n5_ge hb5
    simp only [db_stp, db_inv, db_acp, ha, hb]
    rw [if_neg (show ¬ (b < db_n ∨ a < db_n ∨ 8 < S.length) by omega), nI_clamp (by omega), nI_clamp (by omega), nI_clamp (by omega), if_pos ⟨trivial, trivial, nI_pos (by omega), nI_pos (by omega), nI_pos (by omega), h1, h2⟩]
  rw [e]
  exact K
theorem m20 {v : Int32} (K : P (some (.int (if v < nI 0 then nI 0 else if nI 255 < v then nI 0 else nI 1))) h) : db_Go 20 0 [.int v] [] h P := by
  simp only [g_20_0, g_20_1, g_20_4, g_20_5, g_20_8, g_20_11, g_20_12, g_20_15, g_20_16, gs_nx, db_inx, gs_ldi, gs_lda, gs_ldn, List.getElem?_cons_zero, List.getElem?_cons_succ, List.set_cons_zero, List.set_cons_succ, gs_gx, fx_int, fx_ref, fx_null, gs_px, gs_lx, gs_ax, gs_sx, ft_int, ft_ref, ft_b0, ft_b1, c1_int, c1_ref, List.length_cons, List.length_nil, Nat.reduceAdd, Nat.reduceLT, Nat.reduceLeDiff, true_and, and_true, true_or, or_true, not_false_eq_true, Option.toList_some, Option.toList_none, List.nil_append, List.singleton_append, List.cons_append]
  by_cases h1 : v < nI 0
  · rw [if_pos h1] at K ⊢
    exact K
  · rw [if_neg h1] at K ⊢
    by_cases h2 : nI 255 < v
    · rw [if_pos h2] at K ⊢
      exact K
    · rw [if_neg h2] at K ⊢
      exact K
theorem m20n {v : Nat} (hv : v < 256) (K : P (some (.int (nI 1))) h) : db_Go 20 0 [.int (nI v)] [] h P := by
  refine m20 ?_
  rw [if_neg (nI_lt0 (by omega)), if_neg (nI_nlt (by omega) (by omega))]
  exact K
theorem m42_loop {f g : Nat} {T : List (Nat × Nat × Int32)} {a b c d' : Int32} (hl : 164 < h.length) (h35 : h[35]? = some (owC a b c d')) (hT : cT h) (R : cR h T) (hf : f ≤ g) (hg : g ≤ T.length) (K : P none ((h.set 65 (.inl (0, (oCs ((T.drop f).take (g - f))).map nI))).set 66 (.inl (0, (oCd ((T.drop f).take (g - f))).map nI)))) : ∀ (d k : Nat) (x5 x6 : Value), k + d = g - f → db_Go 42 44 [.ref 35, .ref 12, .int (nI f), .int (nI g), .int (nI (f + k)), x5, x6] [] ((h.set 65 (.inl (0, (cntL 286 (oX ((T.drop f).take (g - f)) ++ sysO (((T.drop f).take (g - f)).take k))).map nI))).set 66 (.inl (0, (cntL 30 (dssO (((T.drop f).take (g - f)).take k))).map nI))) P := by
  unfold owC at h35
  obtain ⟨pl, ln, vl, x, y, e12, e13, e14, e15, hs, hT3, hV⟩ := id R
  obtain ⟨t0, t1, t2, t3⟩ := hT
  have z1 := hs.2.1
  have z2 := hs.2.2.1
  have y1 := @cntL_len
  have lV : ((T.drop f).take (g - f)).length = g - f := by rw [List.length_take, List.length_drop]; omega
  intro d
  induction d with
  | zero =>
    intro k x5 x6 hk
    have eT : ((T.drop f).take (g - f)).take k = (T.drop f).take (g - f) := List.take_of_length_le (by omega)
    rw [eT, show f + k = g by omega, g_42_44]
    simp (disch := first | omega | (simp only [List.length_set]; omega)) only [g_42_0, g_42_1, g_42_4, g_42_8, g_42_9, g_42_12, g_42_16, g_42_17, g_42_20, g_42_23, g_42_24, g_42_25, g_42_26, g_42_27, g_42_30, g_42_31, g_42_34, g_42_35, g_42_36, g_42_37, g_42_38, g_42_39, g_42_42, g_42_46, g_42_47, g_42_50, g_42_52, g_42_55, g_42_58, g_42_59, g_42_62, g_42_64, g_42_65, g_42_67, g_42_68, g_42_71, g_42_73, g_42_74, g_42_75, g_42_78, g_42_81, g_42_82, g_42_85, g_42_87, g_42_91, g_42_93, g_42_94, g_42_97, g_42_100, g_42_102, g_42_103, g_42_104, g_42_105, g_42_106, g_42_107, g_42_108, g_42_109, g_42_112, g_42_115, g_42_120, g_42_121, g_42_122, g_42_123, g_42_124, g_42_125, g_42_128, g_42_133, g_42_136, g_42_137, g_42_140, g_42_142, g_42_143, g_42_144, g_42_145, g_42_146, g_42_147, g_42_150, g_42_153, gs_nx, db_inx, gs_ldi, gs_lda, gs_ldn, List.getElem?_cons_zero, List.getElem?_cons_succ, List.set_cons_zero, List.set_cons_succ, gx5, fx_int, fx_ref, fx_null, px5, gs_lx, gs_ax, sx5, ft_int, ft_ref, ft_b0, ft_b1, c1_int, c1_ref, List.length_cons, List.length_nil, Nat.reduceAdd, Nat.reduceLT, Nat.reduceLeDiff, true_and, and_true, true_or, or_true, not_false_eq_true, Option.toList_some, Option.toList_none, List.nil_append, List.singleton_append, List.cons_append, ↓reduceIte, Bool.and_self, eq_self, z_max, z_min, nI_add, z_sub, z_dec, z_mul, z_div, z_mod, nI_clamp, z_lt, z_nlt, z_le, z_nle, z_ne, z_eq, z_in, not_true_eq_false, if_true, if_false, hs_at, hs_ne, hs_sort, hset_eq, vupp_eq, hs_over, List.length_set, vup_at, vup_ne, vup_over, vup_sort, mfs_len, n5_f, map_getD, List.length_map, gd_self, gd_ne, Nat.add_sub_cancel]
    exact K
  | succ d ih =>
    intro k x5 x6 hk
    obtain ⟨t, ht⟩ : ∃ t, T[f + k]? = some t := ⟨T[f + k], List.getElem?_eq_getElem (by omega)⟩
    have htV : ((T.drop f).take (g - f))[k]? = some t := by rw [List.getElem?_take_of_lt (by omega), List.getElem?_drop]; exact ht
    obtain ⟨s1, s2, s3⟩ := hs.2.2.2 (f + k) t ht
    obtain ⟨hv0, hv, hc⟩ := hV t (List.mem_of_getElem? ht)
    rw [hv] at s3
    have nx := fun x5 x6 => ih (k + 1) x5 x6 (by omega)
    rw [List.take_succ, htV, Option.toList_some] at nx
    generalize hVV : (T.drop f).take (g - f) = V at *
    have es : sysO (V.take k ++ [t]) = sysO (V.take k) ++ [syS t] := by simp [sysO]
    have ed : dssO (V.take k ++ [t]) = dssO (V.take k) ++ dsS t := by simp [dssO]
    rw [es, ed, ← List.append_assoc] at nx
    have lk : (V.take k).length ≤ 300 := by rw [List.length_take]; omega
    have cb1 : ∀ s, (cntL 286 (oX V ++ sysO (V.take k))).getD s 0 ≤ 302 := fun s => Nat.le_trans cnt_b (by
      have : (oX V).length ≤ 2 := by unfold oX; split <;> simp
      unfold sysO
      rw [List.length_append, List.length_map]
      omega)
    have cb2 : ∀ s, (cntL 30 (dssO (V.take k))).getD s 0 ≤ 300 := fun s => Nat.le_trans cnt_b (Nat.le_trans (dssO_len _) lk)
    have y3 : (cntL 286 (oX V ++ sysO (V.take k))).length = 286 := cntL_len
    have y4 : (cntL 30 (dssO (V.take k))).length = 30 := cntL_len
    have ix1 := ixB_le LB t.2.1 28
    have ix2 := ixB_le DB (vN t) 29
    rw [g_42_44]
    rcases hc with ⟨c1, c2⟩ | ⟨c1, c2, c3, c4⟩
    · have e1 : syS t = vN t := if_pos c1
      have e2 : dsS t = [] := if_pos c1
      rw [c1] at s2
      rw [e1, e2, List.append_nil, ← cntI (by omega)] at nx
      have := cb1 (vN t)
      simp (disch := first | omega | (simp only [List.length_set]; omega)) only [g_42_0, g_42_1, g_42_4, g_42_8, g_42_9, g_42_12, g_42_16, g_42_17, g_42_20, g_42_23, g_42_24, g_42_25, g_42_26, g_42_27, g_42_30, g_42_31, g_42_34, g_42_35, g_42_36, g_42_37, g_42_38, g_42_39, g_42_42, g_42_46, g_42_47, g_42_50, g_42_52, g_42_55, g_42_58, g_42_59, g_42_62, g_42_64, g_42_65, g_42_67, g_42_68, g_42_71, g_42_73, g_42_74, g_42_75, g_42_78, g_42_81, g_42_82, g_42_85, g_42_87, g_42_91, g_42_93, g_42_94, g_42_97, g_42_100, g_42_102, g_42_103, g_42_104, g_42_105, g_42_106, g_42_107, g_42_108, g_42_109, g_42_112, g_42_115, g_42_120, g_42_121, g_42_122, g_42_123, g_42_124, g_42_125, g_42_128, g_42_133, g_42_136, g_42_137, g_42_140, g_42_142, g_42_143, g_42_144, g_42_145, g_42_146, g_42_147, g_42_150, g_42_153, gs_nx, db_inx, gs_ldi, gs_lda, gs_ldn, List.getElem?_cons_zero, List.getElem?_cons_succ, List.set_cons_zero, List.set_cons_succ, gx5, fx_int, fx_ref, fx_null, px5, gs_lx, gs_ax, sx5, ft_int, ft_ref, ft_b0, ft_b1, c1_int, c1_ref, List.length_cons, List.length_nil, Nat.reduceAdd, Nat.reduceLT, Nat.reduceLeDiff, true_and, and_true, true_or, or_true, not_false_eq_true, Option.toList_some, Option.toList_none, List.nil_append, List.singleton_append, List.cons_append, ↓reduceIte, Bool.and_self, eq_self, z_max, z_min, nI_add, z_sub, z_dec, z_mul, z_div, z_mod, nI_clamp, z_lt, z_nlt, z_le, z_nle, z_ne, z_eq, z_in, not_true_eq_false, if_true, if_false, hs_at, hs_ne, hs_sort, hset_eq, vupp_eq, hs_over, List.length_set, vup_at, vup_ne, vup_over, vup_sort, mfs_len, n5_f, map_getD, List.length_map, gd_self, gd_ne, Nat.add_sub_cancel, h35, e12, e14, e15, s2, s3, y1]
      refine c_42_130 (by simp) ?_
      refine m20n (by omega) ?_
      simp (disch := first | omega | (simp only [List.length_set]; omega)) only [g_42_0, g_42_1, g_42_4, g_42_8, g_42_9, g_42_12, g_42_16, g_42_17, g_42_20, g_42_23, g_42_24, g_42_25, g_42_26, g_42_27, g_42_30, g_42_31, g_42_34, g_42_35, g_42_36, g_42_37, g_42_38, g_42_39, g_42_42, g_42_46, g_42_47, g_42_50, g_42_52, g_42_55, g_42_58, g_42_59, g_42_62, g_42_64, g_42_65, g_42_67, g_42_68, g_42_71, g_42_73, g_42_74, g_42_75, g_42_78, g_42_81, g_42_82, g_42_85, g_42_87, g_42_91, g_42_93, g_42_94, g_42_97, g_42_100, g_42_102, g_42_103, g_42_104, g_42_105, g_42_106, g_42_107, g_42_108, g_42_109, g_42_112, g_42_115, g_42_120, g_42_121, g_42_122, g_42_123, g_42_124, g_42_125, g_42_128, g_42_133, g_42_136, g_42_137, g_42_140, g_42_142, g_42_143, g_42_144, g_42_145, g_42_146, g_42_147, g_42_150, g_42_153, gs_nx, db_inx, gs_ldi, gs_lda, gs_ldn, List.getElem?_cons_zero, List.getElem?_cons_succ, List.set_cons_zero, List.set_cons_succ, gx5, fx_int, fx_ref, fx_null, px5, gs_lx, gs_ax, sx5, ft_int, ft_ref, ft_b0, ft_b1, c1_int, c1_ref, List.length_cons, List.length_nil, Nat.reduceAdd, Nat.reduceLT, Nat.reduceLeDiff, true_and, and_true, true_or, or_true, not_false_eq_true, Option.toList_some, Option.toList_none, List.nil_append, List.singleton_append, List.cons_append, ↓reduceIte, Bool.and_self, eq_self, z_max, z_min, nI_add, z_sub, z_dec, z_mul, z_div, z_mod, nI_clamp, z_lt, z_nlt, z_le, z_nle, z_ne, z_eq, z_in, not_true_eq_false, if_true, if_false, hs_at, hs_ne, hs_sort, hset_eq, vupp_eq, hs_over, List.length_set, vup_at, vup_ne, vup_over, vup_sort, mfs_len, n5_f, map_getD, List.length_map, gd_self, gd_ne, Nat.add_sub_cancel, h35, e12, e14, e15, s2, s3, y1]
      exact nx _ _
    · have e1 : syS t = 257 + ixB LB t.2.1 28 := if_neg (by omega)
      have e2 : dsS t = [ixB DB (vN t) 29] := if_neg (by omega)
      rw [e1, e2, ← cntI (by omega), ← cntI (by omega)] at nx
      have := cb1 (257 + ixB LB t.2.1 28)
      have := cb2 (ixB DB (vN t) 29)
      simp (disch := first | omega | (simp only [List.length_set]; omega)) only [g_42_0, g_42_1, g_42_4, g_42_8, g_42_9, g_42_12, g_42_16, g_42_17, g_42_20, g_42_23, g_42_24, g_42_25, g_42_26, g_42_27, g_42_30, g_42_31, g_42_34, g_42_35, g_42_36, g_42_37, g_42_38, g_42_39, g_42_42, g_42_46, g_42_47, g_42_50, g_42_52, g_42_55, g_42_58, g_42_59, g_42_62, g_42_64, g_42_65, g_42_67, g_42_68, g_42_71, g_42_73, g_42_74, g_42_75, g_42_78, g_42_81, g_42_82, g_42_85, g_42_87, g_42_91, g_42_93, g_42_94, g_42_97, g_42_100, g_42_102, g_42_103, g_42_104, g_42_105, g_42_106, g_42_107, g_42_108, g_42_109, g_42_112, g_42_115, g_42_120, g_42_121, g_42_122, g_42_123, g_42_124, g_42_125, g_42_128, g_42_133, g_42_136, g_42_137, g_42_140, g_42_142, g_42_143, g_42_144, g_42_145, g_42_146, g_42_147, g_42_150, g_42_153, gs_nx, db_inx, gs_ldi, gs_lda, gs_ldn, List.getElem?_cons_zero, List.getElem?_cons_succ, List.set_cons_zero, List.set_cons_succ, gx5, fx_int, fx_ref, fx_null, px5, gs_lx, gs_ax, sx5, ft_int, ft_ref, ft_b0, ft_b1, c1_int, c1_ref, List.length_cons, List.length_nil, Nat.reduceAdd, Nat.reduceLT, Nat.reduceLeDiff, true_and, and_true, true_or, or_true, not_false_eq_true, Option.toList_some, Option.toList_none, List.nil_append, List.singleton_append, List.cons_append, ↓reduceIte, Bool.and_self, eq_self, z_max, z_min, nI_add, z_sub, z_dec, z_mul, z_div, z_mod, nI_clamp, z_lt, z_nlt, z_le, z_nle, z_ne, z_eq, z_in, not_true_eq_false, if_true, if_false, hs_at, hs_ne, hs_sort, hset_eq, vupp_eq, hs_over, List.length_set, vup_at, vup_ne, vup_over, vup_sort, mfs_len, n5_f, map_getD, List.length_map, gd_self, gd_ne, Nat.add_sub_cancel, h35, e12, e14, e15, s2, s3, y1]
      refine c_42_88 (by simp) ?_
      refine m43 (b := LB) (by simp (disch := first | omega | (simp only [List.length_set]; omega)) only [hs_at, hs_ne, List.length_set, t0]) (by decide) (by decide) (by omega) (fun i => Nat.lt_trans (LB_lt i) (by decide)) ?_
      rw [show LB.length - 1 = 28 from rfl]
      simp (disch := first | omega | (simp only [List.length_set]; omega)) only [g_42_0, g_42_1, g_42_4, g_42_8, g_42_9, g_42_12, g_42_16, g_42_17, g_42_20, g_42_23, g_42_24, g_42_25, g_42_26, g_42_27, g_42_30, g_42_31, g_42_34, g_42_35, g_42_36, g_42_37, g_42_38, g_42_39, g_42_42, g_42_46, g_42_47, g_42_50, g_42_52, g_42_55, g_42_58, g_42_59, g_42_62, g_42_64, g_42_65, g_42_67, g_42_68, g_42_71, g_42_73, g_42_74, g_42_75, g_42_78, g_42_81, g_42_82, g_42_85, g_42_87, g_42_91, g_42_93, g_42_94, g_42_97, g_42_100, g_42_102, g_42_103, g_42_104, g_42_105, g_42_106, g_42_107, g_42_108, g_42_109, g_42_112, g_42_115, g_42_120, g_42_121, g_42_122, g_42_123, g_42_124, g_42_125, g_42_128, g_42_133, g_42_136, g_42_137, g_42_140, g_42_142, g_42_143, g_42_144, g_42_145, g_42_146, g_42_147, g_42_150, g_42_153, gs_nx, db_inx, gs_ldi, gs_lda, gs_ldn, List.getElem?_cons_zero, List.getElem?_cons_succ, List.set_cons_zero, List.set_cons_succ, gx5, fx_int, fx_ref, fx_null, px5, gs_lx, gs_ax, sx5, ft_int, ft_ref, ft_b0, ft_b1, c1_int, c1_ref, List.length_cons, List.length_nil, Nat.reduceAdd, Nat.reduceLT, Nat.reduceLeDiff, true_and, and_true, true_or, or_true, not_false_eq_true, Option.toList_some, Option.toList_none, List.nil_append, List.singleton_append, List.cons_append, ↓reduceIte, Bool.and_self, eq_self, z_max, z_min, nI_add, z_sub, z_dec, z_mul, z_div, z_mod, nI_clamp, z_lt, z_nlt, z_le, z_nle, z_ne, z_eq, z_in, not_true_eq_false, if_true, if_false, hs_at, hs_ne, hs_sort, hset_eq, vupp_eq, hs_over, List.length_set, vup_at, vup_ne, vup_over, vup_sort, mfs_len, n5_f, map_getD, List.length_map, gd_self, gd_ne, Nat.add_sub_cancel, h35, e12, e14, e15, s2, s3, y1]
      refine c_42_117 (by simp) ?_
      refine m43 (b := DB) (by simp (disch := first | omega | (simp only [List.length_set]; omega)) only [hs_at, hs_ne, List.length_set, t1]) (by decide) (by decide) (by omega) DB_lt ?_
      rw [show DB.length - 1 = 29 from rfl]
      simp (disch := first | omega | (simp only [List.length_set]; omega)) only [g_42_0, g_42_1, g_42_4, g_42_8, g_42_9, g_42_12, g_42_16, g_42_17, g_42_20, g_42_23, g_42_24, g_42_25, g_42_26, g_42_27, g_42_30, g_42_31, g_42_34, g_42_35, g_42_36, g_42_37, g_42_38, g_42_39, g_42_42, g_42_46, g_42_47, g_42_50, g_42_52, g_42_55, g_42_58, g_42_59, g_42_62, g_42_64, g_42_65, g_42_67, g_42_68, g_42_71, g_42_73, g_42_74, g_42_75, g_42_78, g_42_81, g_42_82, g_42_85, g_42_87, g_42_91, g_42_93, g_42_94, g_42_97, g_42_100, g_42_102, g_42_103, g_42_104, g_42_105, g_42_106, g_42_107, g_42_108, g_42_109, g_42_112, g_42_115, g_42_120, g_42_121, g_42_122, g_42_123, g_42_124, g_42_125, g_42_128, g_42_133, g_42_136, g_42_137, g_42_140, g_42_142, g_42_143, g_42_144, g_42_145, g_42_146, g_42_147, g_42_150, g_42_153, gs_nx, db_inx, gs_ldi, gs_lda, gs_ldn, List.getElem?_cons_zero, List.getElem?_cons_succ, List.set_cons_zero, List.set_cons_succ, gx5, fx_int, fx_ref, fx_null, px5, gs_lx, gs_ax, sx5, ft_int, ft_ref, ft_b0, ft_b1, c1_int, c1_ref, List.length_cons, List.length_nil, Nat.reduceAdd, Nat.reduceLT, Nat.reduceLeDiff, true_and, and_true, true_or, or_true, not_false_eq_true, Option.toList_some, Option.toList_none, List.nil_append, List.singleton_append, List.cons_append, ↓reduceIte, Bool.and_self, eq_self, z_max, z_min, nI_add, z_sub, z_dec, z_mul, z_div, z_mod, nI_clamp, z_lt, z_nlt, z_le, z_nle, z_ne, z_eq, z_in, not_true_eq_false, if_true, if_false, hs_at, hs_ne, hs_sort, hset_eq, vupp_eq, hs_over, List.length_set, vup_at, vup_ne, vup_over, vup_sort, mfs_len, n5_f, map_getD, List.length_map, gd_self, gd_ne, Nat.add_sub_cancel, h35, e12, e14, e15, s2, s3, y1]
      exact nx _ _
/-- countSteps -/
theorem f42 {f g : Nat} {T : List (Nat × Nat × Int32)} {a b c d' : Int32} {c65 c66 : List Int32} (hl : 164 < h.length) (h35 : h[35]? = some (owC a b c d')) (h65 : h[65]? = some (.inl (0, c65))) (h66 : h[66]? = some (.inl (0, c66))) (l1 : c65.length = 286) (l2 : c66.length = 30) (hT : cT h) (R : cR h T) (hf : f ≤ g) (hg : g ≤ T.length) (K : ∀ h2, Fr [65, 66] h h2 → h2[65]? = some (.inl (0, (oCs ((T.drop f).take (g - f))).map nI)) → h2[66]? = some (.inl (0, (oCd ((T.drop f).take (g - f))).map nI)) → P none h2) : db_Go 42 0 [.ref 35, .ref 12, .int (nI f), .int (nI g), .retAddr 0, .retAddr 0, .retAddr 0] [] h P := by
  have k := fun x5 x6 => @m42_loop h P f g T a b c d' hl h35 hT R hf hg (K _ (Fr_s (Fr_set (by decide)) (by decide)) (by simp (disch := first | omega | (simp only [List.length_set]; omega)) only [hs_at, hs_ne, List.length_set]) (by simp (disch := first | omega | (simp only [List.length_set]; omega)) only [hs_at, hs_ne, List.length_set])) (g - f) 0 x5 x6 (by omega)
  have hT3 : T.length ≤ 300 := by
    obtain ⟨_, _, _, _, _, _, _, _, _, _, q, _⟩ := R
    exact q
  unfold owC at h35
  have y1 := @cntL_len
  rw [List.take_zero] at k
  simp (disch := first | omega | (simp only [List.length_set]; omega)) only [g_42_0, g_42_1, g_42_4, g_42_8, g_42_9, g_42_12, g_42_16, g_42_17, g_42_20, g_42_23, g_42_24, g_42_25, g_42_26, g_42_27, g_42_30, g_42_31, g_42_34, g_42_35, g_42_36, g_42_37, g_42_38, g_42_39, g_42_42, g_42_46, g_42_47, g_42_50, g_42_52, g_42_55, g_42_58, g_42_59, g_42_62, g_42_64, g_42_65, g_42_67, g_42_68, g_42_71, g_42_73, g_42_74, g_42_75, g_42_78, g_42_81, g_42_82, g_42_85, g_42_87, g_42_91, g_42_93, g_42_94, g_42_97, g_42_100, g_42_102, g_42_103, g_42_104, g_42_105, g_42_106, g_42_107, g_42_108, g_42_109, g_42_112, g_42_115, g_42_120, g_42_121, g_42_122, g_42_123, g_42_124, g_42_125, g_42_128, g_42_133, g_42_136, g_42_137, g_42_140, g_42_142, g_42_143, g_42_144, g_42_145, g_42_146, g_42_147, g_42_150, g_42_153, gs_nx, db_inx, gs_ldi, gs_lda, gs_ldn, List.getElem?_cons_zero, List.getElem?_cons_succ, List.set_cons_zero, List.set_cons_succ, gx5, fx_int, fx_ref, fx_null, px5, gs_lx, gs_ax, sx5, ft_int, ft_ref, ft_b0, ft_b1, c1_int, c1_ref, List.length_cons, List.length_nil, Nat.reduceAdd, Nat.reduceLT, Nat.reduceLeDiff, true_and, and_true, true_or, or_true, not_false_eq_true, Option.toList_some, Option.toList_none, List.nil_append, List.singleton_append, List.cons_append, ↓reduceIte, Bool.and_self, eq_self, z_max, z_min, nI_add, z_sub, z_dec, z_mul, z_div, z_mod, nI_clamp, z_lt, z_nlt, z_le, z_nle, z_ne, z_eq, z_in, not_true_eq_false, if_true, if_false, hs_at, hs_ne, hs_sort, hset_eq, vupp_eq, hs_over, List.length_set, vup_at, vup_ne, vup_over, vup_sort, mfs_len, n5_f, map_getD, List.length_map, gd_self, gd_ne, Nat.add_sub_cancel, h35]
  refine c_42_5 (by simp) ?_
  refine m11 (n5_ge (by decide)) h65 (by omega) ?_
  rw [l1]
  simp (disch := first | omega | (simp only [List.length_set]; omega)) only [g_42_0, g_42_1, g_42_4, g_42_8, g_42_9, g_42_12, g_42_16, g_42_17, g_42_20, g_42_23, g_42_24, g_42_25, g_42_26, g_42_27, g_42_30, g_42_31, g_42_34, g_42_35, g_42_36, g_42_37, g_42_38, g_42_39, g_42_42, g_42_46, g_42_47, g_42_50, g_42_52, g_42_55, g_42_58, g_42_59, g_42_62, g_42_64, g_42_65, g_42_67, g_42_68, g_42_71, g_42_73, g_42_74, g_42_75, g_42_78, g_42_81, g_42_82, g_42_85, g_42_87, g_42_91, g_42_93, g_42_94, g_42_97, g_42_100, g_42_102, g_42_103, g_42_104, g_42_105, g_42_106, g_42_107, g_42_108, g_42_109, g_42_112, g_42_115, g_42_120, g_42_121, g_42_122, g_42_123, g_42_124, g_42_125, g_42_128, g_42_133, g_42_136, g_42_137, g_42_140, g_42_142, g_42_143, g_42_144, g_42_145, g_42_146, g_42_147, g_42_150, g_42_153, gs_nx, db_inx, gs_ldi, gs_lda, gs_ldn, List.getElem?_cons_zero, List.getElem?_cons_succ, List.set_cons_zero, List.set_cons_succ, gx5, fx_int, fx_ref, fx_null, px5, gs_lx, gs_ax, sx5, ft_int, ft_ref, ft_b0, ft_b1, c1_int, c1_ref, List.length_cons, List.length_nil, Nat.reduceAdd, Nat.reduceLT, Nat.reduceLeDiff, true_and, and_true, true_or, or_true, not_false_eq_true, Option.toList_some, Option.toList_none, List.nil_append, List.singleton_append, List.cons_append, ↓reduceIte, Bool.and_self, eq_self, z_max, z_min, nI_add, z_sub, z_dec, z_mul, z_div, z_mod, nI_clamp, z_lt, z_nlt, z_le, z_nle, z_ne, z_eq, z_in, not_true_eq_false, if_true, if_false, hs_at, hs_ne, hs_sort, hset_eq, vupp_eq, hs_over, List.length_set, vup_at, vup_ne, vup_over, vup_sort, mfs_len, n5_f, map_getD, List.length_map, gd_self, gd_ne, Nat.add_sub_cancel, h35]
  refine c_42_13 (by simp) ?_
  refine m11 (n5_ge (by decide)) (l := c66) (by simp (disch := first | omega | (simp only [List.length_set]; omega)) only [hs_at, hs_ne, List.length_set, h66]) (by omega) ?_
  rw [l2]
  have r1 : List.replicate 286 (nI 0) = (cntL 286 []).map nI := by rw [cntL_nil, List.map_replicate]
  have r2 : List.replicate 30 (nI 0) = (cntL 30 []).map nI := by rw [cntL_nil, List.map_replicate]
  rw [r1, r2]
  have lV : ((T.drop f).take (g - f)).length = g - f := by rw [List.length_take, List.length_drop]; omega
  have n1 : ((cntL 286 []).map nI).set 256 (nI 1) = (cntL 286 [256]).map nI := by
    have := cntI (n := 286) (s := 256) (X := []) (by decide)
    rwa [cntL_at (by decide), List.count_nil] at this
  have n2 : ((cntL 286 [256]).map nI).set 0 (nI 1) = (cntL 286 [256, 0]).map nI := by
    have := cntI (n := 286) (s := 0) (X := [256]) (by decide)
    rwa [cntL_at (by decide), List.count_cons_of_ne (by decide), List.count_nil] at this
  have e0 : dssO ([] : List (Nat × Nat × Int32)) = [] := rfl
  have e1 : sysO ([] : List (Nat × Nat × Int32)) = [] := rfl
  rw [e0, e1, List.append_nil] at k
  by_cases hfg : f < g
  · have : ¬ (T.drop f).take (g - f) = [] := fun e => by rw [e] at lV; simp at lV; omega
    unfold oX at k
    rw [if_neg this] at k
    simp (disch := first | omega | (simp only [List.length_set]; omega)) only [g_42_0, g_42_1, g_42_4, g_42_8, g_42_9, g_42_12, g_42_16, g_42_17, g_42_20, g_42_23, g_42_24, g_42_25, g_42_26, g_42_27, g_42_30, g_42_31, g_42_34, g_42_35, g_42_36, g_42_37, g_42_38, g_42_39, g_42_42, g_42_46, g_42_47, g_42_50, g_42_52, g_42_55, g_42_58, g_42_59, g_42_62, g_42_64, g_42_65, g_42_67, g_42_68, g_42_71, g_42_73, g_42_74, g_42_75, g_42_78, g_42_81, g_42_82, g_42_85, g_42_87, g_42_91, g_42_93, g_42_94, g_42_97, g_42_100, g_42_102, g_42_103, g_42_104, g_42_105, g_42_106, g_42_107, g_42_108, g_42_109, g_42_112, g_42_115, g_42_120, g_42_121, g_42_122, g_42_123, g_42_124, g_42_125, g_42_128, g_42_133, g_42_136, g_42_137, g_42_140, g_42_142, g_42_143, g_42_144, g_42_145, g_42_146, g_42_147, g_42_150, g_42_153, gs_nx, db_inx, gs_ldi, gs_lda, gs_ldn, List.getElem?_cons_zero, List.getElem?_cons_succ, List.set_cons_zero, List.set_cons_succ, gx5, fx_int, fx_ref, fx_null, px5, gs_lx, gs_ax, sx5, ft_int, ft_ref, ft_b0, ft_b1, c1_int, c1_ref, List.length_cons, List.length_nil, Nat.reduceAdd, Nat.reduceLT, Nat.reduceLeDiff, true_and, and_true, true_or, or_true, not_false_eq_true, Option.toList_some, Option.toList_none, List.nil_append, List.singleton_append, List.cons_append, ↓reduceIte, Bool.and_self, eq_self, z_max, z_min, nI_add, z_sub, z_dec, z_mul, z_div, z_mod, nI_clamp, z_lt, z_nlt, z_le, z_nle, z_ne, z_eq, z_in, not_true_eq_false, if_true, if_false, hs_at, hs_ne, hs_sort, hset_eq, vupp_eq, hs_over, List.length_set, vup_at, vup_ne, vup_over, vup_sort, mfs_len, n5_f, map_getD, List.length_map, gd_self, gd_ne, Nat.add_sub_cancel, h35, y1, n1]
    exact k _ _
  · have : (T.drop f).take (g - f) = [] := List.eq_nil_of_length_eq_zero (by omega)
    unfold oX at k
    rw [if_pos this] at k
    simp (disch := first | omega | (simp only [List.length_set]; omega)) only [g_42_0, g_42_1, g_42_4, g_42_8, g_42_9, g_42_12, g_42_16, g_42_17, g_42_20, g_42_23, g_42_24, g_42_25, g_42_26, g_42_27, g_42_30, g_42_31, g_42_34, g_42_35, g_42_36, g_42_37, g_42_38, g_42_39, g_42_42, g_42_46, g_42_47, g_42_50, g_42_52, g_42_55, g_42_58, g_42_59, g_42_62, g_42_64, g_42_65, g_42_67, g_42_68, g_42_71, g_42_73, g_42_74, g_42_75, g_42_78, g_42_81, g_42_82, g_42_85, g_42_87, g_42_91, g_42_93, g_42_94, g_42_97, g_42_100, g_42_102, g_42_103, g_42_104, g_42_105, g_42_106, g_42_107, g_42_108, g_42_109, g_42_112, g_42_115, g_42_120, g_42_121, g_42_122, g_42_123, g_42_124, g_42_125, g_42_128, g_42_133, g_42_136, g_42_137, g_42_140, g_42_142, g_42_143, g_42_144, g_42_145, g_42_146, g_42_147, g_42_150, g_42_153, gs_nx, db_inx, gs_ldi, gs_lda, gs_ldn, List.getElem?_cons_zero, List.getElem?_cons_succ, List.set_cons_zero, List.set_cons_succ, gx5, fx_int, fx_ref, fx_null, px5, gs_lx, gs_ax, sx5, ft_int, ft_ref, ft_b0, ft_b1, c1_int, c1_ref, List.length_cons, List.length_nil, Nat.reduceAdd, Nat.reduceLT, Nat.reduceLeDiff, true_and, and_true, true_or, or_true, not_false_eq_true, Option.toList_some, Option.toList_none, List.nil_append, List.singleton_append, List.cons_append, ↓reduceIte, Bool.and_self, eq_self, z_max, z_min, nI_add, z_sub, z_dec, z_mul, z_div, z_mod, nI_clamp, z_lt, z_nlt, z_le, z_nle, z_ne, z_eq, z_in, not_true_eq_false, if_true, if_false, hs_at, hs_ne, hs_sort, hset_eq, vupp_eq, hs_over, List.length_set, vup_at, vup_ne, vup_over, vup_sort, mfs_len, n5_f, map_getD, List.length_map, gd_self, gd_ne, Nat.add_sub_cancel, h35, y1, n1, n2]
    exact k _ _
theorem m50_loop {o lo : Nat} {ws : List Nat} (ho : h[o]? = some (.inl (0, ws.map nI))) (hw : ws.length ≤ 288) (h15 : ∀ x ∈ ws, x ≤ 15) (hlo : lo ≤ 288) : ∀ n, n ≤ ws.length → lo ≤ n → P (some (.int (nI (utl (fun s => ws.getD s 0) lo n)))) h → db_Go 50 3 [.ref o, .int (nI lo), .int (nI n)] [] h P := by
  intro n
  induction n with
  | zero =>
    intro hn h0 K
    rw [utl] at K
    rw [g_50_3]
    simp (disch := first | omega | (simp only [List.length_set]; omega)) only [g_50_0, g_50_1, g_50_2, g_50_4, g_50_5, g_50_8, g_50_9, g_50_10, g_50_11, g_50_12, g_50_13, g_50_16, g_50_19, g_50_22, g_50_23, gs_nx, db_inx, gs_ldi, gs_lda, gs_ldn, List.getElem?_cons_zero, List.getElem?_cons_succ, List.set_cons_zero, List.set_cons_succ, gx5, fx_int, fx_ref, fx_null, px5, gs_lx, gs_ax, sx5, ft_int, ft_ref, ft_b0, ft_b1, c1_int, c1_ref, List.length_cons, List.length_nil, Nat.reduceAdd, Nat.reduceLT, Nat.reduceLeDiff, true_and, and_true, true_or, or_true, not_false_eq_true, Option.toList_some, Option.toList_none, List.nil_append, List.singleton_append, List.cons_append, ↓reduceIte, Bool.and_self, eq_self, z_max, z_min, nI_add, z_sub, z_dec, z_mul, z_div, z_mod, nI_clamp, z_lt, z_nlt, z_le, z_nle, z_ne, z_eq, z_in, not_true_eq_false, if_true, if_false, hs_at, hs_ne, hs_sort, hset_eq, vupp_eq, hs_over, List.length_set, vup_at, vup_ne, vup_over, vup_sort, mfs_len, n5_f, map_getD, List.length_map, gd_self, gd_ne, Nat.add_sub_cancel, ho]
    exact K
  | succ n ih =>
    intro hn h0 K
    have b1 := w15 h15 n
    rw [utl] at K
    rw [g_50_3]
    by_cases q : lo < n + 1
    · by_cases q2 : ws.getD n 0 = 0
      · rw [if_pos ⟨q, q2⟩] at K
        simp (disch := first | omega | (simp only [List.length_set]; omega)) only [g_50_0, g_50_1, g_50_2, g_50_4, g_50_5, g_50_8, g_50_9, g_50_10, g_50_11, g_50_12, g_50_13, g_50_16, g_50_19, g_50_22, g_50_23, gs_nx, db_inx, gs_ldi, gs_lda, gs_ldn, List.getElem?_cons_zero, List.getElem?_cons_succ, List.set_cons_zero, List.set_cons_succ, gx5, fx_int, fx_ref, fx_null, px5, gs_lx, gs_ax, sx5, ft_int, ft_ref, ft_b0, ft_b1, c1_int, c1_ref, List.length_cons, List.length_nil, Nat.reduceAdd, Nat.reduceLT, Nat.reduceLeDiff, true_and, and_true, true_or, or_true, not_false_eq_true, Option.toList_some, Option.toList_none, List.nil_append, List.singleton_append, List.cons_append, ↓reduceIte, Bool.and_self, eq_self, z_max, z_min, nI_add, z_sub, z_dec, z_mul, z_div, z_mod, nI_clamp, z_lt, z_nlt, z_le, z_nle, z_ne, z_eq, z_in, not_true_eq_false, if_true, if_false, hs_at, hs_ne, hs_sort, hset_eq, vupp_eq, hs_over, List.length_set, vup_at, vup_ne, vup_over, vup_sort, mfs_len, n5_f, map_getD, List.length_map, gd_self, gd_ne, Nat.add_sub_cancel, ho, q2]
        exact ih (by omega) (by omega) K
      · rw [if_neg (fun g => q2 g.2)] at K
        simp (disch := first | omega | (simp only [List.length_set]; omega)) only [g_50_0, g_50_1, g_50_2, g_50_4, g_50_5, g_50_8, g_50_9, g_50_10, g_50_11, g_50_12, g_50_13, g_50_16, g_50_19, g_50_22, g_50_23, gs_nx, db_inx, gs_ldi, gs_lda, gs_ldn, List.getElem?_cons_zero, List.getElem?_cons_succ, List.set_cons_zero, List.set_cons_succ, gx5, fx_int, fx_ref, fx_null, px5, gs_lx, gs_ax, sx5, ft_int, ft_ref, ft_b0, ft_b1, c1_int, c1_ref, List.length_cons, List.length_nil, Nat.reduceAdd, Nat.reduceLT, Nat.reduceLeDiff, true_and, and_true, true_or, or_true, not_false_eq_true, Option.toList_some, Option.toList_none, List.nil_append, List.singleton_append, List.cons_append, ↓reduceIte, Bool.and_self, eq_self, z_max, z_min, nI_add, z_sub, z_dec, z_mul, z_div, z_mod, nI_clamp, z_lt, z_nlt, z_le, z_nle, z_ne, z_eq, z_in, not_true_eq_false, if_true, if_false, hs_at, hs_ne, hs_sort, hset_eq, vupp_eq, hs_over, List.length_set, vup_at, vup_ne, vup_over, vup_sort, mfs_len, n5_f, map_getD, List.length_map, gd_self, gd_ne, Nat.add_sub_cancel, ho]
        exact K
    · rw [if_neg (fun g => q g.1)] at K
      simp (disch := first | omega | (simp only [List.length_set]; omega)) only [g_50_0, g_50_1, g_50_2, g_50_4, g_50_5, g_50_8, g_50_9, g_50_10, g_50_11, g_50_12, g_50_13, g_50_16, g_50_19, g_50_22, g_50_23, gs_nx, db_inx, gs_ldi, gs_lda, gs_ldn, List.getElem?_cons_zero, List.getElem?_cons_succ, List.set_cons_zero, List.set_cons_succ, gx5, fx_int, fx_ref, fx_null, px5, gs_lx, gs_ax, sx5, ft_int, ft_ref, ft_b0, ft_b1, c1_int, c1_ref, List.length_cons, List.length_nil, Nat.reduceAdd, Nat.reduceLT, Nat.reduceLeDiff, true_and, and_true, true_or, or_true, not_false_eq_true, Option.toList_some, Option.toList_none, List.nil_append, List.singleton_append, List.cons_append, ↓reduceIte, Bool.and_self, eq_self, z_max, z_min, nI_add, z_sub, z_dec, z_mul, z_div, z_mod, nI_clamp, z_lt, z_nlt, z_le, z_nle, z_ne, z_eq, z_in, not_true_eq_false, if_true, if_false, hs_at, hs_ne, hs_sort, hset_eq, vupp_eq, hs_over, List.length_set, vup_at, vup_ne, vup_over, vup_sort, mfs_len, n5_f, map_getD, List.length_map, gd_self, gd_ne, Nat.add_sub_cancel, ho]
      exact K
/-- upToLast -/
theorem m50 {o lo : Nat} {ws : List Nat} (ho : h[o]? = some (.inl (0, ws.map nI))) (hw : ws.length ≤ 288) (h15 : ∀ x ∈ ws, x ≤ 15) (hlo : lo ≤ ws.length) (K : P (some (.int (nI (utl (fun s => ws.getD s 0) lo ws.length)))) h) : db_Go 50 0 [.ref o, .int (nI lo), .retAddr 0] [] h P := by
  simp (disch := first | omega | (simp only [List.length_set]; omega)) only [g_50_0, g_50_1, g_50_2, g_50_4, g_50_5, g_50_8, g_50_9, g_50_10, g_50_11, g_50_12, g_50_13, g_50_16, g_50_19, g_50_22, g_50_23, gs_nx, db_inx, gs_ldi, gs_lda, gs_ldn, List.getElem?_cons_zero, List.getElem?_cons_succ, List.set_cons_zero, List.set_cons_succ, gx5, fx_int, fx_ref, fx_null, px5, gs_lx, gs_ax, sx5, ft_int, ft_ref, ft_b0, ft_b1, c1_int, c1_ref, List.length_cons, List.length_nil, Nat.reduceAdd, Nat.reduceLT, Nat.reduceLeDiff, true_and, and_true, true_or, or_true, not_false_eq_true, Option.toList_some, Option.toList_none, List.nil_append, List.singleton_append, List.cons_append, ↓reduceIte, Bool.and_self, eq_self, z_max, z_min, nI_add, z_sub, z_dec, z_mul, z_div, z_mod, nI_clamp, z_lt, z_nlt, z_le, z_nle, z_ne, z_eq, z_in, not_true_eq_false, if_true, if_false, hs_at, hs_ne, hs_sort, hset_eq, vupp_eq, hs_over, List.length_set, vup_at, vup_ne, vup_over, vup_sort, mfs_len, n5_f, map_getD, List.length_map, gd_self, gd_ne, Nat.add_sub_cancel, ho]
  exact m50_loop ho hw h15 (by omega) ws.length (Nat.le_refl _) hlo K
theorem cdW_w {o : Nat} {ws : List Nat} (C : cdW h o ws) : h[o + 5]? = some (.inl (0, ws.map nI)) := C.choose_spec.choose_spec.choose_spec.choose_spec.choose_spec.choose_spec.2.2.2.2.2.1
theorem cdW_o {o : Nat} {ws : List Nat} (C : cdW h o ws) : h[o]? = some (.inr (2, [.ref (o + 5), .ref (o + 6), .ref (o + 7), .ref (o + 1), .ref (o + 2), .ref (o + 3), .ref (o + 4), .int (nI (sn ws 15)), .int (nI (gt ws 15)), .int (bI (fu ws 15))])) := C.choose_spec.choose_spec.choose_spec.choose_spec.choose_spec.choose_spec.1
theorem cpy_at {f g : List Int32} {sp dp n j : Nat} (h1 : sp + n ≤ f.length) (h2 : dp + n ≤ g.length) : (db_cpy f g sp dp n).getD j 0 = if dp ≤ j ∧ j < dp + n then f.getD (sp + (j - dp)) 0 else g.getD j 0 := by
  unfold db_cpy
  simp only [List.getD_eq_getElem?_getD]
  by_cases a : j < dp
  · rw [if_neg (by omega), List.append_assoc, List.getElem?_append_left (by rw [List.length_take]; omega), List.getElem?_take_of_lt a]
  · rw [List.append_assoc, List.getElem?_append_right (by rw [List.length_take]; omega), List.length_take, Nat.min_eq_left (by omega)]
    by_cases b : j < dp + n
    · rw [if_pos (by omega), List.getElem?_append_left (by rw [List.length_take, List.length_drop]; omega), List.getElem?_take_of_lt (by omega), List.getElem?_drop]
    · rw [if_neg (by omega), List.getElem?_append_right (by rw [List.length_take, List.length_drop]; omega), List.length_take, List.length_drop, Nat.min_eq_left (by omega), List.getElem?_drop]
      congr 2
      omega
theorem cpy_len {f g : List Int32} {sp dp n : Nat} (h1 : sp + n ≤ f.length) (h2 : dp + n ≤ g.length) : (db_cpy f g sp dp n).length = g.length := by
  unfold db_cpy
  simp only [List.length_append, List.length_take, List.length_drop]
  omega
/-- fillRow -/
theorem f49 {ws ds : List Nat} {a b c d' : Int32} {row : List Int32} (hl : 164 < h.length) (h35 : h[35]? = some (owC a b c d')) (C1 : cdW h 36 ws) (C2 : cdW h 44 ds) (l1 : ws.length = 286) (l2 : ds.length = 30) (h68 : h[68]? = some (.inl (0, row))) (l3 : row.length = 316) (K : ∀ h2 r, Fr [35, 68] h h2 → h2[35]? = some (owC (nI (utl (fun s => ws.getD s 0) 257 286)) (nI (utl (fun s => ds.getD s 0) 1 30)) c d') → h2[68]? = some (.inl (0, r)) → r.length = 316 → (∀ j, j < utl (fun s => ws.getD s 0) 257 286 → r.getD j 0 = nI (ws.getD j 0)) → (∀ j, j < utl (fun s => ds.getD s 0) 1 30 → r.getD (utl (fun s => ws.getD s 0) 257 286 + j) 0 = nI (ds.getD j 0)) → P none h2) : db_Go 49 0 [.ref 35] [] h P := by
  have o1 := cdW_o C1
  have w1 := cdW_w C1
  have o2 := cdW_o C2
  have w2 := cdW_w C2
  have e1 := cdW_15 C1
  have e2 := cdW_15 C2
  simp only [Nat.reduceAdd] at o1 w1 o2 w2
  have u1 := @utl_le (fun s => ws.getD s 0) 257 286
  have u2 := @utl_le (fun s => ds.getD s 0) 1 30
  unfold owC at h35 K
  simp (disch := first | omega | (simp only [List.length_set]; omega)) only [g_49_0, g_49_1, g_49_2, g_49_5, g_49_8, g_49_14, g_49_17, g_49_18, g_49_19, g_49_22, g_49_25, g_49_29, g_49_32, g_49_33, g_49_36, g_49_39, g_49_40, g_49_41, g_49_44, g_49_45, g_49_46, g_49_52, g_49_53, g_49_56, g_49_59, g_49_60, g_49_61, g_49_64, g_49_65, g_49_68, g_49_69, g_49_75, gs_nx, db_inx, gs_ldi, gs_lda, gs_ldn, List.getElem?_cons_zero, List.getElem?_cons_succ, List.set_cons_zero, List.set_cons_succ, gx5, fx_int, fx_ref, fx_null, px5, gs_lx, gs_ax, sx5, ft_int, ft_ref, ft_b0, ft_b1, c1_int, c1_ref, List.length_cons, List.length_nil, Nat.reduceAdd, Nat.reduceLT, Nat.reduceLeDiff, true_and, and_true, true_or, or_true, not_false_eq_true, Option.toList_some, Option.toList_none, List.nil_append, List.singleton_append, List.cons_append, ↓reduceIte, Bool.and_self, eq_self, z_max, z_min, nI_add, z_sub, z_dec, z_mul, z_div, z_mod, nI_clamp, z_lt, z_nlt, z_le, z_nle, z_ne, z_eq, z_in, not_true_eq_false, if_true, if_false, hs_at, hs_ne, hs_sort, hset_eq, vupp_eq, hs_over, List.length_set, vup_at, vup_ne, vup_over, vup_sort, mfs_len, n5_f, map_getD, List.length_map, gd_self, gd_ne, Nat.add_sub_cancel, h35, o1, o2]
  refine c_49_11 (by simp) ?_
  refine m50 w1 (by omega) e1 (by omega) ?_
  rw [l1]
  simp (disch := first | omega | (simp only [List.length_set]; omega)) only [g_49_0, g_49_1, g_49_2, g_49_5, g_49_8, g_49_14, g_49_17, g_49_18, g_49_19, g_49_22, g_49_25, g_49_29, g_49_32, g_49_33, g_49_36, g_49_39, g_49_40, g_49_41, g_49_44, g_49_45, g_49_46, g_49_52, g_49_53, g_49_56, g_49_59, g_49_60, g_49_61, g_49_64, g_49_65, g_49_68, g_49_69, g_49_75, gs_nx, db_inx, gs_ldi, gs_lda, gs_ldn, List.getElem?_cons_zero, List.getElem?_cons_succ, List.set_cons_zero, List.set_cons_succ, gx5, fx_int, fx_ref, fx_null, px5, gs_lx, gs_ax, sx5, ft_int, ft_ref, ft_b0, ft_b1, c1_int, c1_ref, List.length_cons, List.length_nil, Nat.reduceAdd, Nat.reduceLT, Nat.reduceLeDiff, true_and, and_true, true_or, or_true, not_false_eq_true, Option.toList_some, Option.toList_none, List.nil_append, List.singleton_append, List.cons_append, ↓reduceIte, Bool.and_self, eq_self, z_max, z_min, nI_add, z_sub, z_dec, z_mul, z_div, z_mod, nI_clamp, z_lt, z_nlt, z_le, z_nle, z_ne, z_eq, z_in, not_true_eq_false, if_true, if_false, hs_at, hs_ne, hs_sort, hset_eq, vupp_eq, hs_over, List.length_set, vup_at, vup_ne, vup_over, vup_sort, mfs_len, n5_f, map_getD, List.length_map, gd_self, gd_ne, Nat.add_sub_cancel, h35, o1, o2]
  refine c_49_26 (by simp) ?_
  refine m50 (ws := ds) (by simp (disch := first | omega | (simp only [List.length_set]; omega)) only [hs_at, hs_ne, List.length_set, w2]) (by omega) e2 (by omega) ?_
  rw [l2]
  generalize utl (fun s => ws.getD s 0) 257 286 = hh at *
  generalize utl (fun s => ds.getD s 0) 1 30 = kk at *
  simp (disch := first | omega | (simp only [List.length_set]; omega)) only [g_49_0, g_49_1, g_49_2, g_49_5, g_49_8, g_49_14, g_49_17, g_49_18, g_49_19, g_49_22, g_49_25, g_49_29, g_49_32, g_49_33, g_49_36, g_49_39, g_49_40, g_49_41, g_49_44, g_49_45, g_49_46, g_49_52, g_49_53, g_49_56, g_49_59, g_49_60, g_49_61, g_49_64, g_49_65, g_49_68, g_49_69, g_49_75, gs_nx, db_inx, gs_ldi, gs_lda, gs_ldn, List.getElem?_cons_zero, List.getElem?_cons_succ, List.set_cons_zero, List.set_cons_succ, gx5, fx_int, fx_ref, fx_null, px5, gs_lx, gs_ax, sx5, ft_int, ft_ref, ft_b0, ft_b1, c1_int, c1_ref, List.length_cons, List.length_nil, Nat.reduceAdd, Nat.reduceLT, Nat.reduceLeDiff, true_and, and_true, true_or, or_true, not_false_eq_true, Option.toList_some, Option.toList_none, List.nil_append, List.singleton_append, List.cons_append, ↓reduceIte, Bool.and_self, eq_self, z_max, z_min, nI_add, z_sub, z_dec, z_mul, z_div, z_mod, nI_clamp, z_lt, z_nlt, z_le, z_nle, z_ne, z_eq, z_in, not_true_eq_false, if_true, if_false, hs_at, hs_ne, hs_sort, hset_eq, vupp_eq, hs_over, List.length_set, vup_at, vup_ne, vup_over, vup_sort, mfs_len, n5_f, map_getD, List.length_map, gd_self, gd_ne, Nat.add_sub_cancel, h35, o1, o2]
  rw [g_49_49]
  refine gs_acp (f := ws.map nI) (g := row) (by decide) (by decide) (by decide) (by simp (disch := first | omega | (simp only [List.length_set]; omega)) only [hs_at, hs_ne, List.length_set, w1]) (by simp (disch := first | omega | (simp only [List.length_set]; omega)) only [hs_at, hs_ne, List.length_set, h68]) (by rw [List.length_map]; omega) (by omega) (by rw [List.length_map]; omega) (by omega) ?_
  simp (disch := first | omega | (simp only [List.length_set]; omega)) only [g_49_0, g_49_1, g_49_2, g_49_5, g_49_8, g_49_14, g_49_17, g_49_18, g_49_19, g_49_22, g_49_25, g_49_29, g_49_32, g_49_33, g_49_36, g_49_39, g_49_40, g_49_41, g_49_44, g_49_45, g_49_46, g_49_52, g_49_53, g_49_56, g_49_59, g_49_60, g_49_61, g_49_64, g_49_65, g_49_68, g_49_69, g_49_75, gs_nx, db_inx, gs_ldi, gs_lda, gs_ldn, List.getElem?_cons_zero, List.getElem?_cons_succ, List.set_cons_zero, List.set_cons_succ, gx5, fx_int, fx_ref, fx_null, px5, gs_lx, gs_ax, sx5, ft_int, ft_ref, ft_b0, ft_b1, c1_int, c1_ref, List.length_cons, List.length_nil, Nat.reduceAdd, Nat.reduceLT, Nat.reduceLeDiff, true_and, and_true, true_or, or_true, not_false_eq_true, Option.toList_some, Option.toList_none, List.nil_append, List.singleton_append, List.cons_append, ↓reduceIte, Bool.and_self, eq_self, z_max, z_min, nI_add, z_sub, z_dec, z_mul, z_div, z_mod, nI_clamp, z_lt, z_nlt, z_le, z_nle, z_ne, z_eq, z_in, not_true_eq_false, if_true, if_false, hs_at, hs_ne, hs_sort, hset_eq, vupp_eq, hs_over, List.length_set, vup_at, vup_ne, vup_over, vup_sort, mfs_len, n5_f, map_getD, List.length_map, gd_self, gd_ne, Nat.add_sub_cancel, h35, o1, o2]
  rw [g_49_72]
  refine gs_acp (f := ds.map nI) (g := db_cpy (ws.map nI) row 0 0 hh) (by decide) (by decide) (by decide) (by simp (disch := first | omega | (simp only [List.length_set]; omega)) only [hs_at, hs_ne, List.length_set, w2]) (by simp (disch := first | omega | (simp only [List.length_set]; omega)) only [hs_at, hs_ne, List.length_set]) (by rw [List.length_map]; omega) (by rw [cpy_len (by rw [List.length_map]; omega) (by omega)]; omega) (by rw [List.length_map]; omega) (by rw [cpy_len (by rw [List.length_map]; omega) (by omega)]; omega) ?_
  simp (disch := first | omega | (simp only [List.length_set]; omega)) only [g_49_0, g_49_1, g_49_2, g_49_5, g_49_8, g_49_14, g_49_17, g_49_18, g_49_19, g_49_22, g_49_25, g_49_29, g_49_32, g_49_33, g_49_36, g_49_39, g_49_40, g_49_41, g_49_44, g_49_45, g_49_46, g_49_52, g_49_53, g_49_56, g_49_59, g_49_60, g_49_61, g_49_64, g_49_65, g_49_68, g_49_69, g_49_75, gs_nx, db_inx, gs_ldi, gs_lda, gs_ldn, List.getElem?_cons_zero, List.getElem?_cons_succ, List.set_cons_zero, List.set_cons_succ, gx5, fx_int, fx_ref, fx_null, px5, gs_lx, gs_ax, sx5, ft_int, ft_ref, ft_b0, ft_b1, c1_int, c1_ref, List.length_cons, List.length_nil, Nat.reduceAdd, Nat.reduceLT, Nat.reduceLeDiff, true_and, and_true, true_or, or_true, not_false_eq_true, Option.toList_some, Option.toList_none, List.nil_append, List.singleton_append, List.cons_append, ↓reduceIte, Bool.and_self, eq_self, z_max, z_min, nI_add, z_sub, z_dec, z_mul, z_div, z_mod, nI_clamp, z_lt, z_nlt, z_le, z_nle, z_ne, z_eq, z_in, not_true_eq_false, if_true, if_false, hs_at, hs_ne, hs_sort, hset_eq, vupp_eq, hs_over, List.length_set, vup_at, vup_ne, vup_over, vup_sort, mfs_len, n5_f, map_getD, List.length_map, gd_self, gd_ne, Nat.add_sub_cancel, h35, o1, o2]
  refine K _ (db_cpy (ds.map nI) (db_cpy (ws.map nI) row 0 0 hh) 0 hh kk) (Fr_s (Fr_set (by decide)) (by decide)) (by simp (disch := first | omega | (simp only [List.length_set]; omega)) only [hs_at, hs_ne, List.length_set]) (by simp (disch := first | omega | (simp only [List.length_set]; omega)) only [hs_at, hs_ne, List.length_set]) ?_ ?_ ?_
  · rw [cpy_len (by rw [List.length_map]; omega) (by rw [cpy_len (by rw [List.length_map]; omega) (by omega)]; omega), cpy_len (by rw [List.length_map]; omega) (by omega)]
    exact l3
  · intro j hj
    rw [cpy_at (by rw [List.length_map]; omega) (by rw [cpy_len (by rw [List.length_map]; omega) (by omega)]; omega), if_neg (by omega), cpy_at (by rw [List.length_map]; omega) (by omega), if_pos (by omega), map_getD (by omega)]
    congr 2
    omega
  · intro j hj
    rw [cpy_at (by rw [List.length_map]; omega) (by rw [cpy_len (by rw [List.length_map]; omega) (by omega)]; omega), if_pos (by omega), map_getD (by omega)]
    congr 2
    omega
end OW
