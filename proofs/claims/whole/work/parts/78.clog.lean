/-! the class's logs: clear, add (where there is room), takeWidths -/
section CL
variable {P : Option Value → db_H → Prop} {h : db_H}
def lgO (o fc : Nat) (m : Nat) (w : Bool) : db_C := .inr (0, [.ref fc, .ref (o + 2), .ref (o + 3), .ref (o + 4), .int (nI m), .int (bI w)])
def fcOK (fa : List Int32) (N : List Nt) : Prop := N.length * 5 ≤ fa.length ∧ ∀ i t, N[i]? = some t → fa.getD (i * 5) 0 = nI t.1 ∧ fa.getD (i * 5 + 1) 0 = nI t.2.1 ∧ fa.getD (i * 5 + 2) 0 = nI t.2.2.1 ∧ fa.getD (i * 5 + 3) 0 = nI t.2.2.2.1 ∧ fa.getD (i * 5 + 4) 0 = nI t.2.2.2.2
abbrev Ow := List Nat × List Nat × List Nat
def owR (h : db_H) (o : Nat) (own : Option Ow) : Prop := ar h (o + 2) 286 ∧ ar h (o + 3) 30 ∧ ar h (o + 4) 19 ∧ ∀ x, own = some x → h[o + 2]? = some (.inl (0, x.1.map nI)) ∧ h[o + 3]? = some (.inl (0, x.2.1.map nI)) ∧ h[o + 4]? = some (.inl (0, x.2.2.map nI))
def cL (h : db_H) (o fc : Nat) (N : List Nt) (own : Option Ow) : Prop := h[o]? = some (lgO o fc N.length own.isSome) ∧ (∃ fa, h[fc]? = some (.inl (0, fa)) ∧ fcOK fa N ∧ 15 ≤ fa.length ∧ fa.length ≤ 1605 ∧ fa.length % 5 = 0) ∧ owR h o own
theorem owR_fr {F : List Nat} {h2 : db_H} {o : Nat} {own : Option Ow} (f : Fr F h h2) (hF : o + 2 ∉ F ∧ o + 3 ∉ F ∧ o + 4 ∉ F) (A : owR h o own) : owR h2 o own := by
  obtain ⟨a1, a2, a3, a4⟩ := A
  exact ⟨ar_fr f hF.1 a1, ar_fr f hF.2.1 a2, ar_fr f hF.2.2 a3, fun x hx => ⟨Fr_get f hF.1 (a4 x hx).1, Fr_get f hF.2.1 (a4 x hx).2.1, Fr_get f hF.2.2 (a4 x hx).2.2⟩⟩
theorem cL_fr {F : List Nat} {h2 : db_H} {o fc : Nat} {N : List Nt} {own : Option Ow} (f : Fr F h h2) (hF : o ∉ F ∧ fc ∉ F ∧ o + 2 ∉ F ∧ o + 3 ∉ F ∧ o + 4 ∉ F) (A : cL h o fc N own) : cL h2 o fc N own := by
  obtain ⟨a1, ⟨fa, a2, r⟩, a3⟩ := A
  exact ⟨Fr_get f hF.1 a1, ⟨fa, Fr_get f hF.2.1 a2, r⟩, owR_fr f hF.2.2 a3⟩
theorem fcOK_nil {fa : List Int32} : fcOK fa [] := ⟨by simp, fun i t ht => by simp at ht⟩
/-- clear -/
theorem f39 {o fc : Nat} {N : List Nt} {own : Option Ow} (ho : 5 ≤ o) (hf : ¬ fc = o) (A : cL h o fc N own) (K : ∀ h2, Fr [o] h h2 → cL h2 o fc [] none → P none h2) : db_Go 39 0 [.ref o] [] h P := by
  obtain ⟨a1, ⟨fa, a2, _, r⟩, a3⟩ := A
  have hol := (List.getElem?_eq_some_iff.mp a1).1
  have n5 := n5_ge ho
  unfold lgO at a1
  simp (disch := first | omega | (simp only [List.length_set]; omega)) only [g_39_0, g_39_1, g_39_2, g_39_5, g_39_6, g_39_7, g_39_10, gs_nx, db_inx, gs_ldi, gs_lda, gs_ldn, List.getElem?_cons_zero, List.getElem?_cons_succ, List.set_cons_zero, List.set_cons_succ, gx5, fx_int, fx_ref, fx_null, px5, gs_lx, gs_ax, sx5, ft_int, ft_ref, ft_b0, ft_b1, c1_int, c1_ref, List.length_cons, List.length_nil, Nat.reduceAdd, Nat.reduceLT, Nat.reduceLeDiff, true_and, and_true, true_or, or_true, not_false_eq_true, Option.toList_some, Option.toList_none, List.nil_append, List.singleton_append, List.cons_append, ↓reduceIte, Bool.and_self, eq_self, z_max, z_min, nI_add, z_sub, z_dec, z_mul, z_div, z_mod, nI_clamp, z_lt, z_nlt, z_le, z_nle, z_ne, z_eq, z_in, not_true_eq_false, if_true, if_false, hs_at, hs_ne, hs_sort, hset_eq, vupp_eq, hs_over, List.length_set, vup_at, vup_ne, vup_over, vup_sort, mfs_len, n5_f, map_getD, List.length_map, gd_self, gd_ne, Nat.add_sub_cancel, a1]
  refine K _ (Fr_set (by simp)) ⟨?_, ⟨fa, ?_, fcOK_nil, r⟩, ?_⟩
  · simp (disch := first | omega | (simp only [List.length_set]; omega)) only [hs_at, hs_ne, List.length_set]
    rfl
  · simp (disch := first | omega | (simp only [List.length_set]; omega)) only [hs_at, hs_ne, List.length_set, a2]
  · obtain ⟨b1, b2, b3, _⟩ := a3
    have F : ∀ z, Fr [o] h (h.set o z) := fun z => Fr_set (by simp)
    exact ⟨ar_fr (F _) (by simp) b1, ar_fr (F _) (by simp) b2, ar_fr (F _) (by simp) b3, fun x hx => by simp at hx⟩
theorem fcOK_push {fa : List Int32} {N : List Nt} {a b c d e : Nat} (H : fcOK fa N) (hr : N.length * 5 + 5 ≤ fa.length) : fcOK (((((fa.set (N.length * 5) (nI a)).set (N.length * 5 + 1) (nI b)).set (N.length * 5 + 2) (nI c)).set (N.length * 5 + 3) (nI d)).set (N.length * 5 + 4) (nI e)) (N ++ [(a, b, c, d, e)]) := by
  obtain ⟨h1, h2⟩ := H
  refine ⟨by simp only [List.length_append, List.length_singleton, List.length_set]; omega, fun i t ht => ?_⟩
  by_cases q : i = N.length
  · rw [q, List.getElem?_append_right (Nat.le_refl _), Nat.sub_self] at ht
    have : (a, b, c, d, e) = t := by simpa using ht
    rw [q, ← this]
    refine ⟨?_, ?_, ?_, ?_, ?_⟩
    · rw [gd_ne (by omega), gd_ne (by omega), gd_ne (by omega), gd_ne (by omega), gd_self (by omega)]
    · rw [gd_ne (by omega), gd_ne (by omega), gd_ne (by omega), gd_self (by simp only [List.length_set]; omega)]
    · rw [gd_ne (by omega), gd_ne (by omega), gd_self (by simp only [List.length_set]; omega)]
    · rw [gd_ne (by omega), gd_self (by simp only [List.length_set]; omega)]
    · rw [gd_self (by simp only [List.length_set]; omega)]
  · have hi := (List.getElem?_eq_some_iff.mp ht).1
    rw [List.length_append, List.length_singleton] at hi
    rw [List.getElem?_append_left (by omega)] at ht
    obtain ⟨g0, g1, g2, g3, g4⟩ := h2 i t ht
    refine ⟨?_, ?_, ?_, ?_, ?_⟩
    · rw [gd_ne (by omega), gd_ne (by omega), gd_ne (by omega), gd_ne (by omega), gd_ne (by omega)]; exact g0
    · rw [gd_ne (by omega), gd_ne (by omega), gd_ne (by omega), gd_ne (by omega), gd_ne (by omega)]; exact g1
    · rw [gd_ne (by omega), gd_ne (by omega), gd_ne (by omega), gd_ne (by omega), gd_ne (by omega)]; exact g2
    · rw [gd_ne (by omega), gd_ne (by omega), gd_ne (by omega), gd_ne (by omega), gd_ne (by omega)]; exact g3
    · rw [gd_ne (by omega), gd_ne (by omega), gd_ne (by omega), gd_ne (by omega), gd_ne (by omega)]; exact g4
/-- add, where there is room -/
theorem f68 {o fc a b c d e : Nat} {fa : List Int32} {N : List Nt} {own : Option Ow} (ho : 5 ≤ o) (hf5 : 5 ≤ fc) (hf : ¬ fc = o) (hd : ¬ fc = o + 2 ∧ ¬ fc = o + 3 ∧ ¬ fc = o + 4) (A : cL h o fc N own) (hfa : h[fc]? = some (.inl (0, fa))) (hr : N.length * 5 + 5 ≤ fa.length) (K : ∀ h2, Fr [o, fc] h h2 → cL h2 o fc (N ++ [(a, b, c, d, e)]) own → P none h2) : db_Go 68 0 [.ref o, .int (nI a), .int (nI b), .int (nI c), .int (nI d), .int (nI e), .retAddr 0] [] h P := by
  obtain ⟨a1, ⟨fa', a2, O, r1, r2, r3⟩, a3⟩ := A
  rw [a2] at hfa
  have efa : fa' = fa := by simpa using hfa
  rw [efa] at a2 O r1 r2 r3
  have hol := (List.getElem?_eq_some_iff.mp a1).1
  have hfl := (List.getElem?_eq_some_iff.mp a2).1
  have n5 := n5_ge ho
  have n6 := n5_ge hf5
  have hO := O.1
  have O2 := @fcOK_push fa N a b c d e O hr
  unfold lgO at a1
  simp (disch := first | omega | (simp only [List.length_set]; omega)) only [g_68_0, g_68_1, g_68_4, g_68_5, g_68_6, g_68_8, g_68_10, g_68_11, g_68_12, g_68_13, g_68_16, g_68_17, g_68_20, g_68_21, g_68_22, g_68_25, g_68_26, g_68_27, g_68_30, g_68_31, g_68_32, g_68_35, g_68_41, g_68_44, g_68_46, g_68_49, g_68_51, g_68_52, g_68_53, g_68_54, g_68_57, g_68_58, g_68_61, g_68_62, g_68_65, g_68_67, g_68_68, g_68_69, g_68_70, g_68_73, g_68_75, g_68_76, g_68_77, g_68_78, g_68_79, g_68_80, g_68_83, g_68_85, g_68_86, g_68_87, g_68_88, g_68_89, g_68_90, g_68_93, g_68_95, g_68_96, g_68_97, g_68_99, g_68_100, g_68_101, g_68_104, g_68_106, g_68_107, g_68_108, g_68_110, g_68_111, g_68_112, g_68_113, g_68_116, g_68_117, g_68_118, g_68_121, gs_nx, db_inx, gs_ldi, gs_lda, gs_ldn, List.getElem?_cons_zero, List.getElem?_cons_succ, List.set_cons_zero, List.set_cons_succ, gx5, fx_int, fx_ref, fx_null, px5, gs_lx, gs_ax, sx5, ft_int, ft_ref, ft_b0, ft_b1, c1_int, c1_ref, List.length_cons, List.length_nil, Nat.reduceAdd, Nat.reduceLT, Nat.reduceLeDiff, true_and, and_true, true_or, or_true, not_false_eq_true, Option.toList_some, Option.toList_none, List.nil_append, List.singleton_append, List.cons_append, ↓reduceIte, Bool.and_self, eq_self, z_max, z_min, nI_add, z_sub, z_dec, z_mul, z_div, z_mod, nI_clamp, z_lt, z_nlt, z_le, z_nle, z_ne, z_eq, z_in, not_true_eq_false, if_true, if_false, hs_at, hs_ne, hs_sort, hset_eq, vupp_eq, hs_over, List.length_set, vup_at, vup_ne, vup_over, vup_sort, mfs_len, n5_f, map_getD, List.length_map, gd_self, gd_ne, Nat.add_sub_cancel, a1, a2]
  refine K _ (Fr_s (Fr_set (by simp)) (by simp)) ⟨?_, ⟨_, ?_, O2, by simp only [List.length_set]; exact r1, by simp only [List.length_set]; exact r2, by simp only [List.length_set]; exact r3⟩, ?_⟩
  · rw [List.length_append, List.length_singleton]
    simp (disch := first | omega | (simp only [List.length_set]; omega)) only [hs_at, hs_ne, List.length_set]
    rfl
  · simp (disch := first | omega | (simp only [List.length_set]; omega)) only [hs_at, hs_ne, List.length_set]
  · have F : ∀ z w, Fr [o, fc] h ((h.set o z).set fc w) := fun z w => Fr_s (Fr_set (by simp)) (by simp)
    have F2 : ∀ z w, Fr [o, fc] h ((h.set fc z).set o w) := fun z w => Fr_s (Fr_set (by simp)) (by simp)
    first
      | exact owR_fr (F _ _) (by simp; omega) a3
      | exact owR_fr (F2 _ _) (by simp; omega) a3
theorem cpy_all {f g : List Int32} (hl : f.length = g.length) : db_cpy f g 0 0 f.length = f := by
  unfold db_cpy
  rw [List.take_zero, List.drop_zero, List.take_length, Nat.zero_add, hl, List.drop_length, List.nil_append, List.append_nil]
theorem m71 {a b : Nat} {f g : List Int32} (ha : 5 ≤ a) (hb : 5 ≤ b) (h1 : h[a]? = some (.inl (0, f))) (h2 : h[b]? = some (.inl (0, g))) (hl : f.length = g.length) (hl2 : f.length ≤ 288) (K : P none (h.set b (.inl (0, f)))) : db_Go 71 0 [.ref a, .ref b] [] h P := by
  have n1 := n5_ge ha
  have n2 := n5_ge hb
  have e : (if nI f.length < nI f.length then nI f.length else nI f.length) = nI f.length := by split <;> rfl
  simp (disch := first | omega | (simp only [List.length_set]; omega)) only [g_71_0, g_71_1, g_71_2, g_71_3, g_71_4, g_71_5, g_71_6, g_71_7, g_71_8, g_71_14, gs_nx, db_inx, gs_ldi, gs_lda, gs_ldn, List.getElem?_cons_zero, List.getElem?_cons_succ, List.set_cons_zero, List.set_cons_succ, gx5, fx_int, fx_ref, fx_null, px5, gs_lx, gs_ax, sx5, ft_int, ft_ref, ft_b0, ft_b1, c1_int, c1_ref, List.length_cons, List.length_nil, Nat.reduceAdd, Nat.reduceLT, Nat.reduceLeDiff, true_and, and_true, true_or, or_true, not_false_eq_true, Option.toList_some, Option.toList_none, List.nil_append, List.singleton_append, List.cons_append, ↓reduceIte, Bool.and_self, eq_self, z_max, z_min, nI_add, z_sub, z_dec, z_mul, z_div, z_mod, nI_clamp, z_lt, z_nlt, z_le, z_nle, z_ne, z_eq, z_in, not_true_eq_false, if_true, if_false, hs_at, hs_ne, hs_sort, hset_eq, vupp_eq, hs_over, List.length_set, vup_at, vup_ne, vup_over, vup_sort, mfs_len, n5_f, map_getD, List.length_map, gd_self, gd_ne, Nat.add_sub_cancel, h1, h2, ← hl, e]
  rw [g_71_11]
  refine gs_acp ha hb (by decide) h1 h2 (by omega) (by omega) (by omega) (by omega) ?_
  rw [cpy_all hl]
  simp (disch := first | omega | (simp only [List.length_set]; omega)) only [g_71_0, g_71_1, g_71_2, g_71_3, g_71_4, g_71_5, g_71_6, g_71_7, g_71_8, g_71_14, gs_nx, db_inx, gs_ldi, gs_lda, gs_ldn, List.getElem?_cons_zero, List.getElem?_cons_succ, List.set_cons_zero, List.set_cons_succ, gx5, fx_int, fx_ref, fx_null, px5, gs_lx, gs_ax, sx5, ft_int, ft_ref, ft_b0, ft_b1, c1_int, c1_ref, List.length_cons, List.length_nil, Nat.reduceAdd, Nat.reduceLT, Nat.reduceLeDiff, true_and, and_true, true_or, or_true, not_false_eq_true, Option.toList_some, Option.toList_none, List.nil_append, List.singleton_append, List.cons_append, ↓reduceIte, Bool.and_self, eq_self, z_max, z_min, nI_add, z_sub, z_dec, z_mul, z_div, z_mod, nI_clamp, z_lt, z_nlt, z_le, z_nle, z_ne, z_eq, z_in, not_true_eq_false, if_true, if_false, hs_at, hs_ne, hs_sort, hset_eq, vupp_eq, hs_over, List.length_set, vup_at, vup_ne, vup_over, vup_sort, mfs_len, n5_f, map_getD, List.length_map, gd_self, gd_ne, Nat.add_sub_cancel]
  exact K
/-- takeWidths -/
theorem f70 {o fc c1 c2 c3 : Nat} {N : List Nt} {own : Option Ow} {ws ds rs : List Nat} (ho : 117 ≤ o ∧ o ≤ 122) (hf5 : 5 ≤ fc) (hf : ¬ fc = o) (hd : ¬ fc = o + 2 ∧ ¬ fc = o + 3 ∧ ¬ fc = o + 4) (A : cL h o fc N own) (hc1 : 19 ≤ c1 ∧ c1 + 7 < 117) (hc2 : 19 ≤ c2 ∧ c2 + 7 < 117) (hc3 : 19 ≤ c3 ∧ c3 + 7 < 117) (C1 : cdS h c1 ws) (C2 : cdS h c2 ds) (C3 : cdS h c3 rs) (l1 : ws.length = 286) (l2 : ds.length = 30) (l3 : rs.length = 19) (K : ∀ h2, Fr [o, o + 2, o + 3, o + 4] h h2 → cL h2 o fc N (some (ws, ds, rs)) → P none h2) : db_Go 70 0 [.ref o, .ref c1, .ref c2, .ref c3] [] h P := by
  obtain ⟨a1, ⟨fa, a2, r⟩, ⟨d1, b1, m1⟩, ⟨d2, b2, m2⟩, ⟨d3, b3, m3⟩, _⟩ := A
  obtain ⟨_, _, _, o1⟩ := cdS_o C1
  obtain ⟨_, _, _, o2⟩ := cdS_o C2
  obtain ⟨_, _, _, o3⟩ := cdS_o C3
  have w1 := cdS_w C1
  have w2 := cdS_w C2
  have w3 := cdS_w C3
  have hol := (List.getElem?_eq_some_iff.mp b3).1
  have n0 := @n5_ge o (by omega)
  have n1 := @n5_ge c1 (by omega)
  have n2 := @n5_ge c2 (by omega)
  have n3 := @n5_ge c3 (by omega)
  have a1' := a1
  unfold lgO at a1'
  simp (disch := first | omega | (simp only [List.length_set]; omega)) only [g_70_0, g_70_1, g_70_4, g_70_5, g_70_11, g_70_12, g_70_15, g_70_16, g_70_22, g_70_23, g_70_26, g_70_27, g_70_33, g_70_34, g_70_35, g_70_38, gs_nx, db_inx, gs_ldi, gs_lda, gs_ldn, List.getElem?_cons_zero, List.getElem?_cons_succ, List.set_cons_zero, List.set_cons_succ, gx5, fx_int, fx_ref, fx_null, px5, gs_lx, gs_ax, sx5, ft_int, ft_ref, ft_b0, ft_b1, c1_int, c1_ref, List.length_cons, List.length_nil, Nat.reduceAdd, Nat.reduceLT, Nat.reduceLeDiff, true_and, and_true, true_or, or_true, not_false_eq_true, Option.toList_some, Option.toList_none, List.nil_append, List.singleton_append, List.cons_append, ↓reduceIte, Bool.and_self, eq_self, z_max, z_min, nI_add, z_sub, z_dec, z_mul, z_div, z_mod, nI_clamp, z_lt, z_nlt, z_le, z_nle, z_ne, z_eq, z_in, not_true_eq_false, if_true, if_false, hs_at, hs_ne, hs_sort, hset_eq, vupp_eq, hs_over, List.length_set, vup_at, vup_ne, vup_over, vup_sort, mfs_len, n5_f, map_getD, List.length_map, gd_self, gd_ne, Nat.add_sub_cancel, a1', o1]
  refine c_70_8 (by simp) ?_
  refine m71 (by omega) (by omega) w1 b1 (by rw [List.length_map]; omega) (by rw [List.length_map]; omega) ?_
  simp (disch := first | omega | (simp only [List.length_set]; omega)) only [g_70_0, g_70_1, g_70_4, g_70_5, g_70_11, g_70_12, g_70_15, g_70_16, g_70_22, g_70_23, g_70_26, g_70_27, g_70_33, g_70_34, g_70_35, g_70_38, gs_nx, db_inx, gs_ldi, gs_lda, gs_ldn, List.getElem?_cons_zero, List.getElem?_cons_succ, List.set_cons_zero, List.set_cons_succ, gx5, fx_int, fx_ref, fx_null, px5, gs_lx, gs_ax, sx5, ft_int, ft_ref, ft_b0, ft_b1, c1_int, c1_ref, List.length_cons, List.length_nil, Nat.reduceAdd, Nat.reduceLT, Nat.reduceLeDiff, true_and, and_true, true_or, or_true, not_false_eq_true, Option.toList_some, Option.toList_none, List.nil_append, List.singleton_append, List.cons_append, ↓reduceIte, Bool.and_self, eq_self, z_max, z_min, nI_add, z_sub, z_dec, z_mul, z_div, z_mod, nI_clamp, z_lt, z_nlt, z_le, z_nle, z_ne, z_eq, z_in, not_true_eq_false, if_true, if_false, hs_at, hs_ne, hs_sort, hset_eq, vupp_eq, hs_over, List.length_set, vup_at, vup_ne, vup_over, vup_sort, mfs_len, n5_f, map_getD, List.length_map, gd_self, gd_ne, Nat.add_sub_cancel, a1', o2]
  refine c_70_19 (by simp) ?_
  refine m71 (f := ds.map nI) (g := d2) (by omega) (by omega) (by simp (disch := first | omega | (simp only [List.length_set]; omega)) only [hs_at, hs_ne, List.length_set, w2]) (by simp (disch := first | omega | (simp only [List.length_set]; omega)) only [hs_at, hs_ne, List.length_set, b2]) (by rw [List.length_map]; omega) (by rw [List.length_map]; omega) ?_
  simp (disch := first | omega | (simp only [List.length_set]; omega)) only [g_70_0, g_70_1, g_70_4, g_70_5, g_70_11, g_70_12, g_70_15, g_70_16, g_70_22, g_70_23, g_70_26, g_70_27, g_70_33, g_70_34, g_70_35, g_70_38, gs_nx, db_inx, gs_ldi, gs_lda, gs_ldn, List.getElem?_cons_zero, List.getElem?_cons_succ, List.set_cons_zero, List.set_cons_succ, gx5, fx_int, fx_ref, fx_null, px5, gs_lx, gs_ax, sx5, ft_int, ft_ref, ft_b0, ft_b1, c1_int, c1_ref, List.length_cons, List.length_nil, Nat.reduceAdd, Nat.reduceLT, Nat.reduceLeDiff, true_and, and_true, true_or, or_true, not_false_eq_true, Option.toList_some, Option.toList_none, List.nil_append, List.singleton_append, List.cons_append, ↓reduceIte, Bool.and_self, eq_self, z_max, z_min, nI_add, z_sub, z_dec, z_mul, z_div, z_mod, nI_clamp, z_lt, z_nlt, z_le, z_nle, z_ne, z_eq, z_in, not_true_eq_false, if_true, if_false, hs_at, hs_ne, hs_sort, hset_eq, vupp_eq, hs_over, List.length_set, vup_at, vup_ne, vup_over, vup_sort, mfs_len, n5_f, map_getD, List.length_map, gd_self, gd_ne, Nat.add_sub_cancel, a1', o3]
  refine c_70_30 (by simp) ?_
  refine m71 (f := rs.map nI) (g := d3) (by omega) (by omega) (by simp (disch := first | omega | (simp only [List.length_set]; omega)) only [hs_at, hs_ne, List.length_set, w3]) (by simp (disch := first | omega | (simp only [List.length_set]; omega)) only [hs_at, hs_ne, List.length_set, b3]) (by rw [List.length_map]; omega) (by rw [List.length_map]; omega) ?_
  simp (disch := first | omega | (simp only [List.length_set]; omega)) only [g_70_0, g_70_1, g_70_4, g_70_5, g_70_11, g_70_12, g_70_15, g_70_16, g_70_22, g_70_23, g_70_26, g_70_27, g_70_33, g_70_34, g_70_35, g_70_38, gs_nx, db_inx, gs_ldi, gs_lda, gs_ldn, List.getElem?_cons_zero, List.getElem?_cons_succ, List.set_cons_zero, List.set_cons_succ, gx5, fx_int, fx_ref, fx_null, px5, gs_lx, gs_ax, sx5, ft_int, ft_ref, ft_b0, ft_b1, c1_int, c1_ref, List.length_cons, List.length_nil, Nat.reduceAdd, Nat.reduceLT, Nat.reduceLeDiff, true_and, and_true, true_or, or_true, not_false_eq_true, Option.toList_some, Option.toList_none, List.nil_append, List.singleton_append, List.cons_append, ↓reduceIte, Bool.and_self, eq_self, z_max, z_min, nI_add, z_sub, z_dec, z_mul, z_div, z_mod, nI_clamp, z_lt, z_nlt, z_le, z_nle, z_ne, z_eq, z_in, not_true_eq_false, if_true, if_false, hs_at, hs_ne, hs_sort, hset_eq, vupp_eq, hs_over, List.length_set, vup_at, vup_ne, vup_over, vup_sort, mfs_len, n5_f, map_getD, List.length_map, gd_self, gd_ne, Nat.add_sub_cancel, a1']
  refine K _ (Fr_s (Fr_s (Fr_s (Fr_set (by simp)) (by simp)) (by simp)) (by simp)) ⟨?_, ⟨fa, ?_, r⟩, ⟨ws.map nI, ?_, by rw [List.length_map]; exact l1⟩, ⟨ds.map nI, ?_, by rw [List.length_map]; exact l2⟩, ⟨rs.map nI, ?_, by rw [List.length_map]; exact l3⟩, fun x hx => ?_⟩
  · simp (disch := first | omega | (simp only [List.length_set]; omega)) only [hs_at, hs_ne, List.length_set]
    rfl
  · simp (disch := first | omega | (simp only [List.length_set]; omega)) only [hs_at, hs_ne, List.length_set, a2]
  · simp (disch := first | omega | (simp only [List.length_set]; omega)) only [hs_at, hs_ne, List.length_set]
  · simp (disch := first | omega | (simp only [List.length_set]; omega)) only [hs_at, hs_ne, List.length_set]
  · simp (disch := first | omega | (simp only [List.length_set]; omega)) only [hs_at, hs_ne, List.length_set]
  · have : (ws, ds, rs) = x := by simpa using hx
    rw [← this]
    refine ⟨?_, ?_, ?_⟩
    · simp (disch := first | omega | (simp only [List.length_set]; omega)) only [hs_at, hs_ne, List.length_set]
    · simp (disch := first | omega | (simp only [List.length_set]; omega)) only [hs_at, hs_ne, List.length_set]
    · simp (disch := first | omega | (simp only [List.length_set]; omega)) only [hs_at, hs_ne, List.length_set]
end CL
