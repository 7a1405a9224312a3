/-! the class's log where it grows; cells put behind -/
section LG
variable {P : Option Value → db_H → Prop} {h ex : db_H}
theorem ap {k : Nat} {c : db_C} (e : h[k]? = some c) : (h ++ ex)[k]? = some c := by
  rw [List.getElem?_append_left (List.getElem?_eq_some_iff.mp e).1]
  exact e
theorem ar_ap {k n : Nat} (A : ar h k n) : ar (h ++ ex) k n := by
  obtain ⟨c, e, l⟩ := A
  exact ⟨c, ap e, l⟩
theorem cT_ap (A : cT h) : cT (h ++ ex) := ⟨ap A.1, ap A.2.1, ap A.2.2.1, ap A.2.2.2⟩
theorem len_ap (hl : 164 < h.length) : 164 < (h ++ ex).length := by
  rw [List.length_append]
  omega
theorem cRd_ap {B : List Bool} {s : Rd} (A : cRd h B s) : cRd (h ++ ex) B s := by
  obtain ⟨a1, a2, ⟨row, a3, a4⟩, r⟩ := A
  exact ⟨len_ap a1, ap a2, ⟨row, ap a3, a4⟩, r⟩
theorem cE_ap {E : List Nat} (A : cE h E) : cE (h ++ ex) E := by
  obtain ⟨l, a, b, r⟩ := A
  exact ⟨l, ap a, ap b, r⟩
theorem cX_ap {B : List Bool} {x : List Nat × Rd} (A : cX h B x) : cX (h ++ ex) B x := ⟨cRd_ap A.1, cE_ap A.2.1, ap A.2.2⟩
theorem cdW_ap {o : Nat} {ws : List Nat} (C : cdW h o ws) : cdW (h ++ ex) o ws := by
  obtain ⟨ct, fw, st, gv, wo, sy, c0, c1, c2, c3, c4, c5, c6, c7, r⟩ := C
  exact ⟨ct, fw, st, gv, wo, sy, ap c0, ap c1, ap c2, ap c3, ap c4, ap c5, ap c6, ap c7, r⟩
theorem cdS_ap {o : Nat} {ws : List Nat} (C : cdS h o ws) : cdS (h ++ ex) o ws := by
  obtain ⟨ct, fw, st, gv, wo, sy, wc, gr, f, c0, c1, c2, c3, c4, c5, c6, c7, r⟩ := C
  exact ⟨ct, fw, st, gv, wo, sy, wc, gr, f, ap c0, ap c1, ap c2, ap c3, ap c4, ap c5, ap c6, ap c7, r⟩
theorem cOp_ap (A : cOp h) : cOp (h ++ ex) := by
  obtain ⟨⟨w1, c1, l1⟩, ⟨w2, c2, l2⟩, ⟨w3, c3, l3⟩, a⟩ := A
  exact ⟨⟨w1, cdS_ap c1, l1⟩, ⟨w2, cdS_ap c2, l2⟩, ⟨w3, cdS_ap c3, l3⟩, ar_ap a⟩
theorem owR_ap {o : Nat} {own : Option Ow} (A : owR h o own) : owR (h ++ ex) o own := by
  obtain ⟨a1, a2, a3, a4⟩ := A
  exact ⟨ar_ap a1, ar_ap a2, ar_ap a3, fun x hx => ⟨ap (a4 x hx).1, ap (a4 x hx).2.1, ap (a4 x hx).2.2⟩⟩
theorem cL_ap {o fc : Nat} {N : List Nt} {own : Option Ow} (A : cL h o fc N own) : cL (h ++ ex) o fc N own := by
  obtain ⟨a1, ⟨fa, a2, r⟩, a3⟩ := A
  exact ⟨ap a1, ⟨fa, ap a2, r⟩, owR_ap a3⟩
/-- the room of a log's facts: the j-th -/
def cap (h : db_H) (fc j : Nat) : Prop := ∃ fa, h[fc]? = some (.inl (0, fa)) ∧ fa.length = min (15 * 2 ^ j) 1605 ∧ j ≤ 7
theorem cap_fr {h2 : db_H} {fc j : Nat} {F : List Nat} (f : Fr F h h2) (hF : fc ∉ F) (A : cap h fc j) : cap h2 fc j := by
  obtain ⟨fa, a, r⟩ := A
  exact ⟨fa, Fr_get f hF a, r⟩
theorem gs_nwa {y pc n : Nat} {L0 L S : List Value} {h0 : db_H} (hn : n ≤ 100000) (K : db_Go y (pc + 2) L (.ref h.length :: S) (h ++ [.inl (0, List.replicate n 0)]) P) : db_Gs y L0 h0 P (db_stp (.newarray .int, 2, []) pc L (.int (nI n) :: S) h) := by
  have e : db_stp (.newarray .int, 2, []) pc L (.int (nI n) :: S) h = db_nx (pc + 2) L (.ref h.length :: S) (h ++ [.inl (0, List.replicate n 0)]) := by
    simp only [db_stp, db_nwa, db_new]
    have p : ¬ nI n < 0 := nI_pos (by omega)
    rw [nI_clamp (by omega), if_neg (show ¬ (nI n < 0 ∨ 100000 < n) from fun z => z.elim p (fun z => by omega))]
  rw [e]
  exact K
theorem set_end {c c2 : db_C} : (h ++ [c]).set h.length c2 = h ++ [c2] := by
  rw [List.set_append_right _ _ (Nat.le_refl _), Nat.sub_self]
  rfl
theorem get_end {c : db_C} : (h ++ [c])[h.length]? = some c := by
  rw [List.getElem?_append_right (Nat.le_refl _), Nat.sub_self]
  rfl
/-- copyOf, longer -/
theorem m69 {fc m : Nat} {fa : List Int32} (hf5 : 5 ≤ fc) (hfa : h[fc]? = some (.inl (0, fa))) (hm : fa.length < m) (hm2 : m ≤ 1605) (hl : 5 ≤ h.length) (K : P (some (.ref h.length)) (h ++ [.inl (0, fa ++ List.replicate (m - fa.length) 0)])) : db_Go 69 0 [.ref fc, .int (nI m), .retAddr 0] [] h P := by
  have n5 := n5_ge hf5
  have n6 := n5_ge hl
  have hfl := (List.getElem?_eq_some_iff.mp hfa).1
  have ec : db_cpy fa (List.replicate m 0) 0 0 fa.length = fa ++ List.replicate (m - fa.length) 0 := by
    unfold db_cpy
    rw [List.take_zero, List.drop_zero, List.take_length, List.nil_append, Nat.zero_add, List.drop_replicate]
  simp (disch := first | omega | (simp only [List.length_set]; omega)) only [g_69_0, g_69_1, g_69_2, g_69_3, g_69_6, g_69_13, g_69_14, g_69_17, g_69_18, g_69_19, g_69_20, g_69_21, g_69_22, g_69_23, g_69_24, g_69_25, g_69_31, g_69_32, gs_nx, db_inx, gs_ldi, gs_lda, gs_ldn, List.getElem?_cons_zero, List.getElem?_cons_succ, List.set_cons_zero, List.set_cons_succ, gx5, fx_int, fx_ref, fx_null, px5, gs_lx, gs_ax, sx5, ft_int, ft_ref, ft_b0, ft_b1, c1_int, c1_ref, List.length_cons, List.length_nil, Nat.reduceAdd, Nat.reduceLT, Nat.reduceLeDiff, true_and, and_true, true_or, or_true, not_false_eq_true, Option.toList_some, Option.toList_none, List.nil_append, List.singleton_append, List.cons_append, ↓reduceIte, Bool.and_self, eq_self, z_max, z_min, nI_add, z_sub, z_dec, z_mul, z_div, z_mod, nI_clamp, z_lt, z_nlt, z_le, z_nle, z_ne, z_eq, z_in, not_true_eq_false, if_true, if_false, hs_at, hs_ne, hs_sort, hset_eq, vupp_eq, hs_over, List.length_set, vup_at, vup_ne, vup_over, vup_sort, mfs_len, n5_f, map_getD, List.length_map, gd_self, gd_ne, Nat.add_sub_cancel, hfa]
  rw [g_69_15]
  refine gs_nwa (by omega) ?_
  have h1 : (h ++ [.inl (0, List.replicate m 0)])[fc]? = some (.inl (0, fa)) := ap hfa
  have h2 : (h ++ [.inl (0, List.replicate m (0 : Int32))])[h.length]? = some (.inl (0, List.replicate m 0)) := get_end
  simp (disch := first | omega | (simp only [List.length_set]; omega)) only [g_69_0, g_69_1, g_69_2, g_69_3, g_69_6, g_69_13, g_69_14, g_69_17, g_69_18, g_69_19, g_69_20, g_69_21, g_69_22, g_69_23, g_69_24, g_69_25, g_69_31, g_69_32, gs_nx, db_inx, gs_ldi, gs_lda, gs_ldn, List.getElem?_cons_zero, List.getElem?_cons_succ, List.set_cons_zero, List.set_cons_succ, gx5, fx_int, fx_ref, fx_null, px5, gs_lx, gs_ax, sx5, ft_int, ft_ref, ft_b0, ft_b1, c1_int, c1_ref, List.length_cons, List.length_nil, Nat.reduceAdd, Nat.reduceLT, Nat.reduceLeDiff, true_and, and_true, true_or, or_true, not_false_eq_true, Option.toList_some, Option.toList_none, List.nil_append, List.singleton_append, List.cons_append, ↓reduceIte, Bool.and_self, eq_self, z_max, z_min, nI_add, z_sub, z_dec, z_mul, z_div, z_mod, nI_clamp, z_lt, z_nlt, z_le, z_nle, z_ne, z_eq, z_in, not_true_eq_false, if_true, if_false, hs_at, hs_ne, hs_sort, hset_eq, vupp_eq, hs_over, List.length_set, vup_at, vup_ne, vup_over, vup_sort, mfs_len, n5_f, map_getD, List.length_map, gd_self, gd_ne, Nat.add_sub_cancel, h1, h2]
  rw [g_69_28]
  refine gs_acp hf5 hl (by decide) h1 h2 (by omega) (by rw [List.length_replicate]; omega) (by omega) (by rw [List.length_replicate]; omega) ?_
  rw [ec, set_end]
  simp (disch := first | omega | (simp only [List.length_set]; omega)) only [g_69_0, g_69_1, g_69_2, g_69_3, g_69_6, g_69_13, g_69_14, g_69_17, g_69_18, g_69_19, g_69_20, g_69_21, g_69_22, g_69_23, g_69_24, g_69_25, g_69_31, g_69_32, gs_nx, db_inx, gs_ldi, gs_lda, gs_ldn, List.getElem?_cons_zero, List.getElem?_cons_succ, List.set_cons_zero, List.set_cons_succ, gx5, fx_int, fx_ref, fx_null, px5, gs_lx, gs_ax, sx5, ft_int, ft_ref, ft_b0, ft_b1, c1_int, c1_ref, List.length_cons, List.length_nil, Nat.reduceAdd, Nat.reduceLT, Nat.reduceLeDiff, true_and, and_true, true_or, or_true, not_false_eq_true, Option.toList_some, Option.toList_none, List.nil_append, List.singleton_append, List.cons_append, ↓reduceIte, Bool.and_self, eq_self, z_max, z_min, nI_add, z_sub, z_dec, z_mul, z_div, z_mod, nI_clamp, z_lt, z_nlt, z_le, z_nle, z_ne, z_eq, z_in, not_true_eq_false, if_true, if_false, hs_at, hs_ne, hs_sort, hset_eq, vupp_eq, hs_over, List.length_set, vup_at, vup_ne, vup_over, vup_sort, mfs_len, n5_f, map_getD, List.length_map, gd_self, gd_ne, Nat.add_sub_cancel]
  exact K
/-- add behind the look for room -/
theorem m68_44 {o fc a b c d e : Nat} {fa : List Int32} {N : List Nt} {own : Option Ow} (ho : 5 ≤ o) (hf5 : 5 ≤ fc) (hf : ¬ fc = o) (hd : ¬ fc = o + 2 ∧ ¬ fc = o + 3 ∧ ¬ fc = o + 4) (a1 : h[o]? = some (lgO o fc N.length own.isSome)) (a2 : h[fc]? = some (.inl (0, fa))) (O : fcOK fa N) (r1 : 15 ≤ fa.length) (r2 : fa.length ≤ 1605) (r3 : fa.length % 5 = 0) (a3 : owR h o own) (hr : N.length * 5 + 5 ≤ fa.length) (K : ∀ h2 fa2, Fr [o, fc] h h2 → cL h2 o fc (N ++ [(a, b, c, d, e)]) own → h2[fc]? = some (.inl (0, fa2)) → fa2.length = fa.length → P none h2) : db_Go 68 44 [.ref o, .int (nI a), .int (nI b), .int (nI c), .int (nI d), .int (nI e), .int (nI (N.length * 5))] [] h P := by
  have hol := (List.getElem?_eq_some_iff.mp a1).1
  have hfl := (List.getElem?_eq_some_iff.mp a2).1
  have n5 := n5_ge ho
  have n6 := n5_ge hf5
  have O2 := @fcOK_push fa N a b c d e O hr
  unfold lgO at a1
  simp (disch := first | omega | (simp only [List.length_set]; omega)) only [g_68_0, g_68_1, g_68_4, g_68_5, g_68_6, g_68_8, g_68_10, g_68_11, g_68_12, g_68_13, g_68_16, g_68_17, g_68_20, g_68_21, g_68_22, g_68_25, g_68_26, g_68_27, g_68_30, g_68_31, g_68_32, g_68_35, g_68_41, g_68_44, g_68_46, g_68_49, g_68_51, g_68_52, g_68_53, g_68_54, g_68_57, g_68_58, g_68_61, g_68_62, g_68_65, g_68_67, g_68_68, g_68_69, g_68_70, g_68_73, g_68_75, g_68_76, g_68_77, g_68_78, g_68_79, g_68_80, g_68_83, g_68_85, g_68_86, g_68_87, g_68_88, g_68_89, g_68_90, g_68_93, g_68_95, g_68_96, g_68_97, g_68_99, g_68_100, g_68_101, g_68_104, g_68_106, g_68_107, g_68_108, g_68_110, g_68_111, g_68_112, g_68_113, g_68_116, g_68_117, g_68_118, g_68_121, gs_nx, db_inx, gs_ldi, gs_lda, gs_ldn, List.getElem?_cons_zero, List.getElem?_cons_succ, List.set_cons_zero, List.set_cons_succ, gx5, fx_int, fx_ref, fx_null, px5, gs_lx, gs_ax, sx5, ft_int, ft_ref, ft_b0, ft_b1, c1_int, c1_ref, List.length_cons, List.length_nil, Nat.reduceAdd, Nat.reduceLT, Nat.reduceLeDiff, true_and, and_true, true_or, or_true, not_false_eq_true, Option.toList_some, Option.toList_none, List.nil_append, List.singleton_append, List.cons_append, ↓reduceIte, Bool.and_self, eq_self, z_max, z_min, nI_add, z_sub, z_dec, z_mul, z_div, z_mod, nI_clamp, z_lt, z_nlt, z_le, z_nle, z_ne, z_eq, z_in, not_true_eq_false, if_true, if_false, hs_at, hs_ne, hs_sort, hset_eq, vupp_eq, hs_over, List.length_set, vup_at, vup_ne, vup_over, vup_sort, mfs_len, n5_f, map_getD, List.length_map, gd_self, gd_ne, Nat.add_sub_cancel, a1, a2]
  refine K _ (((((fa.set (N.length * 5) (nI a)).set (N.length * 5 + 1) (nI b)).set (N.length * 5 + 2) (nI c)).set (N.length * 5 + 3) (nI d)).set (N.length * 5 + 4) (nI e)) (Fr_s (Fr_set (by simp)) (by simp)) ⟨?_, ⟨_, ?_, O2, by simp only [List.length_set]; exact r1, by simp only [List.length_set]; exact r2, by simp only [List.length_set]; exact r3⟩, ?_⟩ ?_ (by simp only [List.length_set])
  · rw [List.length_append, List.length_singleton]
    simp (disch := first | omega | (simp only [List.length_set]; omega)) only [hs_at, hs_ne, List.length_set]
    rfl
  · simp (disch := first | omega | (simp only [List.length_set]; omega)) only [hs_at, hs_ne, List.length_set]
  · have F : ∀ z w, Fr [o, fc] h ((h.set o z).set fc w) := fun z w => Fr_s (Fr_set (by simp)) (by simp)
    have F2 : ∀ z w, Fr [o, fc] h ((h.set fc z).set o w) := fun z w => Fr_s (Fr_set (by simp)) (by simp)
    first
      | exact owR_fr (F _ _) (by simp; omega) a3
      | exact owR_fr (F2 _ _) (by simp; omega) a3
  · simp (disch := first | omega | (simp only [List.length_set]; omega)) only [hs_at, hs_ne, List.length_set]
/-- add, the row grows where it must -/
theorem f68g {o fc j a b c d e : Nat} {N : List Nt} {own : Option Ow} (ho : 117 ≤ o ∧ o ≤ 122) (hf5 : 117 < fc) (hf : ¬ fc = o) (hd : ¬ fc = o + 2 ∧ ¬ fc = o + 3 ∧ ¬ fc = o + 4) (hl : 164 < h.length) (A : cL h o fc N own) (hj : cap h fc j) (hN : N.length ≤ 320) (K : ∀ h2 ex fc2 j2, Fr [o, fc2] (h ++ ex) h2 → cL h2 o fc2 (N ++ [(a, b, c, d, e)]) own → cap h2 fc2 j2 → ((ex = [] ∧ fc2 = fc ∧ j2 = j) ∨ (∃ z, ex = [.inl (0, z)] ∧ z.length ≤ 1605 ∧ fc2 = h.length ∧ j2 = j + 1)) → P none h2) : db_Go 68 0 [.ref o, .int (nI a), .int (nI b), .int (nI c), .int (nI d), .int (nI e), .retAddr 0] [] h P := by
  obtain ⟨a1, ⟨fa, a2, O, r1, r2, r3⟩, a3⟩ := A
  obtain ⟨fa', q1, q2, q3⟩ := hj
  rw [a2] at q1
  have efa : fa = fa' := by simpa using q1
  rw [← efa] at q2
  have n5 := @n5_ge o (by omega)
  have n6 := @n5_ge fc (by omega)
  have hO := O.1
  have a1' := a1
  unfold lgO at a1'
  by_cases q : N.length * 5 + 5 ≤ fa.length
  · simp (disch := first | omega | (simp only [List.length_set]; omega)) only [g_68_0, g_68_1, g_68_4, g_68_5, g_68_6, g_68_8, g_68_10, g_68_11, g_68_12, g_68_13, g_68_16, g_68_17, g_68_20, g_68_21, g_68_22, g_68_25, g_68_26, g_68_27, g_68_30, g_68_31, g_68_32, g_68_35, g_68_41, g_68_46, g_68_49, g_68_51, g_68_52, g_68_53, g_68_54, g_68_57, g_68_58, g_68_61, g_68_62, g_68_65, g_68_67, g_68_68, g_68_69, g_68_70, g_68_73, g_68_75, g_68_76, g_68_77, g_68_78, g_68_79, g_68_80, g_68_83, g_68_85, g_68_86, g_68_87, g_68_88, g_68_89, g_68_90, g_68_93, g_68_95, g_68_96, g_68_97, g_68_99, g_68_100, g_68_101, g_68_104, g_68_106, g_68_107, g_68_108, g_68_110, g_68_111, g_68_112, g_68_113, g_68_116, g_68_117, g_68_118, g_68_121, gs_nx, db_inx, gs_ldi, gs_lda, gs_ldn, List.getElem?_cons_zero, List.getElem?_cons_succ, List.set_cons_zero, List.set_cons_succ, gx5, fx_int, fx_ref, fx_null, px5, gs_lx, gs_ax, sx5, ft_int, ft_ref, ft_b0, ft_b1, c1_int, c1_ref, List.length_cons, List.length_nil, Nat.reduceAdd, Nat.reduceLT, Nat.reduceLeDiff, true_and, and_true, true_or, or_true, not_false_eq_true, Option.toList_some, Option.toList_none, List.nil_append, List.singleton_append, List.cons_append, ↓reduceIte, Bool.and_self, eq_self, z_max, z_min, nI_add, z_sub, z_dec, z_mul, z_div, z_mod, nI_clamp, z_lt, z_nlt, z_le, z_nle, z_ne, z_eq, z_in, not_true_eq_false, if_true, if_false, hs_at, hs_ne, hs_sort, hset_eq, vupp_eq, hs_over, List.length_set, vup_at, vup_ne, vup_over, vup_sort, mfs_len, n5_f, map_getD, List.length_map, gd_self, gd_ne, Nat.add_sub_cancel, a1', a2]
    refine m68_44 (by omega) (by omega) hf hd a1 a2 O r1 r2 r3 a3 q (fun h2 fa2 F2 L2 e2 l2 => ?_)
    refine K h2 [] fc j ?_ L2 ⟨fa2, e2, by omega, q3⟩ (Or.inl ⟨rfl, rfl, rfl⟩)
    rw [List.append_nil]
    exact Fr_mono F2 (by simp)
  · have el : fa.length = N.length * 5 := by omega
    have hm : fa.length < min (2 * fa.length) 1605 := by omega
    have em : (if nI 1605 < nI (2 * fa.length) then nI 1605 else nI (2 * fa.length)) = nI (min (2 * fa.length) 1605) := z_min (by omega) (by omega)
    simp (disch := first | omega | (simp only [List.length_set]; omega)) only [g_68_0, g_68_1, g_68_4, g_68_5, g_68_6, g_68_8, g_68_10, g_68_11, g_68_12, g_68_13, g_68_16, g_68_17, g_68_20, g_68_21, g_68_22, g_68_25, g_68_26, g_68_27, g_68_30, g_68_31, g_68_32, g_68_35, g_68_41, g_68_46, g_68_49, g_68_51, g_68_52, g_68_53, g_68_54, g_68_57, g_68_58, g_68_61, g_68_62, g_68_65, g_68_67, g_68_68, g_68_69, g_68_70, g_68_73, g_68_75, g_68_76, g_68_77, g_68_78, g_68_79, g_68_80, g_68_83, g_68_85, g_68_86, g_68_87, g_68_88, g_68_89, g_68_90, g_68_93, g_68_95, g_68_96, g_68_97, g_68_99, g_68_100, g_68_101, g_68_104, g_68_106, g_68_107, g_68_108, g_68_110, g_68_111, g_68_112, g_68_113, g_68_116, g_68_117, g_68_118, g_68_121, gs_nx, db_inx, gs_ldi, gs_lda, gs_ldn, List.getElem?_cons_zero, List.getElem?_cons_succ, List.set_cons_zero, List.set_cons_succ, gx5, fx_int, fx_ref, fx_null, px5, gs_lx, gs_ax, sx5, ft_int, ft_ref, ft_b0, ft_b1, c1_int, c1_ref, List.length_cons, List.length_nil, Nat.reduceAdd, Nat.reduceLT, Nat.reduceLeDiff, true_and, and_true, true_or, or_true, not_false_eq_true, Option.toList_some, Option.toList_none, List.nil_append, List.singleton_append, List.cons_append, ↓reduceIte, Bool.and_self, eq_self, z_max, z_min, nI_add, z_sub, z_dec, z_mul, z_div, z_mod, nI_clamp, z_lt, z_nlt, z_le, z_nle, z_ne, z_eq, z_in, not_true_eq_false, if_true, if_false, hs_at, hs_ne, hs_sort, hset_eq, vupp_eq, hs_over, List.length_set, vup_at, vup_ne, vup_over, vup_sort, mfs_len, n5_f, map_getD, List.length_map, gd_self, gd_ne, Nat.add_sub_cancel, a1', a2]
    first
      | rw [em]
      | skip
    refine c_68_38 (by simp) ?_
    refine m69 (m := min (2 * fa.length) 1605) (by omega) a2 hm (by omega) (by omega) ?_
    generalize hz : fa ++ List.replicate (min (2 * fa.length) 1605 - fa.length) 0 = z
    have lz : z.length = min (2 * fa.length) 1605 := by
      rw [← hz, List.length_append, List.length_replicate]
      omega
    have Oz : fcOK z N := by
      refine ⟨by omega, fun i t ht => ?_⟩
      have hi := (List.getElem?_eq_some_iff.mp ht).1
      have g := O.2 i t ht
      have ez : ∀ k, k < fa.length → z.getD k 0 = fa.getD k 0 := fun k hk => by rw [← hz, List.getD_eq_getElem?_getD, List.getElem?_append_left hk, List.getD_eq_getElem?_getD]
      rw [ez _ (by omega), ez _ (by omega), ez _ (by omega), ez _ (by omega), ez _ (by omega)]
      exact g
    have a1a : (h ++ [Sum.inl (0, z)])[o]? = some (lgO o fc N.length own.isSome) := ap a1
    have a1a' := a1a
    unfold lgO at a1a'
    have hla : o < (h ++ [Sum.inl (0, z)]).length := by rw [List.length_append]; omega
    have F0 : Fr [o] (h ++ [Sum.inl (0, z)]) ((h ++ [Sum.inl (0, z)]).set o (lgO o h.length N.length own.isSome)) := Fr_set (by simp)
    have a1b : ((h ++ [Sum.inl (0, z)]).set o (lgO o h.length N.length own.isSome))[o]? = some (lgO o h.length N.length own.isSome) := hs_at hla
    have e0 : (h ++ [Sum.inl (0, z)])[h.length]? = some (.inl (0, z)) := get_end
    have a2b := Fr_get F0 (by simp; omega) e0
    have a3b := owR_fr F0 (by simp) (owR_ap (ex := [Sum.inl (0, z)]) a3)
    have key : db_Go 68 44 [.ref o, .int (nI a), .int (nI b), .int (nI c), .int (nI d), .int (nI e), .int (nI (N.length * 5))] [] ((h ++ [Sum.inl (0, z)]).set o (lgO o h.length N.length own.isSome)) P := by
      refine m68_44 (by omega) (by omega) (by omega) (by omega) a1b a2b Oz (by omega) (by omega) (by omega) a3b (by omega) (fun h2 fa2 F2 L2 e2 l2 => ?_)
      have j7 : j ≤ 6 := by
        rcases Nat.lt_or_ge 6 j with g | g
        · have : j = 7 := by omega
          rw [this] at q2
          omega
        · exact g
      have p2 : 15 * 2 ^ (j + 1) = 2 * (15 * 2 ^ j) := by rw [Nat.pow_succ]; omega
      refine K h2 [.inl (0, z)] h.length (j + 1) (Fr_tr (Fr_mono F0 (by simp)) (Fr_mono F2 (by simp))) L2 ⟨fa2, e2, by rw [p2]; omega, by omega⟩ (Or.inr ⟨z, rfl, by omega, rfl, rfl⟩)
    unfold lgO at key
    simp (disch := first | omega | (simp only [List.length_set]; omega)) only [g_68_0, g_68_1, g_68_4, g_68_5, g_68_6, g_68_8, g_68_10, g_68_11, g_68_12, g_68_13, g_68_16, g_68_17, g_68_20, g_68_21, g_68_22, g_68_25, g_68_26, g_68_27, g_68_30, g_68_31, g_68_32, g_68_35, g_68_41, g_68_46, g_68_49, g_68_51, g_68_52, g_68_53, g_68_54, g_68_57, g_68_58, g_68_61, g_68_62, g_68_65, g_68_67, g_68_68, g_68_69, g_68_70, g_68_73, g_68_75, g_68_76, g_68_77, g_68_78, g_68_79, g_68_80, g_68_83, g_68_85, g_68_86, g_68_87, g_68_88, g_68_89, g_68_90, g_68_93, g_68_95, g_68_96, g_68_97, g_68_99, g_68_100, g_68_101, g_68_104, g_68_106, g_68_107, g_68_108, g_68_110, g_68_111, g_68_112, g_68_113, g_68_116, g_68_117, g_68_118, g_68_121, gs_nx, db_inx, gs_ldi, gs_lda, gs_ldn, List.getElem?_cons_zero, List.getElem?_cons_succ, List.set_cons_zero, List.set_cons_succ, gx5, fx_int, fx_ref, fx_null, px5, gs_lx, gs_ax, sx5, ft_int, ft_ref, ft_b0, ft_b1, c1_int, c1_ref, List.length_cons, List.length_nil, Nat.reduceAdd, Nat.reduceLT, Nat.reduceLeDiff, true_and, and_true, true_or, or_true, not_false_eq_true, Option.toList_some, Option.toList_none, List.nil_append, List.singleton_append, List.cons_append, ↓reduceIte, Bool.and_self, eq_self, z_max, z_min, nI_add, z_sub, z_dec, z_mul, z_div, z_mod, nI_clamp, z_lt, z_nlt, z_le, z_nle, z_ne, z_eq, z_in, not_true_eq_false, if_true, if_false, hs_at, hs_ne, hs_sort, hset_eq, vupp_eq, hs_over, List.length_set, vup_at, vup_ne, vup_over, vup_sort, mfs_len, n5_f, map_getD, List.length_map, gd_self, gd_ne, Nat.add_sub_cancel, a1a']
    exact key
end LG
