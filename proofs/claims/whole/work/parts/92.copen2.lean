/-! the class: openTape, and the call itself -/
section CO3
variable {P : Option Value → db_H → Prop} {B : List Bool}
def cEs (h : db_H) : Prop := ∃ l n, h[74]? = some (.inr (1, [.ref 75, .int n])) ∧ h[75]? = some (.inl (0, l)) ∧ l.length = 300
def cRs (h : db_H) : Prop := ∃ r a b c, h[72]? = some (.inr (8, [.ref r, .int a, .int b, .int c]))
theorem cX_s {h : db_H} {x : List Nat × Rd} (X : cX h B x) : cEs h ∧ cRs h := by
  obtain ⟨R, ⟨l, e1, e2, e3, _⟩, _⟩ := X
  exact ⟨⟨l, _, e1, e2, e3⟩, ⟨_, _, _, _, R.2.1⟩⟩
/-- openTape -/
theorem f80 {h : db_H} {fr o fc j : Nat} {N0 : List Nt} {own0 : Option Ow} (hfr : fr ≤ 2) (ho : o = 117 ∨ o = 122) (hf : 117 < fc) (hd : ¬ fc = o ∧ ¬ fc = o + 2 ∧ ¬ fc = o + 3 ∧ ¬ fc = o + 4) (hfl : fc < h.length) (hl : 164 < h.length) (h71 : h[71]? = some opO) (R0 : cRs h) (E0 : cEs h) (Tp : cTp h B) (G : cG h) (L : cL h o fc N0 own0) (C : cap h fc j)
    (K : ∀ h2 fc2 j2 N2 own2, FrN (F86 ++ [o, o + 2, o + 3, o + 4, fc]) h h2 → (fc2 = fc ∨ h.length ≤ fc2) → fc2 < h2.length → h2.length + j = h.length + j2 → szN h h2 fc → cX h2 B ((opR B fr).1.1, opS B fr) → cG h2 → cL h2 o fc2 N2 own2 → cap h2 fc2 j2 → ((opS B fr).2 = 0 → N2 = (opR B fr).2.1 ∧ own2 = (opR B fr).2.2) → P (some (.int (nI (opS B fr).2))) h2) : db_Go 80 0 [.ref 71, .ref 8, .int (nI fr), .ref o, .retAddr 0, .retAddr 0] [] h P := by
  obtain ⟨rr, ra, rbb, rc, r72⟩ := R0
  obtain ⟨l, n, e74, e75, e3⟩ := E0
  obtain ⟨row, t8, t9, wo, b8, b32⟩ := Tp
  have n0 := @n5_ge o (by omega)
  have h71' := h71
  unfold opO at h71'
  simp (disch := first | omega | (simp only [List.length_set]; omega)) only [g_80_0, g_80_1, g_80_4, g_80_8, g_80_9, g_80_12, g_80_13, g_80_16, g_80_20, g_80_21, g_80_25, g_80_26, g_80_28, g_80_29, g_80_33, g_80_36, g_80_39, g_80_41, g_80_44, g_80_45, g_80_48, g_80_51, g_80_54, g_80_55, g_80_59, g_80_61, g_80_64, g_80_67, g_80_68, g_80_74, g_80_75, g_80_79, g_80_80, g_80_83, g_80_86, g_80_89, g_80_90, g_80_96, g_80_99, g_80_100, g_80_103, g_80_108, g_80_109, g_80_110, g_80_113, g_80_118, g_80_119, g_80_122, g_80_125, gs_nx, db_inx, gs_ldi, gs_lda, gs_ldn, List.getElem?_cons_zero, List.getElem?_cons_succ, List.set_cons_zero, List.set_cons_succ, gx5, fx_int, fx_ref, fx_null, px5, gs_lx, gs_ax, sx5, ft_int, ft_ref, ft_b0, ft_b1, c1_int, c1_ref, List.length_cons, List.length_nil, Nat.reduceAdd, Nat.reduceLT, Nat.reduceLeDiff, true_and, and_true, true_or, or_true, not_false_eq_true, Option.toList_some, Option.toList_none, List.nil_append, List.singleton_append, List.cons_append, ↓reduceIte, Bool.and_self, eq_self, z_max, z_min, nI_add, z_sub, z_dec, z_mul, z_div, z_mod, nI_clamp, z_lt, z_nlt, z_le, z_nle, z_ne, z_eq, z_in, not_true_eq_false, if_true, if_false, hs_at, hs_ne, hs_sort, hset_eq, vupp_eq, hs_over, List.length_set, vup_at, vup_ne, vup_over, vup_sort, mfs_len, n5_f, map_getD, List.length_map, gd_self, gd_ne, Nat.add_sub_cancel, h71']
  refine c_80_5 (by simp) (n5_ge (by decide)) r72 ?_
  simp (disch := first | omega | (simp only [List.length_set]; omega)) only [g_81_0, g_81_1, g_81_2, g_81_5, g_81_8, g_81_9, g_81_10, g_81_13, g_81_16, g_81_17, g_81_18, g_81_21, g_81_22, g_81_23, g_81_26, gs_nx, db_inx, gs_ldi, gs_lda, gs_ldn, List.getElem?_cons_zero, List.getElem?_cons_succ, List.set_cons_zero, List.set_cons_succ, gx5, fx_int, fx_ref, fx_null, px5, gs_lx, gs_ax, sx5, ft_int, ft_ref, ft_b0, ft_b1, c1_int, c1_ref, List.length_cons, List.length_nil, Nat.reduceAdd, Nat.reduceLT, Nat.reduceLeDiff, true_and, and_true, true_or, or_true, not_false_eq_true, Option.toList_some, Option.toList_none, List.nil_append, List.singleton_append, List.cons_append, ↓reduceIte, Bool.and_self, eq_self, z_max, z_min, nI_add, z_sub, z_dec, z_mul, z_div, z_mod, nI_clamp, z_lt, z_nlt, z_le, z_nle, z_ne, z_eq, z_in, not_true_eq_false, if_true, if_false, hs_at, hs_ne, hs_sort, hset_eq, vupp_eq, hs_over, List.length_set, vup_at, vup_ne, vup_over, vup_sort, mfs_len, n5_f, map_getD, List.length_map, gd_self, gd_ne, Nat.add_sub_cancel, r72, t8]
  simp (disch := first | omega | (simp only [List.length_set]; omega)) only [g_80_0, g_80_1, g_80_4, g_80_8, g_80_9, g_80_12, g_80_13, g_80_16, g_80_20, g_80_21, g_80_25, g_80_26, g_80_28, g_80_29, g_80_33, g_80_36, g_80_39, g_80_41, g_80_44, g_80_45, g_80_48, g_80_51, g_80_54, g_80_55, g_80_59, g_80_61, g_80_64, g_80_67, g_80_68, g_80_74, g_80_75, g_80_79, g_80_80, g_80_83, g_80_86, g_80_89, g_80_90, g_80_96, g_80_99, g_80_100, g_80_103, g_80_108, g_80_109, g_80_110, g_80_113, g_80_118, g_80_119, g_80_122, g_80_125, gs_nx, db_inx, gs_ldi, gs_lda, gs_ldn, List.getElem?_cons_zero, List.getElem?_cons_succ, List.set_cons_zero, List.set_cons_succ, gx5, fx_int, fx_ref, fx_null, px5, gs_lx, gs_ax, sx5, ft_int, ft_ref, ft_b0, ft_b1, c1_int, c1_ref, List.length_cons, List.length_nil, Nat.reduceAdd, Nat.reduceLT, Nat.reduceLeDiff, true_and, and_true, true_or, or_true, not_false_eq_true, Option.toList_some, Option.toList_none, List.nil_append, List.singleton_append, List.cons_append, ↓reduceIte, Bool.and_self, eq_self, z_max, z_min, nI_add, z_sub, z_dec, z_mul, z_div, z_mod, nI_clamp, z_lt, z_nlt, z_le, z_nle, z_ne, z_eq, z_in, not_true_eq_false, if_true, if_false, hs_at, hs_ne, hs_sort, hset_eq, vupp_eq, hs_over, List.length_set, vup_at, vup_ne, vup_over, vup_sort, mfs_len, n5_f, map_getD, List.length_map, gd_self, gd_ne, Nat.add_sub_cancel, h71', e74]
  have F1 : Fr [72, 74] h ((h.set 72 (.inr (8, [.ref 9, .int (nI (B.length / 8)), .int (nI 0), .int (nI 0)]))).set 74 (.inr (1, [.ref 75, .int (nI 0)]))) := Fr_s (Fr_set (by decide)) (by decide)
  have X1 : cX ((h.set 72 (.inr (8, [.ref 9, .int (nI (B.length / 8)), .int (nI 0), .int (nI 0)]))).set 74 (.inr (1, [.ref 75, .int (nI 0)]))) B ([], (0, 0)) := by
    refine ⟨⟨Fr_len F1 hl, ?_, ⟨row, Fr_get F1 (by decide) t9, wo⟩, b8, b32, ⟨Nat.zero_le _, Nat.zero_le _⟩⟩, ⟨l, ?_, Fr_get F1 (by decide) e75, e3, Nat.zero_le _, rfl, fun v hv => absurd hv List.not_mem_nil⟩, Fr_get F1 (by decide) h71⟩
    · simp (disch := first | omega | (simp only [List.length_set]; omega)) only [hs_at, hs_ne, List.length_set]
    · simp (disch := first | omega | (simp only [List.length_set]; omega)) only [hs_at, hs_ne, List.length_set]
      rfl
  generalize (h.set 72 (.inr (8, [.ref 9, .int (nI (B.length / 8)), .int (nI 0), .int (nI 0)]))).set 74 (.inr (1, [.ref 75, .int (nI 0)])) = h1 at *
  have L1 := cL_fr F1 (by simp; omega) L
  have G1 := cG_fr F1 (by decide) G
  have C1 := cap_fr F1 (by simp; omega) C
  refine c_80_17 (by simp) n0 L1.1 ?_
  refine f39 (by omega) hd.1 L1 (fun h2 F2 L2 => ?_)
  have X2 := cX_fr F2 (by simp; omega) X1
  have G2 := cG_fr F2 ⟨fun k hk => by simp; omega, fun k hk => by simp; omega⟩ G1
  have C2 := cap_fr F2 (by simp; omega) C1
  simp (disch := first | omega | (simp only [List.length_set]; omega)) only [g_80_0, g_80_1, g_80_4, g_80_8, g_80_9, g_80_12, g_80_13, g_80_16, g_80_20, g_80_21, g_80_25, g_80_26, g_80_28, g_80_29, g_80_33, g_80_36, g_80_39, g_80_41, g_80_44, g_80_45, g_80_48, g_80_51, g_80_54, g_80_55, g_80_59, g_80_61, g_80_64, g_80_67, g_80_68, g_80_74, g_80_75, g_80_79, g_80_80, g_80_83, g_80_86, g_80_89, g_80_90, g_80_96, g_80_99, g_80_100, g_80_103, g_80_108, g_80_109, g_80_110, g_80_113, g_80_118, g_80_119, g_80_122, g_80_125, gs_nx, db_inx, gs_ldi, gs_lda, gs_ldn, List.getElem?_cons_zero, List.getElem?_cons_succ, List.set_cons_zero, List.set_cons_succ, gx5, fx_int, fx_ref, fx_null, px5, gs_lx, gs_ax, sx5, ft_int, ft_ref, ft_b0, ft_b1, c1_int, c1_ref, List.length_cons, List.length_nil, Nat.reduceAdd, Nat.reduceLT, Nat.reduceLeDiff, true_and, and_true, true_or, or_true, not_false_eq_true, Option.toList_some, Option.toList_none, List.nil_append, List.singleton_append, List.cons_append, ↓reduceIte, Bool.and_self, eq_self, z_max, z_min, nI_add, z_sub, z_dec, z_mul, z_div, z_mod, nI_clamp, z_lt, z_nlt, z_le, z_nle, z_ne, z_eq, z_in, not_true_eq_false, if_true, if_false, hs_at, hs_ne, hs_sort, hset_eq, vupp_eq, hs_over, List.length_set, vup_at, vup_ne, vup_over, vup_sort, mfs_len, n5_f, map_getD, List.length_map, gd_self, gd_ne, Nat.add_sub_cancel]
  refine c_80_22 (by simp) (n5_ge (by decide)) X2.2.2 ?_
  refine f82 hfr G2.1 X2 (fun h3 F3 X3 => ?_)
  have G3 := cG_fr F3 (by decide) G2
  have C3 := cap_fr F3 (by simp; omega) C2
  have L3 := cL_fr F3 (by simp; omega) L2
  have F13 : Fr (F86 ++ [o, o + 2, o + 3, o + 4, fc]) h h3 := Fr_tr (Fr_mono F1 (by unfold F86; simp)) (Fr_tr (Fr_mono F2 (by simp)) (Fr_mono F3 (by unfold F86; simp)))
  have l13 := F13.1
  simp (disch := first | omega | (simp only [List.length_set]; omega)) only [g_80_0, g_80_1, g_80_4, g_80_8, g_80_9, g_80_12, g_80_13, g_80_16, g_80_20, g_80_21, g_80_25, g_80_26, g_80_28, g_80_29, g_80_33, g_80_36, g_80_39, g_80_41, g_80_44, g_80_45, g_80_48, g_80_51, g_80_54, g_80_55, g_80_59, g_80_61, g_80_64, g_80_67, g_80_68, g_80_74, g_80_75, g_80_79, g_80_80, g_80_83, g_80_86, g_80_89, g_80_90, g_80_96, g_80_99, g_80_100, g_80_103, g_80_108, g_80_109, g_80_110, g_80_113, g_80_118, g_80_119, g_80_122, g_80_125, gs_nx, db_inx, gs_ldi, gs_lda, gs_ldn, List.getElem?_cons_zero, List.getElem?_cons_succ, List.set_cons_zero, List.set_cons_succ, gx5, fx_int, fx_ref, fx_null, px5, gs_lx, gs_ax, sx5, ft_int, ft_ref, ft_b0, ft_b1, c1_int, c1_ref, List.length_cons, List.length_nil, Nat.reduceAdd, Nat.reduceLT, Nat.reduceLeDiff, true_and, and_true, true_or, or_true, not_false_eq_true, Option.toList_some, Option.toList_none, List.nil_append, List.singleton_append, List.cons_append, ↓reduceIte, Bool.and_self, eq_self, z_max, z_min, nI_add, z_sub, z_dec, z_mul, z_div, z_mod, nI_clamp, z_lt, z_nlt, z_le, z_nle, z_ne, z_eq, z_in, not_true_eq_false, if_true, if_false, hs_at, hs_ne, hs_sort, hset_eq, vupp_eq, hs_over, List.length_set, vup_at, vup_ne, vup_over, vup_sort, mfs_len, n5_f, map_getD, List.length_map, gd_self, gd_ne, Nat.add_sub_cancel]
  refine m80_loop ho 321 0 h3 ([], hdR B fr (0, 0)) fc j [] none (by omega) (fun _ => rfl) hf hd (by omega) X3 G3 L3 C3 (fun h4 fc2 j2 N2 own2 z4 z5 F4 fcc fl4 ct sz X4 G4 L4 C4 e4 => ?_)
  have X4 : cX h4 B (opR B fr).1 := X4
  have e4 : (opR B fr).1.2.2 = 0 → N2 = (opR B fr).2.1 ∧ own2 = (opR B fr).2.2 := e4
  have s0 := @opS_0 B fr
  unfold opS at K s0
  generalize opR B fr = r at *
  have F4' : FrN (F86 ++ [o, o + 2, o + 3, o + 4, fc]) h h4 := FrN_tr (FrN_of F13) F4 (fun k _ z => z.elim id id)
  have o4 := X4.2.2
  unfold opO at o4
  simp (disch := first | omega | (simp only [List.length_set]; omega)) only [g_80_0, g_80_1, g_80_4, g_80_8, g_80_9, g_80_12, g_80_13, g_80_16, g_80_20, g_80_21, g_80_25, g_80_26, g_80_28, g_80_29, g_80_33, g_80_36, g_80_39, g_80_41, g_80_44, g_80_45, g_80_48, g_80_51, g_80_54, g_80_55, g_80_59, g_80_61, g_80_64, g_80_67, g_80_68, g_80_74, g_80_75, g_80_79, g_80_80, g_80_83, g_80_86, g_80_89, g_80_90, g_80_96, g_80_99, g_80_100, g_80_103, g_80_108, g_80_109, g_80_110, g_80_113, g_80_118, g_80_119, g_80_122, g_80_125, gs_nx, db_inx, gs_ldi, gs_lda, gs_ldn, List.getElem?_cons_zero, List.getElem?_cons_succ, List.set_cons_zero, List.set_cons_succ, gx5, fx_int, fx_ref, fx_null, px5, gs_lx, gs_ax, sx5, ft_int, ft_ref, ft_b0, ft_b1, c1_int, c1_ref, List.length_cons, List.length_nil, Nat.reduceAdd, Nat.reduceLT, Nat.reduceLeDiff, true_and, and_true, true_or, or_true, not_false_eq_true, Option.toList_some, Option.toList_none, List.nil_append, List.singleton_append, List.cons_append, ↓reduceIte, Bool.and_self, eq_self, z_max, z_min, nI_add, z_sub, z_dec, z_mul, z_div, z_mod, nI_clamp, z_lt, z_nlt, z_le, z_nle, z_ne, z_eq, z_in, not_true_eq_false, if_true, if_false, hs_at, hs_ne, hs_sort, hset_eq, vupp_eq, hs_over, List.length_set, vup_at, vup_ne, vup_over, vup_sort, mfs_len, n5_f, map_getD, List.length_map, gd_self, gd_ne, Nat.add_sub_cancel, o4]
  refine c_80_71 (by simp) (n5_ge (by decide)) (cRd_o X4.1) ?_
  refine f88 X4.1 (fun h5 F5 R5 => ?_)
  have X5 : cX h5 B (r.1.1, alg r.1.2) := cX_rd F5 X4 R5
  generalize alg r.1.2 = s1 at *
  simp (disch := first | omega | (simp only [List.length_set]; omega)) only [g_80_0, g_80_1, g_80_4, g_80_8, g_80_9, g_80_12, g_80_13, g_80_16, g_80_20, g_80_21, g_80_25, g_80_26, g_80_28, g_80_29, g_80_33, g_80_36, g_80_39, g_80_41, g_80_44, g_80_45, g_80_48, g_80_51, g_80_54, g_80_55, g_80_59, g_80_61, g_80_64, g_80_67, g_80_68, g_80_74, g_80_75, g_80_79, g_80_80, g_80_83, g_80_86, g_80_89, g_80_90, g_80_96, g_80_99, g_80_100, g_80_103, g_80_108, g_80_109, g_80_110, g_80_113, g_80_118, g_80_119, g_80_122, g_80_125, gs_nx, db_inx, gs_ldi, gs_lda, gs_ldn, List.getElem?_cons_zero, List.getElem?_cons_succ, List.set_cons_zero, List.set_cons_succ, gx5, fx_int, fx_ref, fx_null, px5, gs_lx, gs_ax, sx5, ft_int, ft_ref, ft_b0, ft_b1, c1_int, c1_ref, List.length_cons, List.length_nil, Nat.reduceAdd, Nat.reduceLT, Nat.reduceLeDiff, true_and, and_true, true_or, or_true, not_false_eq_true, Option.toList_some, Option.toList_none, List.nil_append, List.singleton_append, List.cons_append, ↓reduceIte, Bool.and_self, eq_self, z_max, z_min, nI_add, z_sub, z_dec, z_mul, z_div, z_mod, nI_clamp, z_lt, z_nlt, z_le, z_nle, z_ne, z_eq, z_in, not_true_eq_false, if_true, if_false, hs_at, hs_ne, hs_sort, hset_eq, vupp_eq, hs_over, List.length_set, vup_at, vup_ne, vup_over, vup_sort, mfs_len, n5_f, map_getD, List.length_map, gd_self, gd_ne, Nat.add_sub_cancel]
  refine c_80_76 (by simp) (n5_ge (by decide)) X5.2.2 ?_
  refine f101 hfr X5 (fun h6 F6 X6 => ?_)
  generalize tlR B fr r.1.1 s1 = s2 at *
  have F46 : Fr [72] h4 h6 := Fr_tr F5 F6
  have o6 := X6.2.2
  unfold opO at o6
  have r6 := cRd_o X6.1
  have s9 : s2.2 ≤ 15 := X6.1.2.2.2.2.2.2
  have s9b : s2.1 ≤ B.length := X6.1.2.2.2.2.2.1
  simp only at r6
  have fin : ∀ (h7 : db_H) (s3 : Rd), Fr [72] h4 h7 → cX h7 B (r.1.1, s3) → s3 = bhR B s2 → db_Go 80 118 [.ref 71, .ref 8, .int (nI fr), .ref o, z4, z5] [] h7 P := by
    intro h7 s3 F7 X7 e7
    rw [← e7] at K s0
    have o7 := X7.2.2
    unfold opO at o7
    have r7 := cRd_o X7.1
    have l7 := F7.1
    simp only at r7
    have G7 := cG_fr F7 (by decide) G4
    have L7 := cL_fr F7 (by simp; omega) L4
    have C7 := cap_fr F7 (by simp; omega) C4
    have N7 : FrN (F86 ++ [o, o + 2, o + 3, o + 4, fc]) h h7 := FrN_tr F4' (FrN_of F7) (fun k _ z => z.elim id (fun z => by unfold F86; simp at z; simp; omega))
    have sz7 : szN h h7 fc := by
      refine ⟨fun k k1 k2 => ?_, ?_⟩
      · obtain ⟨z, z1, z2⟩ := sz.1 k (by omega) (by omega)
        exact ⟨z, Fr_get F7 (by simp; omega) z1, z2⟩
      · obtain ⟨z, z1, z2⟩ := sz.2
        exact ⟨z, Fr_get F7 (by simp; omega) z1, z2⟩
    simp (disch := first | omega | (simp only [List.length_set]; omega)) only [g_80_0, g_80_1, g_80_4, g_80_8, g_80_9, g_80_12, g_80_13, g_80_16, g_80_20, g_80_21, g_80_25, g_80_26, g_80_28, g_80_29, g_80_33, g_80_36, g_80_39, g_80_41, g_80_44, g_80_45, g_80_48, g_80_51, g_80_54, g_80_55, g_80_59, g_80_61, g_80_64, g_80_67, g_80_68, g_80_74, g_80_75, g_80_79, g_80_80, g_80_83, g_80_86, g_80_89, g_80_90, g_80_96, g_80_99, g_80_100, g_80_103, g_80_108, g_80_109, g_80_110, g_80_113, g_80_118, g_80_119, g_80_122, g_80_125, gs_nx, db_inx, gs_ldi, gs_lda, gs_ldn, List.getElem?_cons_zero, List.getElem?_cons_succ, List.set_cons_zero, List.set_cons_succ, gx5, fx_int, fx_ref, fx_null, px5, gs_lx, gs_ax, sx5, ft_int, ft_ref, ft_b0, ft_b1, c1_int, c1_ref, List.length_cons, List.length_nil, Nat.reduceAdd, Nat.reduceLT, Nat.reduceLeDiff, true_and, and_true, true_or, or_true, not_false_eq_true, Option.toList_some, Option.toList_none, List.nil_append, List.singleton_append, List.cons_append, ↓reduceIte, Bool.and_self, eq_self, z_max, z_min, nI_add, z_sub, z_dec, z_mul, z_div, z_mod, nI_clamp, z_lt, z_nlt, z_le, z_nle, z_ne, z_eq, z_in, not_true_eq_false, if_true, if_false, hs_at, hs_ne, hs_sort, hset_eq, vupp_eq, hs_over, List.length_set, vup_at, vup_ne, vup_over, vup_sort, mfs_len, n5_f, map_getD, List.length_map, gd_self, gd_ne, Nat.add_sub_cancel, o7, r7]
    exact K h7 fc2 j2 N2 own2 N7 (by omega) (by omega) (by omega) sz7 X7 G7 L7 C7 (fun z => e4 (s0 z))
  unfold bhR at fin
  by_cases q : s2.2 = 0
  · by_cases q2 : s2.1 < B.length
    · rw [if_pos ⟨q, q2⟩] at fin
      rw [q] at r6
      simp (disch := first | omega | (simp only [List.length_set]; omega)) only [g_80_0, g_80_1, g_80_4, g_80_8, g_80_9, g_80_12, g_80_13, g_80_16, g_80_20, g_80_21, g_80_25, g_80_26, g_80_28, g_80_29, g_80_33, g_80_36, g_80_39, g_80_41, g_80_44, g_80_45, g_80_48, g_80_51, g_80_54, g_80_55, g_80_59, g_80_61, g_80_64, g_80_67, g_80_68, g_80_74, g_80_75, g_80_79, g_80_80, g_80_83, g_80_86, g_80_89, g_80_90, g_80_96, g_80_99, g_80_100, g_80_103, g_80_108, g_80_109, g_80_110, g_80_113, g_80_119, g_80_122, g_80_125, gs_nx, db_inx, gs_ldi, gs_lda, gs_ldn, List.getElem?_cons_zero, List.getElem?_cons_succ, List.set_cons_zero, List.set_cons_succ, gx5, fx_int, fx_ref, fx_null, px5, gs_lx, gs_ax, sx5, ft_int, ft_ref, ft_b0, ft_b1, c1_int, c1_ref, List.length_cons, List.length_nil, Nat.reduceAdd, Nat.reduceLT, Nat.reduceLeDiff, true_and, and_true, true_or, or_true, not_false_eq_true, Option.toList_some, Option.toList_none, List.nil_append, List.singleton_append, List.cons_append, ↓reduceIte, Bool.and_self, eq_self, z_max, z_min, nI_add, z_sub, z_dec, z_mul, z_div, z_mod, nI_clamp, z_lt, z_nlt, z_le, z_nle, z_ne, z_eq, z_in, not_true_eq_false, if_true, if_false, hs_at, hs_ne, hs_sort, hset_eq, vupp_eq, hs_over, List.length_set, vup_at, vup_ne, vup_over, vup_sort, mfs_len, n5_f, map_getD, List.length_map, gd_self, gd_ne, Nat.add_sub_cancel, o6, r6]
      refine c_80_93 (by simp) (n5_ge (by decide)) r6 ?_
      refine f103 X6.1 ?_
      rw [if_pos q2]
      simp (disch := first | omega | (simp only [List.length_set]; omega)) only [g_80_0, g_80_1, g_80_4, g_80_8, g_80_9, g_80_12, g_80_13, g_80_16, g_80_20, g_80_21, g_80_25, g_80_26, g_80_28, g_80_29, g_80_33, g_80_36, g_80_39, g_80_41, g_80_44, g_80_45, g_80_48, g_80_51, g_80_54, g_80_55, g_80_59, g_80_61, g_80_64, g_80_67, g_80_68, g_80_74, g_80_75, g_80_79, g_80_80, g_80_83, g_80_86, g_80_89, g_80_90, g_80_96, g_80_99, g_80_100, g_80_103, g_80_108, g_80_109, g_80_110, g_80_113, g_80_119, g_80_122, g_80_125, gs_nx, db_inx, gs_ldi, gs_lda, gs_ldn, List.getElem?_cons_zero, List.getElem?_cons_succ, List.set_cons_zero, List.set_cons_succ, gx5, fx_int, fx_ref, fx_null, px5, gs_lx, gs_ax, sx5, ft_int, ft_ref, ft_b0, ft_b1, c1_int, c1_ref, List.length_cons, List.length_nil, Nat.reduceAdd, Nat.reduceLT, Nat.reduceLeDiff, true_and, and_true, true_or, or_true, not_false_eq_true, Option.toList_some, Option.toList_none, List.nil_append, List.singleton_append, List.cons_append, ↓reduceIte, Bool.and_self, eq_self, z_max, z_min, nI_add, z_sub, z_dec, z_mul, z_div, z_mod, nI_clamp, z_lt, z_nlt, z_le, z_nle, z_ne, z_eq, z_in, not_true_eq_false, if_true, if_false, hs_at, hs_ne, hs_sort, hset_eq, vupp_eq, hs_over, List.length_set, vup_at, vup_ne, vup_over, vup_sort, mfs_len, n5_f, map_getD, List.length_map, gd_self, gd_ne, Nat.add_sub_cancel, o6]
      refine c_80_105 (by simp) (n5_ge (by decide)) r6 ?_
      refine f83 (by decide) X6.1 (fun h7 F7 R7 => ?_)
      have X7 : cX h7 B (r.1.1, (rdF B 8 s2).2) := cX_rd2 F7 X6 R7
      simp only at *
      generalize rdF B 8 s2 = t at *
      have o7 := X7.2.2
      unfold opO at o7
      simp (disch := first | omega | (simp only [List.length_set]; omega)) only [g_80_0, g_80_1, g_80_4, g_80_8, g_80_9, g_80_12, g_80_13, g_80_16, g_80_20, g_80_21, g_80_25, g_80_26, g_80_28, g_80_29, g_80_33, g_80_36, g_80_39, g_80_41, g_80_44, g_80_45, g_80_48, g_80_51, g_80_54, g_80_55, g_80_59, g_80_61, g_80_64, g_80_67, g_80_68, g_80_74, g_80_75, g_80_79, g_80_80, g_80_83, g_80_86, g_80_89, g_80_90, g_80_96, g_80_99, g_80_100, g_80_103, g_80_108, g_80_109, g_80_110, g_80_113, g_80_119, g_80_122, g_80_125, gs_nx, db_inx, gs_ldi, gs_lda, gs_ldn, List.getElem?_cons_zero, List.getElem?_cons_succ, List.set_cons_zero, List.set_cons_succ, gx5, fx_int, fx_ref, fx_null, px5, gs_lx, gs_ax, sx5, ft_int, ft_ref, ft_b0, ft_b1, c1_int, c1_ref, List.length_cons, List.length_nil, Nat.reduceAdd, Nat.reduceLT, Nat.reduceLeDiff, true_and, and_true, true_or, or_true, not_false_eq_true, Option.toList_some, Option.toList_none, List.nil_append, List.singleton_append, List.cons_append, ↓reduceIte, Bool.and_self, eq_self, z_max, z_min, nI_add, z_sub, z_dec, z_mul, z_div, z_mod, nI_clamp, z_lt, z_nlt, z_le, z_nle, z_ne, z_eq, z_in, not_true_eq_false, if_true, if_false, hs_at, hs_ne, hs_sort, hset_eq, vupp_eq, hs_over, List.length_set, vup_at, vup_ne, vup_over, vup_sort, mfs_len, n5_f, map_getD, List.length_map, gd_self, gd_ne, Nat.add_sub_cancel, o7]
      refine c_80_115 (by simp) (n5_ge (by decide)) (cRd_o X7.1) ?_
      refine f85 (by decide) X7.1 (fun h8 F8 R8 => ?_)
      simp (disch := first | omega | (simp only [List.length_set]; omega)) only [g_80_0, g_80_1, g_80_4, g_80_8, g_80_9, g_80_12, g_80_13, g_80_16, g_80_20, g_80_21, g_80_25, g_80_26, g_80_28, g_80_29, g_80_33, g_80_36, g_80_39, g_80_41, g_80_44, g_80_45, g_80_48, g_80_51, g_80_54, g_80_55, g_80_59, g_80_61, g_80_64, g_80_67, g_80_68, g_80_74, g_80_75, g_80_79, g_80_80, g_80_83, g_80_86, g_80_89, g_80_90, g_80_96, g_80_99, g_80_100, g_80_103, g_80_108, g_80_109, g_80_110, g_80_113, g_80_119, g_80_122, g_80_125, gs_nx, db_inx, gs_ldi, gs_lda, gs_ldn, List.getElem?_cons_zero, List.getElem?_cons_succ, List.set_cons_zero, List.set_cons_succ, gx5, fx_int, fx_ref, fx_null, px5, gs_lx, gs_ax, sx5, ft_int, ft_ref, ft_b0, ft_b1, c1_int, c1_ref, List.length_cons, List.length_nil, Nat.reduceAdd, Nat.reduceLT, Nat.reduceLeDiff, true_and, and_true, true_or, or_true, not_false_eq_true, Option.toList_some, Option.toList_none, List.nil_append, List.singleton_append, List.cons_append, ↓reduceIte, Bool.and_self, eq_self, z_max, z_min, nI_add, z_sub, z_dec, z_mul, z_div, z_mod, nI_clamp, z_lt, z_nlt, z_le, z_nle, z_ne, z_eq, z_in, not_true_eq_false, if_true, if_false, hs_at, hs_ne, hs_sort, hset_eq, vupp_eq, hs_over, List.length_set, vup_at, vup_ne, vup_over, vup_sort, mfs_len, n5_f, map_getD, List.length_map, gd_self, gd_ne, Nat.add_sub_cancel]
      exact fin h8 _ (Fr_tr F46 (Fr_tr F7 F8)) (cX_rd2 F8 X7 R8) rfl
    · rw [if_neg (fun z => q2 z.2)] at fin
      rw [q] at r6
      simp (disch := first | omega | (simp only [List.length_set]; omega)) only [g_80_0, g_80_1, g_80_4, g_80_8, g_80_9, g_80_12, g_80_13, g_80_16, g_80_20, g_80_21, g_80_25, g_80_26, g_80_28, g_80_29, g_80_33, g_80_36, g_80_39, g_80_41, g_80_44, g_80_45, g_80_48, g_80_51, g_80_54, g_80_55, g_80_59, g_80_61, g_80_64, g_80_67, g_80_68, g_80_74, g_80_75, g_80_79, g_80_80, g_80_83, g_80_86, g_80_89, g_80_90, g_80_96, g_80_99, g_80_100, g_80_103, g_80_108, g_80_109, g_80_110, g_80_113, g_80_119, g_80_122, g_80_125, gs_nx, db_inx, gs_ldi, gs_lda, gs_ldn, List.getElem?_cons_zero, List.getElem?_cons_succ, List.set_cons_zero, List.set_cons_succ, gx5, fx_int, fx_ref, fx_null, px5, gs_lx, gs_ax, sx5, ft_int, ft_ref, ft_b0, ft_b1, c1_int, c1_ref, List.length_cons, List.length_nil, Nat.reduceAdd, Nat.reduceLT, Nat.reduceLeDiff, true_and, and_true, true_or, or_true, not_false_eq_true, Option.toList_some, Option.toList_none, List.nil_append, List.singleton_append, List.cons_append, ↓reduceIte, Bool.and_self, eq_self, z_max, z_min, nI_add, z_sub, z_dec, z_mul, z_div, z_mod, nI_clamp, z_lt, z_nlt, z_le, z_nle, z_ne, z_eq, z_in, not_true_eq_false, if_true, if_false, hs_at, hs_ne, hs_sort, hset_eq, vupp_eq, hs_over, List.length_set, vup_at, vup_ne, vup_over, vup_sort, mfs_len, n5_f, map_getD, List.length_map, gd_self, gd_ne, Nat.add_sub_cancel, o6, r6]
      refine c_80_93 (by simp) (n5_ge (by decide)) r6 ?_
      refine f103 X6.1 ?_
      rw [if_neg q2]
      simp (disch := first | omega | (simp only [List.length_set]; omega)) only [g_80_0, g_80_1, g_80_4, g_80_8, g_80_9, g_80_12, g_80_13, g_80_16, g_80_20, g_80_21, g_80_25, g_80_26, g_80_28, g_80_29, g_80_33, g_80_36, g_80_39, g_80_41, g_80_44, g_80_45, g_80_48, g_80_51, g_80_54, g_80_55, g_80_59, g_80_61, g_80_64, g_80_67, g_80_68, g_80_74, g_80_75, g_80_79, g_80_80, g_80_83, g_80_86, g_80_89, g_80_90, g_80_96, g_80_99, g_80_100, g_80_103, g_80_108, g_80_109, g_80_110, g_80_113, g_80_119, g_80_122, g_80_125, gs_nx, db_inx, gs_ldi, gs_lda, gs_ldn, List.getElem?_cons_zero, List.getElem?_cons_succ, List.set_cons_zero, List.set_cons_succ, gx5, fx_int, fx_ref, fx_null, px5, gs_lx, gs_ax, sx5, ft_int, ft_ref, ft_b0, ft_b1, c1_int, c1_ref, List.length_cons, List.length_nil, Nat.reduceAdd, Nat.reduceLT, Nat.reduceLeDiff, true_and, and_true, true_or, or_true, not_false_eq_true, Option.toList_some, Option.toList_none, List.nil_append, List.singleton_append, List.cons_append, ↓reduceIte, Bool.and_self, eq_self, z_max, z_min, nI_add, z_sub, z_dec, z_mul, z_div, z_mod, nI_clamp, z_lt, z_nlt, z_le, z_nle, z_ne, z_eq, z_in, not_true_eq_false, if_true, if_false, hs_at, hs_ne, hs_sort, hset_eq, vupp_eq, hs_over, List.length_set, vup_at, vup_ne, vup_over, vup_sort, mfs_len, n5_f, map_getD, List.length_map, gd_self, gd_ne, Nat.add_sub_cancel]
      exact fin h6 _ F46 X6 rfl
  · rw [if_neg (fun z => q z.1)] at fin
    simp (disch := first | omega | (simp only [List.length_set]; omega)) only [g_80_0, g_80_1, g_80_4, g_80_8, g_80_9, g_80_12, g_80_13, g_80_16, g_80_20, g_80_21, g_80_25, g_80_26, g_80_28, g_80_29, g_80_33, g_80_36, g_80_39, g_80_41, g_80_44, g_80_45, g_80_48, g_80_51, g_80_54, g_80_55, g_80_59, g_80_61, g_80_64, g_80_67, g_80_68, g_80_74, g_80_75, g_80_79, g_80_80, g_80_83, g_80_86, g_80_89, g_80_90, g_80_96, g_80_99, g_80_100, g_80_103, g_80_108, g_80_109, g_80_110, g_80_113, g_80_119, g_80_122, g_80_125, gs_nx, db_inx, gs_ldi, gs_lda, gs_ldn, List.getElem?_cons_zero, List.getElem?_cons_succ, List.set_cons_zero, List.set_cons_succ, gx5, fx_int, fx_ref, fx_null, px5, gs_lx, gs_ax, sx5, ft_int, ft_ref, ft_b0, ft_b1, c1_int, c1_ref, List.length_cons, List.length_nil, Nat.reduceAdd, Nat.reduceLT, Nat.reduceLeDiff, true_and, and_true, true_or, or_true, not_false_eq_true, Option.toList_some, Option.toList_none, List.nil_append, List.singleton_append, List.cons_append, ↓reduceIte, Bool.and_self, eq_self, z_max, z_min, nI_add, z_sub, z_dec, z_mul, z_div, z_mod, nI_clamp, z_lt, z_nlt, z_le, z_nle, z_ne, z_eq, z_in, not_true_eq_false, if_true, if_false, hs_at, hs_ne, hs_sort, hset_eq, vupp_eq, hs_over, List.length_set, vup_at, vup_ne, vup_over, vup_sort, mfs_len, n5_f, map_getD, List.length_map, gd_self, gd_ne, Nat.add_sub_cancel, o6, r6]
    exact fin h6 _ F46 X6 rfl
/-- copyFrom: DATA out of the bytes that came -/
theorem f77d {h : db_H} {E : List Nat} {l0 : List Int32} {n0 : Int32} (hl : 164 < h.length) (e : cE h E) (a6 : h[6]? = some (.inr (1, [.ref 7, .int n0]))) (a7 : h[7]? = some (.inl (0, l0))) (l1 : l0.length = 300) (K : ∀ h2 l, Fr [6, 7] h h2 → cD h2 l E.length → l.take E.length = E.map nI → P none h2) : db_Go 77 0 [.ref 6, .ref 75, .int (nI E.length), .retAddr 0] [] h P := by
  obtain ⟨f, e74, e75, f1, f2, f3, f4⟩ := e
  have e1 : (if nI 300 < nI 300 then nI 300 else nI 300) = nI 300 := by split <;> rfl
  simp (disch := first | omega | (simp only [List.length_set]; omega)) only [g_77_0, g_77_1, g_77_2, g_77_3, g_77_4, g_77_5, g_77_8, g_77_9, g_77_12, g_77_15, g_77_18, g_77_19, g_77_20, g_77_21, g_77_22, g_77_25, g_77_26, g_77_30, g_77_31, g_77_32, g_77_35, gs_nx, db_inx, gs_ldi, gs_lda, gs_ldn, List.getElem?_cons_zero, List.getElem?_cons_succ, List.set_cons_zero, List.set_cons_succ, gx5, fx_int, fx_ref, fx_null, px5, gs_lx, gs_ax, sx5, ft_int, ft_ref, ft_b0, ft_b1, c1_int, c1_ref, List.length_cons, List.length_nil, Nat.reduceAdd, Nat.reduceLT, Nat.reduceLeDiff, true_and, and_true, true_or, or_true, not_false_eq_true, Option.toList_some, Option.toList_none, List.nil_append, List.singleton_append, List.cons_append, ↓reduceIte, Bool.and_self, eq_self, z_max, z_min, nI_add, z_sub, z_dec, z_mul, z_div, z_mod, nI_clamp, z_lt, z_nlt, z_le, z_nle, z_ne, z_eq, z_in, not_true_eq_false, if_true, if_false, hs_at, hs_ne, hs_sort, hset_eq, vupp_eq, hs_over, List.length_set, vup_at, vup_ne, vup_over, vup_sort, mfs_len, n5_f, map_getD, List.length_map, gd_self, gd_ne, Nat.add_sub_cancel, a6, a7, e75, f1, l1, e1]
  rw [Nat.max_eq_right (Nat.zero_le _)]
  rw [g_77_27]
  refine gs_acp (f := f) (g := l0) (by decide) (by decide) (by decide) (by simp (disch := first | omega | (simp only [List.length_set]; omega)) only [hs_at, hs_ne, List.length_set, e75]) (by simp (disch := first | omega | (simp only [List.length_set]; omega)) only [hs_at, hs_ne, List.length_set, a7]) (by omega) (by omega) (by omega) (by omega) ?_
  simp (disch := first | omega | (simp only [List.length_set]; omega)) only [g_77_0, g_77_1, g_77_2, g_77_3, g_77_4, g_77_5, g_77_8, g_77_9, g_77_12, g_77_15, g_77_18, g_77_19, g_77_20, g_77_21, g_77_22, g_77_25, g_77_26, g_77_30, g_77_31, g_77_32, g_77_35, gs_nx, db_inx, gs_ldi, gs_lda, gs_ldn, List.getElem?_cons_zero, List.getElem?_cons_succ, List.set_cons_zero, List.set_cons_succ, gx5, fx_int, fx_ref, fx_null, px5, gs_lx, gs_ax, sx5, ft_int, ft_ref, ft_b0, ft_b1, c1_int, c1_ref, List.length_cons, List.length_nil, Nat.reduceAdd, Nat.reduceLT, Nat.reduceLeDiff, true_and, and_true, true_or, or_true, not_false_eq_true, Option.toList_some, Option.toList_none, List.nil_append, List.singleton_append, List.cons_append, ↓reduceIte, Bool.and_self, eq_self, z_max, z_min, nI_add, z_sub, z_dec, z_mul, z_div, z_mod, nI_clamp, z_lt, z_nlt, z_le, z_nle, z_ne, z_eq, z_in, not_true_eq_false, if_true, if_false, hs_at, hs_ne, hs_sort, hset_eq, vupp_eq, hs_over, List.length_set, vup_at, vup_ne, vup_over, vup_sort, mfs_len, n5_f, map_getD, List.length_map, gd_self, gd_ne, Nat.add_sub_cancel, a6]
  refine K _ (db_cpy f l0 0 0 E.length) (Fr_s (Fr_set (by decide)) (by decide)) ⟨?_, ?_, by rw [cpy_len (by omega) (by omega)]; exact l1, f2⟩ ?_
  · simp (disch := first | omega | (simp only [List.length_set]; omega)) only [hs_at, hs_ne, List.length_set]
  · simp (disch := first | omega | (simp only [List.length_set]; omega)) only [hs_at, hs_ne, List.length_set]
  · unfold db_cpy
    rw [List.take_zero, List.drop_zero, List.nil_append, List.take_append_of_le_length (by rw [List.length_take]; omega), List.take_take, Nat.min_self]
    exact f3
def F79 (o fc : Nat) : List Nat := [5, 6, 7, 10] ++ (F86 ++ [o, o + 2, o + 3, o + 4, fc])
/-- the call -/
theorem f79 {h : db_H} {fr a b fc j : Nat} {N0 : List Nt} {own0 : Option Ow} {r fp n0 : Int32} {l0 : List Int32} {cn : Int32} (hfr : fr ≤ 2) (ho : b = 117 ∨ b = 122) (hf : 117 < fc) (hd : ¬ fc = b ∧ ¬ fc = b + 2 ∧ ¬ fc = b + 3 ∧ ¬ fc = b + 4) (hfl : fc < h.length) (hl : 164 < h.length) (h5 : h[5]? = some (tob a b r fp)) (a6 : h[6]? = some (.inr (1, [.ref 7, .int n0]))) (a7 : h[7]? = some (.inl (0, l0))) (l1 : l0.length = 300) (a10 : h[10]? = some (.inr (3, [.ref 11, .int cn]))) (h71 : h[71]? = some opO) (R0 : cRs h) (E0 : cEs h) (Tp : cTp h B) (G : cG h) (L : cL h b fc N0 own0) (C : cap h fc j)
    (K0 : ¬ (opS B fr).2 = 0 → ∀ h2 fc2 j2 N2 own2, FrN (F79 b fc) h h2 → (fc2 = fc ∨ h.length ≤ fc2) → fc2 < h2.length → h2.length + j = h.length + j2 → szN h h2 fc → h2[5]? = some (tob a b r (nI (opS B fr).1)) → h2[6]? = some (.inr (1, [.ref 7, .int n0])) → h2[7]? = some (.inl (0, l0)) → h2[10]? = some (.inr (3, [.ref 11, .int cn])) → h2[71]? = some opO → cRs h2 → cEs h2 → cG h2 → cL h2 b fc2 N2 own2 → cap h2 fc2 j2 → P (some (.int (-10 - nI (opS B fr).2))) h2)
    (K1 : (opS B fr).2 = 0 → ∀ h2 l fc2 j2, FrN (F79 b fc) h h2 → (fc2 = fc ∨ h.length ≤ fc2) → fc2 < h2.length → h2.length + j = h.length + j2 → szN h h2 fc → h2[5]? = some (tob b a (nI 0) (-1)) → cD h2 l (opR B fr).1.1.length → l.take (opR B fr).1.1.length = (opR B fr).1.1.map nI → (∀ v ∈ (opR B fr).1.1, v < 256) → h2[10]? = some (.inr (3, [.ref 11, .int (nI 0)])) → h2[71]? = some opO → cRs h2 → cEs h2 → cG h2 → cL h2 b fc2 (opR B fr).2.1 (opR B fr).2.2 → cap h2 fc2 j2 → P (some (.int (nI (opR B fr).1.1.length))) h2) : db_Go 79 0 [.ref 5, .int (nI fr), .retAddr 0] [] h P := by
  have h5' := h5
  unfold tob at h5'
  simp (disch := first | omega | (simp only [List.length_set]; omega)) only [g_79_0, g_79_1, g_79_4, g_79_5, g_79_6, g_79_9, g_79_11, g_79_12, g_79_13, g_79_16, g_79_17, g_79_20, g_79_21, g_79_22, g_79_28, g_79_29, g_79_30, g_79_33, g_79_34, g_79_35, g_79_38, g_79_41, g_79_44, g_79_47, g_79_49, g_79_50, g_79_51, g_79_52, g_79_53, g_79_54, g_79_57, g_79_58, g_79_61, g_79_62, g_79_65, g_79_68, g_79_71, g_79_72, g_79_75, g_79_78, g_79_84, g_79_85, g_79_88, g_79_89, g_79_92, g_79_93, g_79_94, g_79_97, g_79_101, g_79_102, g_79_105, g_79_108, gs_nx, db_inx, gs_ldi, gs_lda, gs_ldn, List.getElem?_cons_zero, List.getElem?_cons_succ, List.set_cons_zero, List.set_cons_succ, gx5, fx_int, fx_ref, fx_null, px5, gs_lx, gs_ax, sx5, ft_int, ft_ref, ft_b0, ft_b1, c1_int, c1_ref, List.length_cons, List.length_nil, Nat.reduceAdd, Nat.reduceLT, Nat.reduceLeDiff, true_and, and_true, true_or, or_true, not_false_eq_true, Option.toList_some, Option.toList_none, List.nil_append, List.singleton_append, List.cons_append, ↓reduceIte, Bool.and_self, eq_self, z_max, z_min, nI_add, z_sub, z_dec, z_mul, z_div, z_mod, nI_clamp, z_lt, z_nlt, z_le, z_nle, z_ne, z_eq, z_in, not_true_eq_false, if_true, if_false, hs_at, hs_ne, hs_sort, hset_eq, vupp_eq, hs_over, List.length_set, vup_at, vup_ne, vup_over, vup_sort, mfs_len, n5_f, map_getD, List.length_map, gd_self, gd_ne, Nat.add_sub_cancel, h5']
  refine c_79_25 (by simp) (n5_ge (by decide)) h71 ?_
  refine f80 hfr ho hf hd hfl hl h71 R0 E0 Tp G L C (fun h2 fc2 j2 N2 own2 F2 fcc fl2 ct sz X2 G2 L2 C2 e2 => ?_)
  have hl2 := X2.1.1
  have s9 : (opS B fr).2 ≤ 15 := X2.1.2.2.2.2.2.2
  have nb : ∀ k, k < 72 ∨ k = 73 → k ∉ F86 ++ [b, b + 2, b + 3, b + 4, fc] := fun k hk => by
    simp only [List.mem_append, List.mem_cons, List.not_mem_nil, or_false]
    exact fun w => w.elim (F86_n (by omega)) (fun w => by omega)
  have h52 := FrN_get F2 (nb 5 (by omega)) h5
  have h52' := FrN_get F2 (nb 5 (by omega)) h5'
  have a62 := FrN_get F2 (nb 6 (by omega)) a6
  have a72 := FrN_get F2 (nb 7 (by omega)) a7
  have a102 := FrN_get F2 (nb 10 (by omega)) a10
  have o2 := X2.2.2
  have o2' := o2
  unfold opO at o2'
  have r2 := cRd_o X2.1
  simp only at r2
  obtain ⟨Es2, Rs2⟩ := cX_s X2
  have FN : FrN (F79 b fc) h h2 := ⟨F2.1, fun k hk hn => F2.2 k hk (fun q => hn (List.mem_append_right _ q))⟩
  by_cases q : (opS B fr).2 = 0
  · have K1 := K1 q
    have e2 := e2 q
    have eE := X2.2.1
    simp only at eE
    rw [e2.1, e2.2] at L2
    rw [q]
    simp (disch := first | omega | (simp only [List.length_set]; omega)) only [g_79_0, g_79_1, g_79_4, g_79_5, g_79_6, g_79_9, g_79_11, g_79_12, g_79_13, g_79_16, g_79_17, g_79_20, g_79_21, g_79_22, g_79_28, g_79_29, g_79_30, g_79_33, g_79_34, g_79_35, g_79_38, g_79_41, g_79_44, g_79_47, g_79_49, g_79_50, g_79_51, g_79_52, g_79_53, g_79_54, g_79_58, g_79_61, g_79_62, g_79_65, g_79_68, g_79_71, g_79_72, g_79_75, g_79_78, g_79_84, g_79_85, g_79_88, g_79_89, g_79_92, g_79_93, g_79_94, g_79_97, g_79_101, g_79_102, g_79_105, g_79_108, gs_nx, db_inx, gs_ldi, gs_lda, gs_ldn, List.getElem?_cons_zero, List.getElem?_cons_succ, List.set_cons_zero, List.set_cons_succ, gx5, fx_int, fx_ref, fx_null, px5, gs_lx, gs_ax, sx5, ft_int, ft_ref, ft_b0, ft_b1, c1_int, c1_ref, List.length_cons, List.length_nil, Nat.reduceAdd, Nat.reduceLT, Nat.reduceLeDiff, true_and, and_true, true_or, or_true, not_false_eq_true, Option.toList_some, Option.toList_none, List.nil_append, List.singleton_append, List.cons_append, ↓reduceIte, Bool.and_self, eq_self, z_max, z_min, nI_add, z_sub, z_dec, z_mul, z_div, z_mod, nI_clamp, z_lt, z_nlt, z_le, z_nle, z_ne, z_eq, z_in, not_true_eq_false, if_true, if_false, hs_at, hs_ne, hs_sort, hset_eq, vupp_eq, hs_over, List.length_set, vup_at, vup_ne, vup_over, vup_sort, mfs_len, n5_f, map_getD, List.length_map, gd_self, gd_ne, Nat.add_sub_cancel, h52']
    have F3 : Fr [5] h2 (h2.set 5 (.inr (11, [.ref 6, .ref 8, .ref 10, .ref 12, .ref 16, .ref 71, .ref a, .ref b, .int r, .int (-1)]))) := Fr_set (by decide)
    have h53 : (h2.set 5 (.inr (11, [.ref 6, .ref 8, .ref 10, .ref 12, .ref 16, .ref 71, .ref a, .ref b, .int r, .int (-1)])))[5]? = some (tob a b r (-1)) := by
      unfold tob
      simp (disch := first | omega | (simp only [List.length_set]; omega)) only [hs_at, hs_ne, List.length_set]
    generalize h2.set 5 (.inr (11, [.ref 6, .ref 8, .ref 10, .ref 12, .ref 16, .ref 71, .ref a, .ref b, .int r, .int (-1)])) = h3 at *
    have h53' := h53
    unfold tob at h53'
    have eE3 := cE_fr F3 (by decide) eE
    obtain ⟨f, e74, e75, f1, f2, f3, f4⟩ := id eE3
    have o3 := Fr_get F3 (by decide) o2'
    have hl3 := Fr_len F3 hl2
    generalize (opR B fr).1.1 = E at *
    simp (disch := first | omega | (simp only [List.length_set]; omega)) only [g_79_0, g_79_1, g_79_4, g_79_5, g_79_6, g_79_9, g_79_11, g_79_12, g_79_13, g_79_16, g_79_17, g_79_20, g_79_21, g_79_22, g_79_28, g_79_29, g_79_30, g_79_33, g_79_34, g_79_35, g_79_38, g_79_41, g_79_44, g_79_47, g_79_49, g_79_50, g_79_51, g_79_52, g_79_53, g_79_54, g_79_57, g_79_58, g_79_61, g_79_62, g_79_65, g_79_68, g_79_71, g_79_72, g_79_75, g_79_78, g_79_84, g_79_85, g_79_88, g_79_89, g_79_92, g_79_93, g_79_94, g_79_97, g_79_101, g_79_102, g_79_105, g_79_108, gs_nx, db_inx, gs_ldi, gs_lda, gs_ldn, List.getElem?_cons_zero, List.getElem?_cons_succ, List.set_cons_zero, List.set_cons_succ, gx5, fx_int, fx_ref, fx_null, px5, gs_lx, gs_ax, sx5, ft_int, ft_ref, ft_b0, ft_b1, c1_int, c1_ref, List.length_cons, List.length_nil, Nat.reduceAdd, Nat.reduceLT, Nat.reduceLeDiff, true_and, and_true, true_or, or_true, not_false_eq_true, Option.toList_some, Option.toList_none, List.nil_append, List.singleton_append, List.cons_append, ↓reduceIte, Bool.and_self, eq_self, z_max, z_min, nI_add, z_sub, z_dec, z_mul, z_div, z_mod, nI_clamp, z_lt, z_nlt, z_le, z_nle, z_ne, z_eq, z_in, not_true_eq_false, if_true, if_false, hs_at, hs_ne, hs_sort, hset_eq, vupp_eq, hs_over, List.length_set, vup_at, vup_ne, vup_over, vup_sort, mfs_len, n5_f, map_getD, List.length_map, gd_self, gd_ne, Nat.add_sub_cancel, h53', o3, e74]
    refine c_79_81 (by simp) (n5_ge (by decide)) (Fr_get F3 (by decide) a62) ?_
    refine f77d hl3 eE3 (Fr_get F3 (by decide) a62) (Fr_get F3 (by decide) a72) l1 (fun h4 l F4 D4 ll => ?_)
    have h54 := Fr_get F4 (by decide) h53
    have h54' := Fr_get F4 (by decide) h53'
    have a104 := Fr_get F4 (by decide) (Fr_get F3 (by decide) a102)
    have hl4 := Fr_len F4 hl3
    simp (disch := first | omega | (simp only [List.length_set]; omega)) only [g_79_0, g_79_1, g_79_4, g_79_5, g_79_6, g_79_9, g_79_11, g_79_12, g_79_13, g_79_16, g_79_17, g_79_20, g_79_21, g_79_22, g_79_28, g_79_29, g_79_30, g_79_33, g_79_34, g_79_35, g_79_38, g_79_41, g_79_44, g_79_47, g_79_49, g_79_50, g_79_51, g_79_52, g_79_53, g_79_54, g_79_57, g_79_58, g_79_61, g_79_62, g_79_65, g_79_68, g_79_71, g_79_72, g_79_75, g_79_78, g_79_84, g_79_85, g_79_88, g_79_89, g_79_92, g_79_93, g_79_94, g_79_101, g_79_102, g_79_105, g_79_108, gs_nx, db_inx, gs_ldi, gs_lda, gs_ldn, List.getElem?_cons_zero, List.getElem?_cons_succ, List.set_cons_zero, List.set_cons_succ, gx5, fx_int, fx_ref, fx_null, px5, gs_lx, gs_ax, sx5, ft_int, ft_ref, ft_b0, ft_b1, c1_int, c1_ref, List.length_cons, List.length_nil, Nat.reduceAdd, Nat.reduceLT, Nat.reduceLeDiff, true_and, and_true, true_or, or_true, not_false_eq_true, Option.toList_some, Option.toList_none, List.nil_append, List.singleton_append, List.cons_append, ↓reduceIte, Bool.and_self, eq_self, z_max, z_min, nI_add, z_sub, z_dec, z_mul, z_div, z_mod, nI_clamp, z_lt, z_nlt, z_le, z_nle, z_ne, z_eq, z_in, not_true_eq_false, if_true, if_false, hs_at, hs_ne, hs_sort, hset_eq, vupp_eq, hs_over, List.length_set, vup_at, vup_ne, vup_over, vup_sort, mfs_len, n5_f, map_getD, List.length_map, gd_self, gd_ne, Nat.add_sub_cancel, h54', a104]
    have F5 : Fr [5, 10] h4 ((h4.set 5 (.inr (11, [.ref 6, .ref 8, .ref 10, .ref 12, .ref 16, .ref 71, .ref a, .ref b, .int (nI 0), .int (-1)]))).set 10 (.inr (3, [.ref 11, .int (nI 0)]))) := Fr_s (Fr_set (by decide)) (by decide)
    have h55 : ((h4.set 5 (.inr (11, [.ref 6, .ref 8, .ref 10, .ref 12, .ref 16, .ref 71, .ref a, .ref b, .int (nI 0), .int (-1)]))).set 10 (.inr (3, [.ref 11, .int (nI 0)])))[5]? = some (tob a b (nI 0) (-1)) := by
      unfold tob
      simp (disch := first | omega | (simp only [List.length_set]; omega)) only [hs_at, hs_ne, List.length_set]
    have a105 : ((h4.set 5 (.inr (11, [.ref 6, .ref 8, .ref 10, .ref 12, .ref 16, .ref 71, .ref a, .ref b, .int (nI 0), .int (-1)]))).set 10 (.inr (3, [.ref 11, .int (nI 0)])))[10]? = some (.inr (3, [.ref 11, .int (nI 0)])) := by simp (disch := first | omega | (simp only [List.length_set]; omega)) only [hs_at, hs_ne, List.length_set]
    generalize (h4.set 5 (.inr (11, [.ref 6, .ref 8, .ref 10, .ref 12, .ref 16, .ref 71, .ref a, .ref b, .int (nI 0), .int (-1)]))).set 10 (.inr (3, [.ref 11, .int (nI 0)])) = h5' at *
    have hl5 := Fr_len F5 hl4
    simp (disch := first | omega | (simp only [List.length_set]; omega)) only [g_79_0, g_79_1, g_79_4, g_79_5, g_79_6, g_79_9, g_79_11, g_79_12, g_79_13, g_79_16, g_79_17, g_79_20, g_79_21, g_79_22, g_79_28, g_79_29, g_79_30, g_79_33, g_79_34, g_79_35, g_79_38, g_79_41, g_79_44, g_79_47, g_79_49, g_79_50, g_79_51, g_79_52, g_79_53, g_79_54, g_79_57, g_79_58, g_79_61, g_79_62, g_79_65, g_79_68, g_79_71, g_79_72, g_79_75, g_79_78, g_79_84, g_79_85, g_79_88, g_79_89, g_79_92, g_79_93, g_79_94, g_79_97, g_79_101, g_79_102, g_79_105, g_79_108, gs_nx, db_inx, gs_ldi, gs_lda, gs_ldn, List.getElem?_cons_zero, List.getElem?_cons_succ, List.set_cons_zero, List.set_cons_succ, gx5, fx_int, fx_ref, fx_null, px5, gs_lx, gs_ax, sx5, ft_int, ft_ref, ft_b0, ft_b1, c1_int, c1_ref, List.length_cons, List.length_nil, Nat.reduceAdd, Nat.reduceLT, Nat.reduceLeDiff, true_and, and_true, true_or, or_true, not_false_eq_true, Option.toList_some, Option.toList_none, List.nil_append, List.singleton_append, List.cons_append, ↓reduceIte, Bool.and_self, eq_self, z_max, z_min, nI_add, z_sub, z_dec, z_mul, z_div, z_mod, nI_clamp, z_lt, z_nlt, z_le, z_nle, z_ne, z_eq, z_in, not_true_eq_false, if_true, if_false, hs_at, hs_ne, hs_sort, hset_eq, vupp_eq, hs_over, List.length_set, vup_at, vup_ne, vup_over, vup_sort, mfs_len, n5_f, map_getD, List.length_map, gd_self, gd_ne, Nat.add_sub_cancel]
    refine c_79_98 (by simp) (n5_ge (by decide)) h55 ?_
    refine f78 hl5 h55 ?_
    have F6 : Fr [5] h5' (h5'.set 5 (tob b a (nI 0) (-1))) := Fr_set (by decide)
    have h56 : (h5'.set 5 (tob b a (nI 0) (-1)))[5]? = some (tob b a (nI 0) (-1)) := by simp (disch := first | omega | (simp only [List.length_set]; omega)) only [hs_at, hs_ne, List.length_set]
    generalize h5'.set 5 (tob b a (nI 0) (-1)) = h6 at *
    have F26 : Fr [5, 6, 7, 10] h2 h6 := Fr_tr (Fr_mono F3 (by decide)) (Fr_tr (Fr_mono F4 (by decide)) (Fr_tr (Fr_mono F5 (by decide)) (Fr_mono F6 (by decide))))
    have D6 := cD_fr F6 (by decide) (cD_fr F5 (by decide) D4)
    have d6 := D6.1
    have h56' := h56
    unfold tob at h56'
    have l26 := F26.1
    simp (disch := first | omega | (simp only [List.length_set]; omega)) only [g_79_0, g_79_1, g_79_4, g_79_5, g_79_6, g_79_9, g_79_11, g_79_12, g_79_13, g_79_16, g_79_17, g_79_20, g_79_21, g_79_22, g_79_28, g_79_29, g_79_30, g_79_33, g_79_34, g_79_35, g_79_38, g_79_41, g_79_44, g_79_47, g_79_49, g_79_50, g_79_51, g_79_52, g_79_53, g_79_54, g_79_57, g_79_58, g_79_61, g_79_62, g_79_65, g_79_68, g_79_71, g_79_72, g_79_75, g_79_78, g_79_84, g_79_85, g_79_88, g_79_89, g_79_92, g_79_93, g_79_94, g_79_97, g_79_101, g_79_102, g_79_105, g_79_108, gs_nx, db_inx, gs_ldi, gs_lda, gs_ldn, List.getElem?_cons_zero, List.getElem?_cons_succ, List.set_cons_zero, List.set_cons_succ, gx5, fx_int, fx_ref, fx_null, px5, gs_lx, gs_ax, sx5, ft_int, ft_ref, ft_b0, ft_b1, c1_int, c1_ref, List.length_cons, List.length_nil, Nat.reduceAdd, Nat.reduceLT, Nat.reduceLeDiff, true_and, and_true, true_or, or_true, not_false_eq_true, Option.toList_some, Option.toList_none, List.nil_append, List.singleton_append, List.cons_append, ↓reduceIte, Bool.and_self, eq_self, z_max, z_min, nI_add, z_sub, z_dec, z_mul, z_div, z_mod, nI_clamp, z_lt, z_nlt, z_le, z_nle, z_ne, z_eq, z_in, not_true_eq_false, if_true, if_false, hs_at, hs_ne, hs_sort, hset_eq, vupp_eq, hs_over, List.length_set, vup_at, vup_ne, vup_over, vup_sort, mfs_len, n5_f, map_getD, List.length_map, gd_self, gd_ne, Nat.add_sub_cancel, h56', d6]
    have N6 : FrN (F79 b fc) h h6 := FrN_tr F2 (FrN_of F26) (fun k _ z => z.elim (fun z => List.mem_append_right _ z) (fun z => List.mem_append_left _ z))
    have sz6 : szN h h6 fc := by
      refine ⟨fun k k1 k2 => ?_, ?_⟩
      · obtain ⟨z, z1, z2⟩ := sz.1 k k1 (by omega)
        exact ⟨z, Fr_get F26 (by simp; omega) z1, z2⟩
      · obtain ⟨z, z1, z2⟩ := sz.2
        exact ⟨z, Fr_get F26 (by simp; omega) z1, z2⟩
    obtain ⟨er, ea, eb, ec, r72⟩ := Rs2
    obtain ⟨el, en, u74, u75, u3⟩ := Es2
    exact K1 h6 l fc2 j2 N6 fcc (by omega) (by omega) sz6 h56 D6 ll f4 (Fr_get F6 (by decide) a105) (Fr_get F26 (by decide) o2) ⟨_, _, _, _, Fr_get F26 (by decide) r72⟩ ⟨_, _, Fr_get F26 (by decide) u74, Fr_get F26 (by decide) u75, u3⟩ (cG_fr F26 (by decide) G2) (cL_fr F26 (by simp; omega) L2) (cap_fr F26 (by simp; omega) C2)
  · have K0 := K0 q
    simp (disch := first | omega | (simp only [List.length_set]; omega)) only [g_79_0, g_79_1, g_79_4, g_79_5, g_79_6, g_79_9, g_79_11, g_79_12, g_79_13, g_79_16, g_79_17, g_79_20, g_79_21, g_79_22, g_79_28, g_79_29, g_79_30, g_79_33, g_79_34, g_79_35, g_79_38, g_79_41, g_79_44, g_79_47, g_79_49, g_79_50, g_79_51, g_79_52, g_79_53, g_79_54, g_79_57, g_79_58, g_79_61, g_79_62, g_79_65, g_79_68, g_79_71, g_79_72, g_79_75, g_79_78, g_79_84, g_79_85, g_79_88, g_79_89, g_79_92, g_79_93, g_79_94, g_79_97, g_79_101, g_79_102, g_79_105, g_79_108, gs_nx, db_inx, gs_ldi, gs_lda, gs_ldn, List.getElem?_cons_zero, List.getElem?_cons_succ, List.set_cons_zero, List.set_cons_succ, gx5, fx_int, fx_ref, fx_null, px5, gs_lx, gs_ax, sx5, ft_int, ft_ref, ft_b0, ft_b1, c1_int, c1_ref, List.length_cons, List.length_nil, Nat.reduceAdd, Nat.reduceLT, Nat.reduceLeDiff, true_and, and_true, true_or, or_true, not_false_eq_true, Option.toList_some, Option.toList_none, List.nil_append, List.singleton_append, List.cons_append, ↓reduceIte, Bool.and_self, eq_self, z_max, z_min, nI_add, z_sub, z_dec, z_mul, z_div, z_mod, nI_clamp, z_lt, z_nlt, z_le, z_nle, z_ne, z_eq, z_in, not_true_eq_false, if_true, if_false, hs_at, hs_ne, hs_sort, hset_eq, vupp_eq, hs_over, List.length_set, vup_at, vup_ne, vup_over, vup_sort, mfs_len, n5_f, map_getD, List.length_map, gd_self, gd_ne, Nat.add_sub_cancel, h52', o2', r2]
    have F3 : Fr [5] h2 (h2.set 5 (tob a b r (nI (opS B fr).1))) := Fr_set (by decide)
    have h53 : (h2.set 5 (tob a b r (nI (opS B fr).1)))[5]? = some (tob a b r (nI (opS B fr).1)) := by simp (disch := first | omega | (simp only [List.length_set]; omega)) only [hs_at, hs_ne, List.length_set]
    have l23 := F3.1
    have N3 : FrN (F79 b fc) h (h2.set 5 (tob a b r (nI (opS B fr).1))) := FrN_tr F2 (FrN_of F3) (fun k _ z => z.elim (fun z => List.mem_append_right _ z) (fun z => List.mem_append_left _ (by simp at z; simp; omega)))
    have sz3 : szN h (h2.set 5 (tob a b r (nI (opS B fr).1))) fc := by
      refine ⟨fun k k1 k2 => ?_, ?_⟩
      · obtain ⟨z, z1, z2⟩ := sz.1 k k1 (by omega)
        exact ⟨z, Fr_get F3 (by simp; omega) z1, z2⟩
      · obtain ⟨z, z1, z2⟩ := sz.2
        exact ⟨z, Fr_get F3 (by simp; omega) z1, z2⟩
    obtain ⟨er, ea, eb, ec, r72⟩ := Rs2
    obtain ⟨el, en, u74, u75, u3⟩ := Es2
    have K0 := K0 _ fc2 j2 N2 own2 N3 fcc (by omega) (by omega) sz3 h53 (Fr_get F3 (by decide) a62) (Fr_get F3 (by decide) a72) (Fr_get F3 (by decide) a102) (Fr_get F3 (by decide) o2) ⟨_, _, _, _, Fr_get F3 (by decide) r72⟩ ⟨_, _, Fr_get F3 (by decide) u74, Fr_get F3 (by decide) u75, u3⟩ (cG_fr F3 (by decide) G2) (cL_fr F3 (by simp; omega) L2) (cap_fr F3 (by simp; omega) C2)
    unfold tob at K0
    exact K0
end CO3
