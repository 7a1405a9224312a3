/-! steps, widths, sums of the class -/
section COPS2
variable {P : Option Value → db_H → Prop} {h : db_H} {D C : List Nat} {B : List Bool} {N : List Nt} {own : Option Ow} {fp : Int32}
/-- findRepeats between two calls -/
theorem C29 (A : CI h D C B N own fp) (K : ∀ h2 a b, Cl h h2 → CI h2 D C B N own fp → h2[5]? = some (tob a b (bI true) fp) → cR h2 (sD D C) → P none h2) : db_Go 29 0 [.ref 5] [] h P := by
  obtain ⟨hl, hz, l, r, a, b, fca, fcb, ja, jb, N', own', h5, a2, ⟨p1, p2, p3, p4, p5, p6, ⟨y4, y5, y6, y7, p7⟩, W, p8, p9⟩, a4, a5⟩ := A
  obtain ⟨d1, d2, d3, d4, d5⟩ := id a2
  have n3 := d1.2.2.2
  have es := sD_eq (C := C) d2 n3
  refine f29 hl h5 d1 (byt_of d2 d3) d4 p1 p2 (fun h2 f sR sRp s5 => ?_)
  have hz2 : nz h2 := fun k c hk e => by
    have : k < h2.length := (List.getElem?_eq_some_iff.mp e).1
    rw [f.2 k (by rw [← f.1]; exact this) (by simp only [List.mem_cons, List.not_mem_nil, or_false]; omega)] at e
    exact hz k c hk e
  refine K h2 a b (Cl_fr hl f (by decide)) ⟨Fr_len f hl, hz2, l, true, a, b, fca, fcb, ja, jb, N', own', s5, c2_fr f (by decide) a2, ⟨sRp, fun _ => sR, cT_fr f (by decide) p3, cdW_fr f (by decide) p4, cdW_fr f (by decide) p5, cO_fr f (by decide) p6, ⟨y4, y5, y6, y7, Fr_get f (by decide) p7⟩, W, cW_fr f (by decide) p8, p9⟩, c4_fr f (by decide) a4, c5_fr f ⟨by decide, fun k hk => by simp only [List.mem_cons, List.not_mem_nil, or_false]; omega⟩ a5⟩ s5 ?_
  rw [← es]
  exact sR
theorem C109 (A : CI h D C B N own fp) (K : ∀ h2, Cl h h2 → CI h2 D C B N own fp → P (some (.int (nI (sD D C).length))) h2) : db_Go 109 0 [.ref 5] [] h P := by
  obtain ⟨hl, l, r, a, b, h5, _⟩ := CI_b A
  simp (disch := first | omega | (simp only [List.length_set]; omega)) only [g_109_0, g_109_4, g_109_5, g_109_8, g_109_11, gs_nx, db_inx, gs_ldi, gs_lda, gs_ldn, List.getElem?_cons_zero, List.getElem?_cons_succ, List.set_cons_zero, List.set_cons_succ, gx5, fx_int, fx_ref, fx_null, px5, gs_lx, gs_ax, sx5, ft_int, ft_ref, ft_b0, ft_b1, c1_int, c1_ref, List.length_cons, List.length_nil, Nat.reduceAdd, Nat.reduceLT, Nat.reduceLeDiff, true_and, and_true, true_or, or_true, not_false_eq_true, Option.toList_some, Option.toList_none, List.nil_append, List.singleton_append, List.cons_append, ↓reduceIte, Bool.and_self, eq_self, z_max, z_min, nI_add, z_sub, z_dec, z_mul, z_div, z_mod, nI_clamp, z_lt, z_nlt, z_le, z_nle, z_ne, z_eq, z_in, not_true_eq_false, if_true, if_false, hs_at, hs_ne, hs_sort, hset_eq, vupp_eq, hs_over, List.length_set, vup_at, vup_ne, vup_over, vup_sort, mfs_len, n5_f, map_getD, List.length_map, gd_self, gd_ne, Nat.add_sub_cancel]
  refine c_109_1 (by simp) (n5_ge (by decide)) h5 ?_
  refine C29 A (fun h2 a b cl ci s5 sR => ?_)
  obtain ⟨pl, ln, vl, x, y, e12, _⟩ := sR
  unfold tob at s5
  simp (disch := first | omega | (simp only [List.length_set]; omega)) only [g_109_0, g_109_4, g_109_5, g_109_8, g_109_11, gs_nx, db_inx, gs_ldi, gs_lda, gs_ldn, List.getElem?_cons_zero, List.getElem?_cons_succ, List.set_cons_zero, List.set_cons_succ, gx5, fx_int, fx_ref, fx_null, px5, gs_lx, gs_ax, sx5, ft_int, ft_ref, ft_b0, ft_b1, c1_int, c1_ref, List.length_cons, List.length_nil, Nat.reduceAdd, Nat.reduceLT, Nat.reduceLeDiff, true_and, and_true, true_or, or_true, not_false_eq_true, Option.toList_some, Option.toList_none, List.nil_append, List.singleton_append, List.cons_append, ↓reduceIte, Bool.and_self, eq_self, z_max, z_min, nI_add, z_sub, z_dec, z_mul, z_div, z_mod, nI_clamp, z_lt, z_nlt, z_le, z_nle, z_ne, z_eq, z_in, not_true_eq_false, if_true, if_false, hs_at, hs_ne, hs_sort, hset_eq, vupp_eq, hs_over, List.length_set, vup_at, vup_ne, vup_over, vup_sort, mfs_len, n5_f, map_getD, List.length_map, gd_self, gd_ne, Nat.add_sub_cancel, s5, e12]
  exact K h2 cl ci
theorem g110 {L S : List Value} {x : Int32} : db_Go 110 41 L (.int x :: S) h P ↔ db_Go 110 (db_lsw x [(0, 27), (1, 37)] [68, 78] 88) L S h P := g_110_41
theorem g111 {L S : List Value} {x : Int32} : db_Go 111 1 L (.int x :: S) h P ↔ db_Go 111 (db_lsw x [(0, 27), (1, 35)] [28, 36] 44) L S h P := g_111_1
theorem C110 {i : Int32} {w : Nat} (hw : w < 3) (A : CI h D C B N own fp) (K : ∀ h2, Cl h h2 → CI h2 D C B N own fp → P (some (.int (if db_in i (sD D C).length = true then stW ((sD D C).getD i.toNatClampNeg (0, 0, 0)) w else -1))) h2) : db_Go 110 0 [.ref 5, .int i, .int (nI w)] [] h P := by
  obtain ⟨hl, l, r, a, b, h5, _⟩ := CI_b A
  simp (disch := first | omega | (simp only [List.length_set]; omega)) only [g_110_0, g_110_1, g_110_4, g_110_5, g_110_6, g_110_9, g_110_11, g_110_12, g_110_16, g_110_17, g_110_20, g_110_21, g_110_22, g_110_25, g_110_28, g_110_31, g_110_32, g_110_35, g_110_38, g_110_39, g_110_40, g_110_68, g_110_69, g_110_72, g_110_75, g_110_76, g_110_77, g_110_78, g_110_79, g_110_82, g_110_85, g_110_86, g_110_87, g_110_88, g_110_89, g_110_92, g_110_95, g_110_96, g_110_97, gs_nx, db_inx, gs_ldi, gs_lda, gs_ldn, List.getElem?_cons_zero, List.getElem?_cons_succ, List.set_cons_zero, List.set_cons_succ, gx5, fx_int, fx_ref, fx_null, px5, gs_lx, gs_ax, sx5, ft_int, ft_ref, ft_b0, ft_b1, c1_int, c1_ref, List.length_cons, List.length_nil, Nat.reduceAdd, Nat.reduceLT, Nat.reduceLeDiff, true_and, and_true, true_or, or_true, not_false_eq_true, Option.toList_some, Option.toList_none, List.nil_append, List.singleton_append, List.cons_append, ↓reduceIte, Bool.and_self, eq_self, z_max, z_min, nI_add, z_sub, z_dec, z_mul, z_div, z_mod, nI_clamp, z_lt, z_nlt, z_le, z_nle, z_ne, z_eq, z_in, not_true_eq_false, if_true, if_false, hs_at, hs_ne, hs_sort, hset_eq, vupp_eq, hs_over, List.length_set, vup_at, vup_ne, vup_over, vup_sort, mfs_len, n5_f, map_getD, List.length_map, gd_self, gd_ne, Nat.add_sub_cancel]
  refine c_110_13 (by simp) (n5_ge (by decide)) h5 ?_
  refine C29 A (fun h2 a b cl ci s5 sR => ?_)
  obtain ⟨pl, ln, vl, x, y, e12, e13, e14, e15, ⟨o1, o2, o3, o4⟩, o5, o6⟩ := sR
  have K := K h2 cl ci
  generalize sD D C = T at K e12 o4 o5
  unfold tob at s5
  rcases in_or i (n := T.length) (by omega) with ⟨h1, j, hj, e⟩ | ⟨h1, hc⟩
  · rw [if_pos h1] at K
    subst e
    rw [nI_clamp (by omega), List.getD_eq_getElem?_getD, List.getElem?_eq_getElem hj, Option.getD_some] at K
    have ht := o4 j _ (List.getElem?_eq_getElem hj)
    simp (disch := first | omega | (simp only [List.length_set]; omega)) only [g_110_0, g_110_1, g_110_4, g_110_5, g_110_6, g_110_9, g_110_11, g_110_12, g_110_16, g_110_17, g_110_20, g_110_21, g_110_22, g_110_25, g_110_28, g_110_31, g_110_32, g_110_35, g_110_38, g_110_39, g_110_40, g_110_68, g_110_69, g_110_72, g_110_75, g_110_76, g_110_77, g_110_78, g_110_79, g_110_82, g_110_85, g_110_86, g_110_87, g_110_88, g_110_89, g_110_92, g_110_95, g_110_96, g_110_97, gs_nx, db_inx, gs_ldi, gs_lda, gs_ldn, List.getElem?_cons_zero, List.getElem?_cons_succ, List.set_cons_zero, List.set_cons_succ, gx5, fx_int, fx_ref, fx_null, px5, gs_lx, gs_ax, sx5, ft_int, ft_ref, ft_b0, ft_b1, c1_int, c1_ref, List.length_cons, List.length_nil, Nat.reduceAdd, Nat.reduceLT, Nat.reduceLeDiff, true_and, and_true, true_or, or_true, not_false_eq_true, Option.toList_some, Option.toList_none, List.nil_append, List.singleton_append, List.cons_append, ↓reduceIte, Bool.and_self, eq_self, z_max, z_min, nI_add, z_sub, z_dec, z_mul, z_div, z_mod, nI_clamp, z_lt, z_nlt, z_le, z_nle, z_ne, z_eq, z_in, not_true_eq_false, if_true, if_false, hs_at, hs_ne, hs_sort, hset_eq, vupp_eq, hs_over, List.length_set, vup_at, vup_ne, vup_over, vup_sort, mfs_len, n5_f, map_getD, List.length_map, gd_self, gd_ne, Nat.add_sub_cancel, s5, e12]
    rw [g110, lsw2]
    have hw2 : w = 0 ∨ w = 1 ∨ w = 2 := by omega
    rcases hw2 with rfl | rfl | rfl
    · rw [if_pos rfl]
      simp (disch := first | omega | (simp only [List.length_set]; omega)) only [g_110_0, g_110_1, g_110_4, g_110_5, g_110_6, g_110_9, g_110_11, g_110_12, g_110_16, g_110_17, g_110_20, g_110_21, g_110_22, g_110_25, g_110_28, g_110_31, g_110_32, g_110_35, g_110_38, g_110_39, g_110_40, g_110_68, g_110_69, g_110_72, g_110_75, g_110_76, g_110_77, g_110_78, g_110_79, g_110_82, g_110_85, g_110_86, g_110_87, g_110_88, g_110_89, g_110_92, g_110_95, g_110_96, g_110_97, gs_nx, db_inx, gs_ldi, gs_lda, gs_ldn, List.getElem?_cons_zero, List.getElem?_cons_succ, List.set_cons_zero, List.set_cons_succ, gx5, fx_int, fx_ref, fx_null, px5, gs_lx, gs_ax, sx5, ft_int, ft_ref, ft_b0, ft_b1, c1_int, c1_ref, List.length_cons, List.length_nil, Nat.reduceAdd, Nat.reduceLT, Nat.reduceLeDiff, true_and, and_true, true_or, or_true, not_false_eq_true, Option.toList_some, Option.toList_none, List.nil_append, List.singleton_append, List.cons_append, ↓reduceIte, Bool.and_self, eq_self, z_max, z_min, nI_add, z_sub, z_dec, z_mul, z_div, z_mod, nI_clamp, z_lt, z_nlt, z_le, z_nle, z_ne, z_eq, z_in, not_true_eq_false, if_true, if_false, hs_at, hs_ne, hs_sort, hset_eq, vupp_eq, hs_over, List.length_set, vup_at, vup_ne, vup_over, vup_sort, mfs_len, n5_f, map_getD, List.length_map, gd_self, gd_ne, Nat.add_sub_cancel, s5, e12, e13]
      rw [ht.1]
      exact K
    · rw [if_neg (by decide), if_pos rfl]
      simp (disch := first | omega | (simp only [List.length_set]; omega)) only [g_110_0, g_110_1, g_110_4, g_110_5, g_110_6, g_110_9, g_110_11, g_110_12, g_110_16, g_110_17, g_110_20, g_110_21, g_110_22, g_110_25, g_110_28, g_110_31, g_110_32, g_110_35, g_110_38, g_110_39, g_110_40, g_110_68, g_110_69, g_110_72, g_110_75, g_110_76, g_110_77, g_110_78, g_110_79, g_110_82, g_110_85, g_110_86, g_110_87, g_110_88, g_110_89, g_110_92, g_110_95, g_110_96, g_110_97, gs_nx, db_inx, gs_ldi, gs_lda, gs_ldn, List.getElem?_cons_zero, List.getElem?_cons_succ, List.set_cons_zero, List.set_cons_succ, gx5, fx_int, fx_ref, fx_null, px5, gs_lx, gs_ax, sx5, ft_int, ft_ref, ft_b0, ft_b1, c1_int, c1_ref, List.length_cons, List.length_nil, Nat.reduceAdd, Nat.reduceLT, Nat.reduceLeDiff, true_and, and_true, true_or, or_true, not_false_eq_true, Option.toList_some, Option.toList_none, List.nil_append, List.singleton_append, List.cons_append, ↓reduceIte, Bool.and_self, eq_self, z_max, z_min, nI_add, z_sub, z_dec, z_mul, z_div, z_mod, nI_clamp, z_lt, z_nlt, z_le, z_nle, z_ne, z_eq, z_in, not_true_eq_false, if_true, if_false, hs_at, hs_ne, hs_sort, hset_eq, vupp_eq, hs_over, List.length_set, vup_at, vup_ne, vup_over, vup_sort, mfs_len, n5_f, map_getD, List.length_map, gd_self, gd_ne, Nat.add_sub_cancel, s5, e12, e14]
      rw [ht.2.1]
      exact K
    · rw [if_neg (by decide), if_neg (by decide)]
      simp (disch := first | omega | (simp only [List.length_set]; omega)) only [g_110_0, g_110_1, g_110_4, g_110_5, g_110_6, g_110_9, g_110_11, g_110_12, g_110_16, g_110_17, g_110_20, g_110_21, g_110_22, g_110_25, g_110_28, g_110_31, g_110_32, g_110_35, g_110_38, g_110_39, g_110_40, g_110_68, g_110_69, g_110_72, g_110_75, g_110_76, g_110_77, g_110_78, g_110_79, g_110_82, g_110_85, g_110_86, g_110_87, g_110_88, g_110_89, g_110_92, g_110_95, g_110_96, g_110_97, gs_nx, db_inx, gs_ldi, gs_lda, gs_ldn, List.getElem?_cons_zero, List.getElem?_cons_succ, List.set_cons_zero, List.set_cons_succ, gx5, fx_int, fx_ref, fx_null, px5, gs_lx, gs_ax, sx5, ft_int, ft_ref, ft_b0, ft_b1, c1_int, c1_ref, List.length_cons, List.length_nil, Nat.reduceAdd, Nat.reduceLT, Nat.reduceLeDiff, true_and, and_true, true_or, or_true, not_false_eq_true, Option.toList_some, Option.toList_none, List.nil_append, List.singleton_append, List.cons_append, ↓reduceIte, Bool.and_self, eq_self, z_max, z_min, nI_add, z_sub, z_dec, z_mul, z_div, z_mod, nI_clamp, z_lt, z_nlt, z_le, z_nle, z_ne, z_eq, z_in, not_true_eq_false, if_true, if_false, hs_at, hs_ne, hs_sort, hset_eq, vupp_eq, hs_over, List.length_set, vup_at, vup_ne, vup_over, vup_sort, mfs_len, n5_f, map_getD, List.length_map, gd_self, gd_ne, Nat.add_sub_cancel, s5, e12, e15]
      rw [ht.2.2]
      exact K
  · rw [if_neg (by rw [h1]; decide)] at K
    rcases hc with hc | ⟨hc, hc2⟩
    · simp (disch := first | omega | (simp only [List.length_set]; omega)) only [g_110_0, g_110_1, g_110_4, g_110_5, g_110_6, g_110_9, g_110_11, g_110_12, g_110_16, g_110_17, g_110_20, g_110_21, g_110_22, g_110_25, g_110_28, g_110_31, g_110_32, g_110_35, g_110_38, g_110_39, g_110_40, g_110_68, g_110_69, g_110_72, g_110_75, g_110_76, g_110_77, g_110_78, g_110_79, g_110_82, g_110_85, g_110_86, g_110_87, g_110_88, g_110_89, g_110_92, g_110_95, g_110_96, g_110_97, gs_nx, db_inx, gs_ldi, gs_lda, gs_ldn, List.getElem?_cons_zero, List.getElem?_cons_succ, List.set_cons_zero, List.set_cons_succ, gx5, fx_int, fx_ref, fx_null, px5, gs_lx, gs_ax, sx5, ft_int, ft_ref, ft_b0, ft_b1, c1_int, c1_ref, List.length_cons, List.length_nil, Nat.reduceAdd, Nat.reduceLT, Nat.reduceLeDiff, true_and, and_true, true_or, or_true, not_false_eq_true, Option.toList_some, Option.toList_none, List.nil_append, List.singleton_append, List.cons_append, ↓reduceIte, Bool.and_self, eq_self, z_max, z_min, nI_add, z_sub, z_dec, z_mul, z_div, z_mod, nI_clamp, z_lt, z_nlt, z_le, z_nle, z_ne, z_eq, z_in, not_true_eq_false, if_true, if_false, hs_at, hs_ne, hs_sort, hset_eq, vupp_eq, hs_over, List.length_set, vup_at, vup_ne, vup_over, vup_sort, mfs_len, n5_f, map_getD, List.length_map, gd_self, gd_ne, Nat.add_sub_cancel, s5, e12, hc]
      exact K
    · simp (disch := first | omega | (simp only [List.length_set]; omega)) only [g_110_0, g_110_1, g_110_4, g_110_5, g_110_6, g_110_9, g_110_11, g_110_12, g_110_16, g_110_17, g_110_20, g_110_21, g_110_22, g_110_25, g_110_28, g_110_31, g_110_32, g_110_35, g_110_38, g_110_39, g_110_40, g_110_68, g_110_69, g_110_72, g_110_75, g_110_76, g_110_77, g_110_78, g_110_79, g_110_82, g_110_85, g_110_86, g_110_87, g_110_88, g_110_89, g_110_92, g_110_95, g_110_96, g_110_97, gs_nx, db_inx, gs_ldi, gs_lda, gs_ldn, List.getElem?_cons_zero, List.getElem?_cons_succ, List.set_cons_zero, List.set_cons_succ, gx5, fx_int, fx_ref, fx_null, px5, gs_lx, gs_ax, sx5, ft_int, ft_ref, ft_b0, ft_b1, c1_int, c1_ref, List.length_cons, List.length_nil, Nat.reduceAdd, Nat.reduceLT, Nat.reduceLeDiff, true_and, and_true, true_or, or_true, not_false_eq_true, Option.toList_some, Option.toList_none, List.nil_append, List.singleton_append, List.cons_append, ↓reduceIte, Bool.and_self, eq_self, z_max, z_min, nI_add, z_sub, z_dec, z_mul, z_div, z_mod, nI_clamp, z_lt, z_nlt, z_le, z_nle, z_ne, z_eq, z_in, not_true_eq_false, if_true, if_false, hs_at, hs_ne, hs_sort, hset_eq, vupp_eq, hs_over, List.length_set, vup_at, vup_ne, vup_over, vup_sort, mfs_len, n5_f, map_getD, List.length_map, gd_self, gd_ne, Nat.add_sub_cancel, s5, e12, hc, hc2]
      exact K
theorem C111 {x : Int32} (A : CI h D C B N own fp) (K : P (some (.int (if x = nI 0 then adler (D.map nI) else if x = nI 1 then crc (D.map nI) else nI 0))) h) : db_Go 111 0 [.ref 5, .int x] [] h P := by
  obtain ⟨hl, l, r, a, b, h5, ⟨⟨d6, d7, l1, l2⟩, e2, e3, e4, e5⟩, _⟩ := CI_b A
  unfold tob at h5
  simp (disch := first | omega | (simp only [List.length_set]; omega)) only [g_111_0, g_111_28, g_111_29, g_111_35, g_111_36, g_111_37, g_111_43, g_111_44, g_111_45, gs_nx, db_inx, gs_ldi, gs_lda, gs_ldn, List.getElem?_cons_zero, List.getElem?_cons_succ, List.set_cons_zero, List.set_cons_succ, gx5, fx_int, fx_ref, fx_null, px5, gs_lx, gs_ax, sx5, ft_int, ft_ref, ft_b0, ft_b1, c1_int, c1_ref, List.length_cons, List.length_nil, Nat.reduceAdd, Nat.reduceLT, Nat.reduceLeDiff, true_and, and_true, true_or, or_true, not_false_eq_true, Option.toList_some, Option.toList_none, List.nil_append, List.singleton_append, List.cons_append, ↓reduceIte, Bool.and_self, eq_self, z_max, z_min, nI_add, z_sub, z_dec, z_mul, z_div, z_mod, nI_clamp, z_lt, z_nlt, z_le, z_nle, z_ne, z_eq, z_in, not_true_eq_false, if_true, if_false, hs_at, hs_ne, hs_sort, hset_eq, vupp_eq, hs_over, List.length_set, vup_at, vup_ne, vup_over, vup_sort, mfs_len, n5_f, map_getD, List.length_map, gd_self, gd_ne, Nat.add_sub_cancel]
  rw [g111, lsw2]
  by_cases q : x = nI 0
  · rw [if_pos q] at K ⊢
    simp (disch := first | omega | (simp only [List.length_set]; omega)) only [g_111_0, g_111_28, g_111_29, g_111_35, g_111_36, g_111_37, g_111_43, g_111_44, g_111_45, gs_nx, db_inx, gs_ldi, gs_lda, gs_ldn, List.getElem?_cons_zero, List.getElem?_cons_succ, List.set_cons_zero, List.set_cons_succ, gx5, fx_int, fx_ref, fx_null, px5, gs_lx, gs_ax, sx5, ft_int, ft_ref, ft_b0, ft_b1, c1_int, c1_ref, List.length_cons, List.length_nil, Nat.reduceAdd, Nat.reduceLT, Nat.reduceLeDiff, true_and, and_true, true_or, or_true, not_false_eq_true, Option.toList_some, Option.toList_none, List.nil_append, List.singleton_append, List.cons_append, ↓reduceIte, Bool.and_self, eq_self, z_max, z_min, nI_add, z_sub, z_dec, z_mul, z_div, z_mod, nI_clamp, z_lt, z_nlt, z_le, z_nle, z_ne, z_eq, z_in, not_true_eq_false, if_true, if_false, hs_at, hs_ne, hs_sort, hset_eq, vupp_eq, hs_over, List.length_set, vup_at, vup_ne, vup_over, vup_sort, mfs_len, n5_f, map_getD, List.length_map, gd_self, gd_ne, Nat.add_sub_cancel, h5]
    refine c_111_32 (by simp) (n5_ge (by decide)) d6 ?_
    refine m73 (n5_ge (by decide)) d6 d7 (by omega) (by omega) ?_
    rw [e2]
    simp (disch := first | omega | (simp only [List.length_set]; omega)) only [g_111_0, g_111_28, g_111_29, g_111_35, g_111_36, g_111_37, g_111_43, g_111_44, g_111_45, gs_nx, db_inx, gs_ldi, gs_lda, gs_ldn, List.getElem?_cons_zero, List.getElem?_cons_succ, List.set_cons_zero, List.set_cons_succ, gx5, fx_int, fx_ref, fx_null, px5, gs_lx, gs_ax, sx5, ft_int, ft_ref, ft_b0, ft_b1, c1_int, c1_ref, List.length_cons, List.length_nil, Nat.reduceAdd, Nat.reduceLT, Nat.reduceLeDiff, true_and, and_true, true_or, or_true, not_false_eq_true, Option.toList_some, Option.toList_none, List.nil_append, List.singleton_append, List.cons_append, ↓reduceIte, Bool.and_self, eq_self, z_max, z_min, nI_add, z_sub, z_dec, z_mul, z_div, z_mod, nI_clamp, z_lt, z_nlt, z_le, z_nle, z_ne, z_eq, z_in, not_true_eq_false, if_true, if_false, hs_at, hs_ne, hs_sort, hset_eq, vupp_eq, hs_over, List.length_set, vup_at, vup_ne, vup_over, vup_sort, mfs_len, n5_f, map_getD, List.length_map, gd_self, gd_ne, Nat.add_sub_cancel]
    exact K
  · rw [if_neg q] at K ⊢
    by_cases q2 : x = nI 1
    · rw [if_pos q2] at K ⊢
      simp (disch := first | omega | (simp only [List.length_set]; omega)) only [g_111_0, g_111_28, g_111_29, g_111_35, g_111_36, g_111_37, g_111_43, g_111_44, g_111_45, gs_nx, db_inx, gs_ldi, gs_lda, gs_ldn, List.getElem?_cons_zero, List.getElem?_cons_succ, List.set_cons_zero, List.set_cons_succ, gx5, fx_int, fx_ref, fx_null, px5, gs_lx, gs_ax, sx5, ft_int, ft_ref, ft_b0, ft_b1, c1_int, c1_ref, List.length_cons, List.length_nil, Nat.reduceAdd, Nat.reduceLT, Nat.reduceLeDiff, true_and, and_true, true_or, or_true, not_false_eq_true, Option.toList_some, Option.toList_none, List.nil_append, List.singleton_append, List.cons_append, ↓reduceIte, Bool.and_self, eq_self, z_max, z_min, nI_add, z_sub, z_dec, z_mul, z_div, z_mod, nI_clamp, z_lt, z_nlt, z_le, z_nle, z_ne, z_eq, z_in, not_true_eq_false, if_true, if_false, hs_at, hs_ne, hs_sort, hset_eq, vupp_eq, hs_over, List.length_set, vup_at, vup_ne, vup_over, vup_sort, mfs_len, n5_f, map_getD, List.length_map, gd_self, gd_ne, Nat.add_sub_cancel, h5]
      refine c_111_40 (by simp) (n5_ge (by decide)) d6 ?_
      refine m75 (n5_ge (by decide)) d6 d7 (by omega) (by omega) ?_
      rw [e2]
      simp (disch := first | omega | (simp only [List.length_set]; omega)) only [g_111_0, g_111_28, g_111_29, g_111_35, g_111_36, g_111_37, g_111_43, g_111_44, g_111_45, gs_nx, db_inx, gs_ldi, gs_lda, gs_ldn, List.getElem?_cons_zero, List.getElem?_cons_succ, List.set_cons_zero, List.set_cons_succ, gx5, fx_int, fx_ref, fx_null, px5, gs_lx, gs_ax, sx5, ft_int, ft_ref, ft_b0, ft_b1, c1_int, c1_ref, List.length_cons, List.length_nil, Nat.reduceAdd, Nat.reduceLT, Nat.reduceLeDiff, true_and, and_true, true_or, or_true, not_false_eq_true, Option.toList_some, Option.toList_none, List.nil_append, List.singleton_append, List.cons_append, ↓reduceIte, Bool.and_self, eq_self, z_max, z_min, nI_add, z_sub, z_dec, z_mul, z_div, z_mod, nI_clamp, z_lt, z_nlt, z_le, z_nle, z_ne, z_eq, z_in, not_true_eq_false, if_true, if_false, hs_at, hs_ne, hs_sort, hset_eq, vupp_eq, hs_over, List.length_set, vup_at, vup_ne, vup_over, vup_sort, mfs_len, n5_f, map_getD, List.length_map, gd_self, gd_ne, Nat.add_sub_cancel]
      exact K
    · rw [if_neg q2] at K ⊢
      simp (disch := first | omega | (simp only [List.length_set]; omega)) only [g_111_0, g_111_28, g_111_29, g_111_35, g_111_36, g_111_37, g_111_43, g_111_44, g_111_45, gs_nx, db_inx, gs_ldi, gs_lda, gs_ldn, List.getElem?_cons_zero, List.getElem?_cons_succ, List.set_cons_zero, List.set_cons_succ, gx5, fx_int, fx_ref, fx_null, px5, gs_lx, gs_ax, sx5, ft_int, ft_ref, ft_b0, ft_b1, c1_int, c1_ref, List.length_cons, List.length_nil, Nat.reduceAdd, Nat.reduceLT, Nat.reduceLeDiff, true_and, and_true, true_or, or_true, not_false_eq_true, Option.toList_some, Option.toList_none, List.nil_append, List.singleton_append, List.cons_append, ↓reduceIte, Bool.and_self, eq_self, z_max, z_min, nI_add, z_sub, z_dec, z_mul, z_div, z_mod, nI_clamp, z_lt, z_nlt, z_le, z_nle, z_ne, z_eq, z_in, not_true_eq_false, if_true, if_false, hs_at, hs_ne, hs_sort, hset_eq, vupp_eq, hs_over, List.length_set, vup_at, vup_ne, vup_over, vup_sort, mfs_len, n5_f, map_getD, List.length_map, gd_self, gd_ne, Nat.add_sub_cancel]
      exact K
/-- widthsOf -/
theorem g108 {L S : List Value} {x : Int32} : db_Go 108 1 L (.int x :: S) h P ↔ db_Go 108 (db_tsw x 0 [28, 33, 38] 43) L S h P := g_108_1
theorem tsw_3 {x : Int32} {t u w d : Nat} : db_tsw x 0 [t, u, w] d = if x = nI 0 then t else if x = nI 1 then u else if x = nI 2 then w else d := by
  show (if x = Int32.ofInt 0 then t else if x = Int32.ofInt 1 then u else if x = Int32.ofInt 2 then w else d) = _
  rw [show Int32.ofInt 0 = nI 0 by decide +kernel, show Int32.ofInt 1 = nI 1 by decide +kernel, show Int32.ofInt 2 = nI 2 by decide +kernel]
theorem g108n {L : List Value} : db_Go 108 44 L [.null] h P ↔ P (some .null) h := db_go (ai := (.areturn, 1, [])) rfl
theorem m108 {a fc m : Nat} {b : Bool} {x : Int32} (ha : 5 ≤ a) (hL : h[a]? = some (lgO a fc m b)) (k0 : x = nI 0 → P (some (.ref (a + 2))) h) (k1 : x = nI 1 → P (some (.ref (a + 3))) h) (k2 : x = nI 2 → P (some (.ref (a + 4))) h) (k3 : ¬ x = nI 0 → ¬ x = nI 1 → ¬ x = nI 2 → P (some .null) h) : db_Go 108 0 [.ref a, .int x] [] h P := by
  unfold lgO at hL
  simp (disch := first | omega | (simp only [List.length_set]; omega)) only [g_108_0, g_108_28, g_108_29, g_108_32, g_108_33, g_108_34, g_108_37, g_108_38, g_108_39, g_108_42, g_108_43, g_108_44, gs_nx, db_inx, gs_ldi, gs_lda, gs_ldn, List.getElem?_cons_zero, List.getElem?_cons_succ, List.set_cons_zero, List.set_cons_succ, gx5, fx_int, fx_ref, fx_null, px5, gs_lx, gs_ax, sx5, ft_int, ft_ref, ft_b0, ft_b1, c1_int, c1_ref, List.length_cons, List.length_nil, Nat.reduceAdd, Nat.reduceLT, Nat.reduceLeDiff, true_and, and_true, true_or, or_true, not_false_eq_true, Option.toList_some, Option.toList_none, List.nil_append, List.singleton_append, List.cons_append, ↓reduceIte, Bool.and_self, eq_self, z_max, z_min, nI_add, z_sub, z_dec, z_mul, z_div, z_mod, nI_clamp, z_lt, z_nlt, z_le, z_nle, z_ne, z_eq, z_in, not_true_eq_false, if_true, if_false, hs_at, hs_ne, hs_sort, hset_eq, vupp_eq, hs_over, List.length_set, vup_at, vup_ne, vup_over, vup_sort, mfs_len, n5_f, map_getD, List.length_map, gd_self, gd_ne, Nat.add_sub_cancel]
  rw [g108, tsw_3]
  by_cases q0 : x = nI 0
  · rw [if_pos q0]
    simp (disch := first | omega | (simp only [List.length_set]; omega)) only [g_108_0, g_108_28, g_108_29, g_108_32, g_108_33, g_108_34, g_108_37, g_108_38, g_108_39, g_108_42, g_108_43, g_108_44, gs_nx, db_inx, gs_ldi, gs_lda, gs_ldn, List.getElem?_cons_zero, List.getElem?_cons_succ, List.set_cons_zero, List.set_cons_succ, gx5, fx_int, fx_ref, fx_null, px5, gs_lx, gs_ax, sx5, ft_int, ft_ref, ft_b0, ft_b1, c1_int, c1_ref, List.length_cons, List.length_nil, Nat.reduceAdd, Nat.reduceLT, Nat.reduceLeDiff, true_and, and_true, true_or, or_true, not_false_eq_true, Option.toList_some, Option.toList_none, List.nil_append, List.singleton_append, List.cons_append, ↓reduceIte, Bool.and_self, eq_self, z_max, z_min, nI_add, z_sub, z_dec, z_mul, z_div, z_mod, nI_clamp, z_lt, z_nlt, z_le, z_nle, z_ne, z_eq, z_in, not_true_eq_false, if_true, if_false, hs_at, hs_ne, hs_sort, hset_eq, vupp_eq, hs_over, List.length_set, vup_at, vup_ne, vup_over, vup_sort, mfs_len, n5_f, map_getD, List.length_map, gd_self, gd_ne, Nat.add_sub_cancel, hL]
    exact k0 q0
  · rw [if_neg q0]
    by_cases q1 : x = nI 1
    · rw [if_pos q1]
      simp (disch := first | omega | (simp only [List.length_set]; omega)) only [g_108_0, g_108_28, g_108_29, g_108_32, g_108_33, g_108_34, g_108_37, g_108_38, g_108_39, g_108_42, g_108_43, g_108_44, gs_nx, db_inx, gs_ldi, gs_lda, gs_ldn, List.getElem?_cons_zero, List.getElem?_cons_succ, List.set_cons_zero, List.set_cons_succ, gx5, fx_int, fx_ref, fx_null, px5, gs_lx, gs_ax, sx5, ft_int, ft_ref, ft_b0, ft_b1, c1_int, c1_ref, List.length_cons, List.length_nil, Nat.reduceAdd, Nat.reduceLT, Nat.reduceLeDiff, true_and, and_true, true_or, or_true, not_false_eq_true, Option.toList_some, Option.toList_none, List.nil_append, List.singleton_append, List.cons_append, ↓reduceIte, Bool.and_self, eq_self, z_max, z_min, nI_add, z_sub, z_dec, z_mul, z_div, z_mod, nI_clamp, z_lt, z_nlt, z_le, z_nle, z_ne, z_eq, z_in, not_true_eq_false, if_true, if_false, hs_at, hs_ne, hs_sort, hset_eq, vupp_eq, hs_over, List.length_set, vup_at, vup_ne, vup_over, vup_sort, mfs_len, n5_f, map_getD, List.length_map, gd_self, gd_ne, Nat.add_sub_cancel, hL]
      exact k1 q1
    · rw [if_neg q1]
      by_cases q2 : x = nI 2
      · rw [if_pos q2]
        simp (disch := first | omega | (simp only [List.length_set]; omega)) only [g_108_0, g_108_28, g_108_29, g_108_32, g_108_33, g_108_34, g_108_37, g_108_38, g_108_39, g_108_42, g_108_43, g_108_44, gs_nx, db_inx, gs_ldi, gs_lda, gs_ldn, List.getElem?_cons_zero, List.getElem?_cons_succ, List.set_cons_zero, List.set_cons_succ, gx5, fx_int, fx_ref, fx_null, px5, gs_lx, gs_ax, sx5, ft_int, ft_ref, ft_b0, ft_b1, c1_int, c1_ref, List.length_cons, List.length_nil, Nat.reduceAdd, Nat.reduceLT, Nat.reduceLeDiff, true_and, and_true, true_or, or_true, not_false_eq_true, Option.toList_some, Option.toList_none, List.nil_append, List.singleton_append, List.cons_append, ↓reduceIte, Bool.and_self, eq_self, z_max, z_min, nI_add, z_sub, z_dec, z_mul, z_div, z_mod, nI_clamp, z_lt, z_nlt, z_le, z_nle, z_ne, z_eq, z_in, not_true_eq_false, if_true, if_false, hs_at, hs_ne, hs_sort, hset_eq, vupp_eq, hs_over, List.length_set, vup_at, vup_ne, vup_over, vup_sort, mfs_len, n5_f, map_getD, List.length_map, gd_self, gd_ne, Nat.add_sub_cancel, hL]
        exact k2 q2
      · rw [if_neg q2]
        rw [g_108_43, g108n]
        exact k3 q0 q1 q2
theorem g107s {S : List Value} {x y : Int32} : db_Go 107 8 [.ref 5, .int x, .int y, .retAddr 0] (.null :: S) h P ↔ db_Go 107 9 [.ref 5, .int x, .int y, .null] S h P := db_go (ai := (.astore_n 3, 1, [])) rfl
theorem g107l {S : List Value} {x y : Int32} : db_Go 107 9 [.ref 5, .int x, .int y, .null] S h P ↔ db_Go 107 10 [.ref 5, .int x, .int y, .null] (.null :: S) h P := db_go (ai := (.aload_n 3, 1, [])) rfl
theorem g107n {L S : List Value} : db_Go 107 10 L (.null :: S) h P ↔ db_Go 107 23 L S h P := db_go (ai := (.ifnull 13, 3, [23])) rfl
theorem g107r {L S : List Value} {o : Nat} : db_Go 107 10 L (.ref o :: S) h P ↔ db_Go 107 13 L S h P := db_go (ai := (.ifnull 13, 3, [23])) rfl
theorem C107x {x y : Int32} (hx : ¬ x = nI 0 ∧ ¬ x = nI 1 ∧ ¬ x = nI 2) (A : CI h D C B N own fp) (K : P (some (.int (-2))) h) : db_Go 107 0 [.ref 5, .int x, .int y, .retAddr 0] [] h P := by
  obtain ⟨hl, a, b, r, fca, h5, ha1, ha2, c1, c2', c3'⟩ := CI_L A
  unfold tob at h5
  simp (disch := first | omega | (simp only [List.length_set]; omega)) only [g_107_0, g_107_1, g_107_4, g_107_8, g_107_9, g_107_13, g_107_14, g_107_17, g_107_18, g_107_19, g_107_20, g_107_23, g_107_25, g_107_26, g_107_27, g_107_30, g_107_33, g_107_36, g_107_37, g_107_38, g_107_39, g_107_42, g_107_43, gs_nx, db_inx, gs_ldi, gs_lda, gs_ldn, List.getElem?_cons_zero, List.getElem?_cons_succ, List.set_cons_zero, List.set_cons_succ, gx5, fx_int, fx_ref, fx_null, px5, gs_lx, gs_ax, sx5, ft_int, ft_ref, ft_b0, ft_b1, c1_int, c1_ref, List.length_cons, List.length_nil, Nat.reduceAdd, Nat.reduceLT, Nat.reduceLeDiff, true_and, and_true, true_or, or_true, not_false_eq_true, Option.toList_some, Option.toList_none, List.nil_append, List.singleton_append, List.cons_append, ↓reduceIte, Bool.and_self, eq_self, z_max, z_min, nI_add, z_sub, z_dec, z_mul, z_div, z_mod, nI_clamp, z_lt, z_nlt, z_le, z_nle, z_ne, z_eq, z_in, not_true_eq_false, if_true, if_false, hs_at, hs_ne, hs_sort, hset_eq, vupp_eq, hs_over, List.length_set, vup_at, vup_ne, vup_over, vup_sort, mfs_len, n5_f, map_getD, List.length_map, gd_self, gd_ne, Nat.add_sub_cancel, h5]
  refine c_107_5 (by simp) (n5_ge (by omega)) c1 ?_
  refine m108 (by omega) c1 (fun z => absurd z hx.1) (fun z => absurd z hx.2.1) (fun z => absurd z hx.2.2) (fun _ _ _ => ?_)
  show db_Go 107 8 [.ref 5, .int x, .int y, .retAddr 0] [.null] h P
  rw [g107s, g107l, g107n]
  simp (disch := first | omega | (simp only [List.length_set]; omega)) only [g_107_0, g_107_1, g_107_4, g_107_8, g_107_9, g_107_13, g_107_14, g_107_17, g_107_18, g_107_19, g_107_20, g_107_23, g_107_25, g_107_26, g_107_27, g_107_30, g_107_33, g_107_36, g_107_37, g_107_38, g_107_39, g_107_42, g_107_43, gs_nx, db_inx, gs_ldi, gs_lda, gs_ldn, List.getElem?_cons_zero, List.getElem?_cons_succ, List.set_cons_zero, List.set_cons_succ, gx5, fx_int, fx_ref, fx_null, px5, gs_lx, gs_ax, sx5, ft_int, ft_ref, ft_b0, ft_b1, c1_int, c1_ref, List.length_cons, List.length_nil, Nat.reduceAdd, Nat.reduceLT, Nat.reduceLeDiff, true_and, and_true, true_or, or_true, not_false_eq_true, Option.toList_some, Option.toList_none, List.nil_append, List.singleton_append, List.cons_append, ↓reduceIte, Bool.and_self, eq_self, z_max, z_min, nI_add, z_sub, z_dec, z_mul, z_div, z_mod, nI_clamp, z_lt, z_nlt, z_le, z_nle, z_ne, z_eq, z_in, not_true_eq_false, if_true, if_false, hs_at, hs_ne, hs_sort, hset_eq, vupp_eq, hs_over, List.length_set, vup_at, vup_ne, vup_over, vup_sort, mfs_len, n5_f, map_getD, List.length_map, gd_self, gd_ne, Nat.add_sub_cancel]
  exact K
/-- behind widthsOf -/
theorem m107 {a o n : Nat} {x y r0 : Int32} {b0 : Nat} {w : Bool} {c : List Int32} {fc m : Nat} (ha : 5 ≤ a) (h5 : h[5]? = some (tob a b0 r0 fp)) (hL : h[a]? = some (lgO a fc m w)) (ho : h[o]? = some (.inl (0, c))) (hc : c.length = n) (hn : n ≤ 286) (K : P (some (.int (if db_in y n = true then (if w = true then c.getD y.toNatClampNeg 0 else -1) else -2))) h) : db_Go 107 8 [.ref 5, .int x, .int y, .retAddr 0] [.ref o] h P := by
  unfold tob at h5
  unfold lgO at hL
  subst hc
  simp (disch := first | omega | (simp only [List.length_set]; omega)) only [g_107_0, g_107_1, g_107_4, g_107_8, g_107_9, g_107_13, g_107_14, g_107_17, g_107_18, g_107_19, g_107_20, g_107_23, g_107_25, g_107_26, g_107_27, g_107_30, g_107_33, g_107_36, g_107_37, g_107_38, g_107_39, g_107_42, g_107_43, gs_nx, db_inx, gs_ldi, gs_lda, gs_ldn, List.getElem?_cons_zero, List.getElem?_cons_succ, List.set_cons_zero, List.set_cons_succ, gx5, fx_int, fx_ref, fx_null, px5, gs_lx, gs_ax, sx5, ft_int, ft_ref, ft_b0, ft_b1, c1_int, c1_ref, List.length_cons, List.length_nil, Nat.reduceAdd, Nat.reduceLT, Nat.reduceLeDiff, true_and, and_true, true_or, or_true, not_false_eq_true, Option.toList_some, Option.toList_none, List.nil_append, List.singleton_append, List.cons_append, ↓reduceIte, Bool.and_self, eq_self, z_max, z_min, nI_add, z_sub, z_dec, z_mul, z_div, z_mod, nI_clamp, z_lt, z_nlt, z_le, z_nle, z_ne, z_eq, z_in, not_true_eq_false, if_true, if_false, hs_at, hs_ne, hs_sort, hset_eq, vupp_eq, hs_over, List.length_set, vup_at, vup_ne, vup_over, vup_sort, mfs_len, n5_f, map_getD, List.length_map, gd_self, gd_ne, Nat.add_sub_cancel]
  rw [g107r]
  rcases in_or y (n := c.length) (by omega) with ⟨h1, j, hj, e⟩ | ⟨h1, hc⟩
  · rw [if_pos h1] at K
    subst e
    rw [nI_clamp (by omega)] at K
    cases w with
    | false =>
      rw [show bI false = nI 0 from rfl] at hL
      rw [if_neg (by decide)] at K
      simp (disch := first | omega | (simp only [List.length_set]; omega)) only [g_107_0, g_107_1, g_107_4, g_107_8, g_107_9, g_107_13, g_107_14, g_107_17, g_107_18, g_107_19, g_107_20, g_107_23, g_107_25, g_107_26, g_107_27, g_107_30, g_107_33, g_107_36, g_107_37, g_107_38, g_107_39, g_107_42, g_107_43, gs_nx, db_inx, gs_ldi, gs_lda, gs_ldn, List.getElem?_cons_zero, List.getElem?_cons_succ, List.set_cons_zero, List.set_cons_succ, gx5, fx_int, fx_ref, fx_null, px5, gs_lx, gs_ax, sx5, ft_int, ft_ref, ft_b0, ft_b1, c1_int, c1_ref, List.length_cons, List.length_nil, Nat.reduceAdd, Nat.reduceLT, Nat.reduceLeDiff, true_and, and_true, true_or, or_true, not_false_eq_true, Option.toList_some, Option.toList_none, List.nil_append, List.singleton_append, List.cons_append, ↓reduceIte, Bool.and_self, eq_self, z_max, z_min, nI_add, z_sub, z_dec, z_mul, z_div, z_mod, nI_clamp, z_lt, z_nlt, z_le, z_nle, z_ne, z_eq, z_in, not_true_eq_false, if_true, if_false, hs_at, hs_ne, hs_sort, hset_eq, vupp_eq, hs_over, List.length_set, vup_at, vup_ne, vup_over, vup_sort, mfs_len, n5_f, map_getD, List.length_map, gd_self, gd_ne, Nat.add_sub_cancel, ho, h5, hL]
      exact K
    | true =>
      rw [show bI true = nI 1 from rfl] at hL
      rw [if_pos rfl] at K
      simp (disch := first | omega | (simp only [List.length_set]; omega)) only [g_107_0, g_107_1, g_107_4, g_107_8, g_107_9, g_107_13, g_107_14, g_107_17, g_107_18, g_107_19, g_107_20, g_107_23, g_107_25, g_107_26, g_107_27, g_107_30, g_107_33, g_107_36, g_107_37, g_107_38, g_107_39, g_107_42, g_107_43, gs_nx, db_inx, gs_ldi, gs_lda, gs_ldn, List.getElem?_cons_zero, List.getElem?_cons_succ, List.set_cons_zero, List.set_cons_succ, gx5, fx_int, fx_ref, fx_null, px5, gs_lx, gs_ax, sx5, ft_int, ft_ref, ft_b0, ft_b1, c1_int, c1_ref, List.length_cons, List.length_nil, Nat.reduceAdd, Nat.reduceLT, Nat.reduceLeDiff, true_and, and_true, true_or, or_true, not_false_eq_true, Option.toList_some, Option.toList_none, List.nil_append, List.singleton_append, List.cons_append, ↓reduceIte, Bool.and_self, eq_self, z_max, z_min, nI_add, z_sub, z_dec, z_mul, z_div, z_mod, nI_clamp, z_lt, z_nlt, z_le, z_nle, z_ne, z_eq, z_in, not_true_eq_false, if_true, if_false, hs_at, hs_ne, hs_sort, hset_eq, vupp_eq, hs_over, List.length_set, vup_at, vup_ne, vup_over, vup_sort, mfs_len, n5_f, map_getD, List.length_map, gd_self, gd_ne, Nat.add_sub_cancel, ho, h5, hL]
      exact K
  · rw [if_neg (by rw [h1]; decide)] at K
    rcases hc with hc | ⟨hc, hc2⟩
    · simp (disch := first | omega | (simp only [List.length_set]; omega)) only [g_107_0, g_107_1, g_107_4, g_107_8, g_107_9, g_107_13, g_107_14, g_107_17, g_107_18, g_107_19, g_107_20, g_107_23, g_107_25, g_107_26, g_107_27, g_107_30, g_107_33, g_107_36, g_107_37, g_107_38, g_107_39, g_107_42, g_107_43, gs_nx, db_inx, gs_ldi, gs_lda, gs_ldn, List.getElem?_cons_zero, List.getElem?_cons_succ, List.set_cons_zero, List.set_cons_succ, gx5, fx_int, fx_ref, fx_null, px5, gs_lx, gs_ax, sx5, ft_int, ft_ref, ft_b0, ft_b1, c1_int, c1_ref, List.length_cons, List.length_nil, Nat.reduceAdd, Nat.reduceLT, Nat.reduceLeDiff, true_and, and_true, true_or, or_true, not_false_eq_true, Option.toList_some, Option.toList_none, List.nil_append, List.singleton_append, List.cons_append, ↓reduceIte, Bool.and_self, eq_self, z_max, z_min, nI_add, z_sub, z_dec, z_mul, z_div, z_mod, nI_clamp, z_lt, z_nlt, z_le, z_nle, z_ne, z_eq, z_in, not_true_eq_false, if_true, if_false, hs_at, hs_ne, hs_sort, hset_eq, vupp_eq, hs_over, List.length_set, vup_at, vup_ne, vup_over, vup_sort, mfs_len, n5_f, map_getD, List.length_map, gd_self, gd_ne, Nat.add_sub_cancel, ho, hc]
      exact K
    · simp (disch := first | omega | (simp only [List.length_set]; omega)) only [g_107_0, g_107_1, g_107_4, g_107_8, g_107_9, g_107_13, g_107_14, g_107_17, g_107_18, g_107_19, g_107_20, g_107_23, g_107_25, g_107_26, g_107_27, g_107_30, g_107_33, g_107_36, g_107_37, g_107_38, g_107_39, g_107_42, g_107_43, gs_nx, db_inx, gs_ldi, gs_lda, gs_ldn, List.getElem?_cons_zero, List.getElem?_cons_succ, List.set_cons_zero, List.set_cons_succ, gx5, fx_int, fx_ref, fx_null, px5, gs_lx, gs_ax, sx5, ft_int, ft_ref, ft_b0, ft_b1, c1_int, c1_ref, List.length_cons, List.length_nil, Nat.reduceAdd, Nat.reduceLT, Nat.reduceLeDiff, true_and, and_true, true_or, or_true, not_false_eq_true, Option.toList_some, Option.toList_none, List.nil_append, List.singleton_append, List.cons_append, ↓reduceIte, Bool.and_self, eq_self, z_max, z_min, nI_add, z_sub, z_dec, z_mul, z_div, z_mod, nI_clamp, z_lt, z_nlt, z_le, z_nle, z_ne, z_eq, z_in, not_true_eq_false, if_true, if_false, hs_at, hs_ne, hs_sort, hset_eq, vupp_eq, hs_over, List.length_set, vup_at, vup_ne, vup_over, vup_sort, mfs_len, n5_f, map_getD, List.length_map, gd_self, gd_ne, Nat.add_sub_cancel, ho, hc]
      rw [if_neg (Int32.not_lt.mpr hc2)]
      exact K
/-- the answer of width -/
def wdA (own : Option Ow) (w : Nat) (y : Int32) : Int32 := if db_in y (owN w) = true then (match own with
  | some x => nI ((owF x w).getD y.toNatClampNeg 0)
  | none => -1) else -2
theorem gdm {c : List Nat} {j : Nat} : (c.map nI).getD j 0 = nI (c.getD j 0) := by
  rw [List.getD_eq_getElem?_getD, List.getElem?_map, List.getD_eq_getElem?_getD]
  cases c[j]? <;> rfl
theorem C107 {w : Nat} {y : Int32} (hw : w < 3) (A : CI h D C B N own fp) (K : P (some (.int (wdA own w y))) h) : db_Go 107 0 [.ref 5, .int (nI w), .int y, .retAddr 0] [] h P := by
  obtain ⟨hl, a, b, r, fca, h5, ha1, ha2, c1, c2', ⟨u0, l0⟩, ⟨u1, l1⟩, ⟨u2, l2⟩, c4'⟩ := CI_L A
  have h5' := h5
  unfold tob at h5'
  have fin : ∀ (c : List Int32) (n : Nat), owN w = n → (∀ x, own = some x → c = (owF x w).map nI) → P (some (.int (if db_in y n = true then (if own.isSome = true then c.getD y.toNatClampNeg 0 else -1) else -2))) h := fun c n en ec => by
    unfold wdA at K
    rw [en] at K
    cases own with
    | none => exact K
    | some x =>
      rw [ec x rfl, gdm]
      exact K
  simp (disch := first | omega | (simp only [List.length_set]; omega)) only [g_107_0, g_107_1, g_107_4, g_107_8, g_107_9, g_107_13, g_107_14, g_107_17, g_107_18, g_107_19, g_107_20, g_107_23, g_107_25, g_107_26, g_107_27, g_107_30, g_107_33, g_107_36, g_107_37, g_107_38, g_107_39, g_107_42, g_107_43, gs_nx, db_inx, gs_ldi, gs_lda, gs_ldn, List.getElem?_cons_zero, List.getElem?_cons_succ, List.set_cons_zero, List.set_cons_succ, gx5, fx_int, fx_ref, fx_null, px5, gs_lx, gs_ax, sx5, ft_int, ft_ref, ft_b0, ft_b1, c1_int, c1_ref, List.length_cons, List.length_nil, Nat.reduceAdd, Nat.reduceLT, Nat.reduceLeDiff, true_and, and_true, true_or, or_true, not_false_eq_true, Option.toList_some, Option.toList_none, List.nil_append, List.singleton_append, List.cons_append, ↓reduceIte, Bool.and_self, eq_self, z_max, z_min, nI_add, z_sub, z_dec, z_mul, z_div, z_mod, nI_clamp, z_lt, z_nlt, z_le, z_nle, z_ne, z_eq, z_in, not_true_eq_false, if_true, if_false, hs_at, hs_ne, hs_sort, hset_eq, vupp_eq, hs_over, List.length_set, vup_at, vup_ne, vup_over, vup_sort, mfs_len, n5_f, map_getD, List.length_map, gd_self, gd_ne, Nat.add_sub_cancel, h5']
  refine c_107_5 (by simp) (n5_ge (by omega)) c1 ?_
  refine m108 (by omega) c1 (fun z => ?_) (fun z => ?_) (fun z => ?_) (fun z0 z1 z2 => ?_)
  · have e : w = 0 := by have := congrArg Int32.toNatClampNeg z; rwa [nI_clamp (by omega), nI_clamp (by omega)] at this
    refine m107 (by omega) h5 c1 l0.1 l0.2 (by decide) (fin u0 286 (by rw [e]; rfl) (fun x hx => ?_))
    have := (c4' x hx).1
    rw [l0.1] at this
    rw [e]
    simpa [owF] using this
  · have e : w = 1 := by have := congrArg Int32.toNatClampNeg z; rwa [nI_clamp (by omega), nI_clamp (by omega)] at this
    refine m107 (by omega) h5 c1 l1.1 l1.2 (by decide) (fin u1 30 (by rw [e]; rfl) (fun x hx => ?_))
    have := (c4' x hx).2.1
    rw [l1.1] at this
    rw [e]
    simpa [owF] using this
  · have e : w = 2 := by have := congrArg Int32.toNatClampNeg z; rwa [nI_clamp (by omega), nI_clamp (by omega)] at this
    refine m107 (by omega) h5 c1 l2.1 l2.2 (by decide) (fin u2 19 (by rw [e]; rfl) (fun x hx => ?_))
    have := (c4' x hx).2.2
    rw [l2.1] at this
    rw [e]
    simpa [owF] using this
  · exfalso
    have hw2 : w = 0 ∨ w = 1 ∨ w = 2 := by omega
    rcases hw2 with e | e | e
    · exact z0 (by rw [e])
    · exact z1 (by rw [e])
    · exact z2 (by rw [e])
end COPS2
