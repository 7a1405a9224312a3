/-! the class's Opener: readSteps, OWN CODES that are told -/
section CW
variable {P : Option Value → db_H → Prop} {B : List Bool}
theorem m90_loop {o1 o2 : Nat} {ws ds : List Nat} (ho1 : 76 ≤ o1 ∧ o1 + 7 < 117) (ho2 : 76 ≤ o2 ∧ o2 + 7 < 117) : ∀ (d i : Nat) (x : List Nat × Rd) (h : db_H) (x4 : Value), i + d = 301 → cX h B x → cT h → cdW h o1 ws → cdW h o2 ds → (∀ h2, Fr FX h h2 → cX h2 B (spF B ws ds d x) → P none h2) → db_Go 90 2 [.ref 71, .ref o1, .ref o2, .int (nI i), x4] [] h P := by
  have neg : (-1 : Int32) < nI 0 := by decide +kernel
  have neg2 : (-1 : Int32) < nI 257 := by decide +kernel
  have neg3 : ((-1 : Int32) = nI 256) = False := eq_false (by decide +kernel)
  intro d
  induction d with
  | zero =>
    intro i x h x4 hi A hT C1 C2 K
    rw [spF] at K
    rw [g_90_2]
    simp (disch := first | omega | (simp only [List.length_set]; omega)) only [g_90_0, g_90_1, g_90_3, g_90_6, g_90_9, g_90_10, g_90_13, g_90_16, g_90_19, g_90_20, g_90_23, g_90_27, g_90_29, g_90_31, g_90_34, g_90_37, g_90_38, g_90_40, g_90_43, g_90_45, g_90_48, g_90_51, g_90_52, g_90_57, g_90_60, g_90_62, g_90_65, g_90_68, g_90_69, g_90_71, g_90_74, g_90_75, g_90_79, g_90_82, g_90_85, gs_nx, db_inx, gs_ldi, gs_lda, gs_ldn, List.getElem?_cons_zero, List.getElem?_cons_succ, List.set_cons_zero, List.set_cons_succ, gx5, fx_int, fx_ref, fx_null, px5, gs_lx, gs_ax, sx5, ft_int, ft_ref, ft_b0, ft_b1, c1_int, c1_ref, List.length_cons, List.length_nil, Nat.reduceAdd, Nat.reduceLT, Nat.reduceLeDiff, true_and, and_true, true_or, or_true, not_false_eq_true, Option.toList_some, Option.toList_none, List.nil_append, List.singleton_append, List.cons_append, ↓reduceIte, Bool.and_self, eq_self, z_max, z_min, nI_add, z_sub, z_dec, z_mul, z_div, z_mod, nI_clamp, z_lt, z_nlt, z_le, z_nle, z_ne, z_eq, z_in, not_true_eq_false, if_true, if_false, hs_at, hs_ne, hs_sort, hset_eq, vupp_eq, hs_over, List.length_set, vup_at, vup_ne, vup_over, vup_sort, mfs_len, n5_f, map_getD, List.length_map, gd_self, gd_ne, Nat.add_sub_cancel]
    exact K h Fr_refl A
  | succ d ih =>
    intro i x h x4 hi A hT C1 C2 K
    have o' := A.2.2
    unfold opO at o'
    have r := cRd_o A.1
    have r9 := A.1.2.2.2.2.2.2
    rw [spF] at K
    rw [g_90_2]
    by_cases q : x.2.2 = 0
    · rw [if_pos q] at K
      rw [q] at r
      simp (disch := first | omega | (simp only [List.length_set]; omega)) only [g_90_0, g_90_1, g_90_3, g_90_6, g_90_9, g_90_10, g_90_13, g_90_16, g_90_19, g_90_20, g_90_23, g_90_27, g_90_29, g_90_31, g_90_34, g_90_37, g_90_38, g_90_40, g_90_43, g_90_45, g_90_48, g_90_51, g_90_52, g_90_57, g_90_60, g_90_62, g_90_65, g_90_68, g_90_69, g_90_71, g_90_74, g_90_75, g_90_79, g_90_82, g_90_85, gs_nx, db_inx, gs_ldi, gs_lda, gs_ldn, List.getElem?_cons_zero, List.getElem?_cons_succ, List.set_cons_zero, List.set_cons_succ, gx5, fx_int, fx_ref, fx_null, px5, gs_lx, gs_ax, sx5, ft_int, ft_ref, ft_b0, ft_b1, c1_int, c1_ref, List.length_cons, List.length_nil, Nat.reduceAdd, Nat.reduceLT, Nat.reduceLeDiff, true_and, and_true, true_or, or_true, not_false_eq_true, Option.toList_some, Option.toList_none, List.nil_append, List.singleton_append, List.cons_append, ↓reduceIte, Bool.and_self, eq_self, z_max, z_min, nI_add, z_sub, z_dec, z_mul, z_div, z_mod, nI_clamp, z_lt, z_nlt, z_le, z_nle, z_ne, z_eq, z_in, not_true_eq_false, if_true, if_false, hs_at, hs_ne, hs_sort, hset_eq, vupp_eq, hs_over, List.length_set, vup_at, vup_ne, vup_over, vup_sort, mfs_len, n5_f, map_getD, List.length_map, gd_self, gd_ne, Nat.add_sub_cancel, o', r]
      refine c_90_24 (by simp) (n5_ge (by decide)) r ?_
      refine f91 ho1 A.1 C1 (fun h2 F2 R2 => ?_)
      have A2 : cX h2 B (x.1, (sym B ws x.2).2) := cX_rd F2 A R2
      have s0 := @sym_0 B ws x.2
      have l288 : ws.length ≤ 288 := C1.choose_spec.choose_spec.choose_spec.choose_spec.choose_spec.choose_spec.2.2.2.2.2.2.2.2.2.1
      generalize sym B ws x.2 = t at *
      have o2' := Fr_get F2 (by decide) o'
      have hT2 := cT_fr F2 (by decide) hT
      have C12 := cdW_fr F2 (fun k hk => by simp; omega) C1
      have C22 := cdW_fr F2 (fun k hk => by simp; omega) C2
      have F2' : Fr FX h h2 := Fr_mono F2 (by decide)
      have t9 := R2.2.2.2.2.2.2
      have r2 := cRd_o R2
      have nxt : ∀ (y : List Nat × Rd) (h3 : db_H) (x4 : Value), Fr FX h2 h3 → cX h3 B y → (∀ h4, Fr FX h h4 → cX h4 B (spF B ws ds d y) → P none h4) → db_Go 90 79 [.ref 71, .ref o1, .ref o2, .int (nI i), x4] [] h3 P := by
        intro y h3 x4 F3 A3 K3
        simp (disch := first | omega | (simp only [List.length_set]; omega)) only [g_90_0, g_90_1, g_90_3, g_90_6, g_90_9, g_90_10, g_90_13, g_90_16, g_90_19, g_90_20, g_90_23, g_90_27, g_90_29, g_90_31, g_90_34, g_90_37, g_90_38, g_90_40, g_90_43, g_90_45, g_90_48, g_90_51, g_90_52, g_90_57, g_90_60, g_90_62, g_90_65, g_90_68, g_90_69, g_90_71, g_90_74, g_90_75, g_90_79, g_90_82, g_90_85, gs_nx, db_inx, gs_ldi, gs_lda, gs_ldn, List.getElem?_cons_zero, List.getElem?_cons_succ, List.set_cons_zero, List.set_cons_succ, gx5, fx_int, fx_ref, fx_null, px5, gs_lx, gs_ax, sx5, ft_int, ft_ref, ft_b0, ft_b1, c1_int, c1_ref, List.length_cons, List.length_nil, Nat.reduceAdd, Nat.reduceLT, Nat.reduceLeDiff, true_and, and_true, true_or, or_true, not_false_eq_true, Option.toList_some, Option.toList_none, List.nil_append, List.singleton_append, List.cons_append, ↓reduceIte, Bool.and_self, eq_self, z_max, z_min, nI_add, z_sub, z_dec, z_mul, z_div, z_mod, nI_clamp, z_lt, z_nlt, z_le, z_nle, z_ne, z_eq, z_in, not_true_eq_false, if_true, if_false, hs_at, hs_ne, hs_sort, hset_eq, vupp_eq, hs_over, List.length_set, vup_at, vup_ne, vup_over, vup_sort, mfs_len, n5_f, map_getD, List.length_map, gd_self, gd_ne, Nat.add_sub_cancel]
        exact ih (i + 1) y h3 _ (by omega) A3 (cT_fr F3 (by decide) hT2) (cdW_fr F3 (fun k hk => by unfold FX; simp; omega) C12) (cdW_fr F3 (fun k hk => by unfold FX; simp; omega) C22) (fun h4 F4 A4 => K3 h4 (Fr_tr F2' (Fr_tr F3 F4)) A4)
      by_cases q1 : t.2.2 = 0
      · rw [if_pos q1] at K ⊢
        have s0 := (s0 q1).2.1
        by_cases q2 : t.1 = 256
        · rw [if_pos q2] at K
          simp (disch := first | omega | (simp only [List.length_set]; omega)) only [g_90_0, g_90_1, g_90_3, g_90_6, g_90_9, g_90_10, g_90_13, g_90_16, g_90_19, g_90_20, g_90_23, g_90_27, g_90_29, g_90_31, g_90_34, g_90_37, g_90_38, g_90_40, g_90_43, g_90_45, g_90_48, g_90_51, g_90_52, g_90_57, g_90_60, g_90_62, g_90_65, g_90_68, g_90_69, g_90_71, g_90_74, g_90_75, g_90_82, g_90_85, gs_nx, db_inx, gs_ldi, gs_lda, gs_ldn, List.getElem?_cons_zero, List.getElem?_cons_succ, List.set_cons_zero, List.set_cons_succ, gx5, fx_int, fx_ref, fx_null, px5, gs_lx, gs_ax, sx5, ft_int, ft_ref, ft_b0, ft_b1, c1_int, c1_ref, List.length_cons, List.length_nil, Nat.reduceAdd, Nat.reduceLT, Nat.reduceLeDiff, true_and, and_true, true_or, or_true, not_false_eq_true, Option.toList_some, Option.toList_none, List.nil_append, List.singleton_append, List.cons_append, ↓reduceIte, Bool.and_self, eq_self, z_max, z_min, nI_add, z_sub, z_dec, z_mul, z_div, z_mod, nI_clamp, z_lt, z_nlt, z_le, z_nle, z_ne, z_eq, z_in, not_true_eq_false, if_true, if_false, hs_at, hs_ne, hs_sort, hset_eq, vupp_eq, hs_over, List.length_set, vup_at, vup_ne, vup_over, vup_sort, mfs_len, n5_f, map_getD, List.length_map, gd_self, gd_ne, Nat.add_sub_cancel]
          exact K h2 F2' A2
        · rw [if_neg q2] at K
          by_cases q3 : t.1 < 256
          · rw [if_pos q3] at K
            simp (disch := first | omega | (simp only [List.length_set]; omega)) only [g_90_0, g_90_1, g_90_3, g_90_6, g_90_9, g_90_10, g_90_13, g_90_16, g_90_19, g_90_20, g_90_23, g_90_27, g_90_29, g_90_31, g_90_34, g_90_37, g_90_38, g_90_40, g_90_43, g_90_45, g_90_48, g_90_51, g_90_52, g_90_57, g_90_60, g_90_62, g_90_65, g_90_68, g_90_69, g_90_71, g_90_74, g_90_75, g_90_82, g_90_85, gs_nx, db_inx, gs_ldi, gs_lda, gs_ldn, List.getElem?_cons_zero, List.getElem?_cons_succ, List.set_cons_zero, List.set_cons_succ, gx5, fx_int, fx_ref, fx_null, px5, gs_lx, gs_ax, sx5, ft_int, ft_ref, ft_b0, ft_b1, c1_int, c1_ref, List.length_cons, List.length_nil, Nat.reduceAdd, Nat.reduceLT, Nat.reduceLeDiff, true_and, and_true, true_or, or_true, not_false_eq_true, Option.toList_some, Option.toList_none, List.nil_append, List.singleton_append, List.cons_append, ↓reduceIte, Bool.and_self, eq_self, z_max, z_min, nI_add, z_sub, z_dec, z_mul, z_div, z_mod, nI_clamp, z_lt, z_nlt, z_le, z_nle, z_ne, z_eq, z_in, not_true_eq_false, if_true, if_false, hs_at, hs_ne, hs_sort, hset_eq, vupp_eq, hs_over, List.length_set, vup_at, vup_ne, vup_over, vup_sort, mfs_len, n5_f, map_getD, List.length_map, gd_self, gd_ne, Nat.add_sub_cancel]
            refine c_90_54 (by simp) (n5_ge (by decide)) A2.2.2 ?_
            refine f89 q3 A2 (fun h3 F3 A3 => ?_)
            simp (disch := first | omega | (simp only [List.length_set]; omega)) only [g_90_0, g_90_1, g_90_3, g_90_6, g_90_9, g_90_10, g_90_13, g_90_16, g_90_19, g_90_20, g_90_23, g_90_27, g_90_29, g_90_31, g_90_34, g_90_37, g_90_38, g_90_40, g_90_43, g_90_45, g_90_48, g_90_51, g_90_52, g_90_57, g_90_60, g_90_62, g_90_65, g_90_68, g_90_69, g_90_71, g_90_74, g_90_75, g_90_82, g_90_85, gs_nx, db_inx, gs_ldi, gs_lda, gs_ldn, List.getElem?_cons_zero, List.getElem?_cons_succ, List.set_cons_zero, List.set_cons_succ, gx5, fx_int, fx_ref, fx_null, px5, gs_lx, gs_ax, sx5, ft_int, ft_ref, ft_b0, ft_b1, c1_int, c1_ref, List.length_cons, List.length_nil, Nat.reduceAdd, Nat.reduceLT, Nat.reduceLeDiff, true_and, and_true, true_or, or_true, not_false_eq_true, Option.toList_some, Option.toList_none, List.nil_append, List.singleton_append, List.cons_append, ↓reduceIte, Bool.and_self, eq_self, z_max, z_min, nI_add, z_sub, z_dec, z_mul, z_div, z_mod, nI_clamp, z_lt, z_nlt, z_le, z_nle, z_ne, z_eq, z_in, not_true_eq_false, if_true, if_false, hs_at, hs_ne, hs_sort, hset_eq, vupp_eq, hs_over, List.length_set, vup_at, vup_ne, vup_over, vup_sort, mfs_len, n5_f, map_getD, List.length_map, gd_self, gd_ne, Nat.add_sub_cancel]
            exact nxt _ h3 _ F3 A3 K
          · rw [if_neg q3] at K
            by_cases q4 : 285 < t.1
            · rw [if_pos q4] at K
              obtain ⟨t0, _⟩ := id hT2
              have lL : LB.length = 29 := rfl
              simp (disch := first | omega | (simp only [List.length_set]; omega)) only [g_90_0, g_90_1, g_90_3, g_90_6, g_90_9, g_90_10, g_90_13, g_90_16, g_90_19, g_90_20, g_90_23, g_90_27, g_90_29, g_90_31, g_90_34, g_90_37, g_90_38, g_90_40, g_90_43, g_90_45, g_90_48, g_90_51, g_90_52, g_90_57, g_90_60, g_90_62, g_90_65, g_90_68, g_90_69, g_90_71, g_90_74, g_90_75, g_90_82, g_90_85, gs_nx, db_inx, gs_ldi, gs_lda, gs_ldn, List.getElem?_cons_zero, List.getElem?_cons_succ, List.set_cons_zero, List.set_cons_succ, gx5, fx_int, fx_ref, fx_null, px5, gs_lx, gs_ax, sx5, ft_int, ft_ref, ft_b0, ft_b1, c1_int, c1_ref, List.length_cons, List.length_nil, Nat.reduceAdd, Nat.reduceLT, Nat.reduceLeDiff, true_and, and_true, true_or, or_true, not_false_eq_true, Option.toList_some, Option.toList_none, List.nil_append, List.singleton_append, List.cons_append, ↓reduceIte, Bool.and_self, eq_self, z_max, z_min, nI_add, z_sub, z_dec, z_mul, z_div, z_mod, nI_clamp, z_lt, z_nlt, z_le, z_nle, z_ne, z_eq, z_in, not_true_eq_false, if_true, if_false, hs_at, hs_ne, hs_sort, hset_eq, vupp_eq, hs_over, List.length_set, vup_at, vup_ne, vup_over, vup_sort, mfs_len, n5_f, map_getD, List.length_map, gd_self, gd_ne, Nat.add_sub_cancel]
              refine c_90_76 (by simp) (n5_ge (by decide)) A2.2.2 ?_
              simp (disch := first | omega | (simp only [List.length_set]; omega)) only [g_93_0, g_93_1, g_93_4, g_93_5, g_93_8, g_93_9, g_93_12, g_93_13, g_93_16, g_93_21, g_93_22, g_93_25, g_93_26, g_93_27, g_93_28, g_93_31, g_93_38, g_93_39, g_93_40, g_93_41, g_93_44, g_93_48, g_93_50, g_93_52, g_93_55, g_93_57, g_93_60, g_93_61, g_93_64, g_93_65, g_93_68, g_93_73, g_93_74, g_93_77, g_93_79, g_93_80, g_93_81, g_93_84, g_93_92, g_93_93, g_93_95, g_93_97, g_93_98, g_93_101, g_93_104, g_93_107, g_93_108, g_93_111, g_93_116, g_93_117, g_93_121, g_93_122, g_93_125, g_93_126, g_93_129, g_93_132, g_93_135, g_93_136, g_93_137, g_93_140, g_93_141, g_93_144, g_93_147, g_93_149, g_93_156, g_93_159, g_93_162, gs_nx, db_inx, gs_ldi, gs_lda, gs_ldn, List.getElem?_cons_zero, List.getElem?_cons_succ, List.set_cons_zero, List.set_cons_succ, gx5, fx_int, fx_ref, fx_null, px5, gs_lx, gs_ax, sx5, ft_int, ft_ref, ft_b0, ft_b1, c1_int, c1_ref, List.length_cons, List.length_nil, Nat.reduceAdd, Nat.reduceLT, Nat.reduceLeDiff, true_and, and_true, true_or, or_true, not_false_eq_true, Option.toList_some, Option.toList_none, List.nil_append, List.singleton_append, List.cons_append, ↓reduceIte, Bool.and_self, eq_self, z_max, z_min, nI_add, z_sub, z_dec, z_mul, z_div, z_mod, nI_clamp, z_lt, z_nlt, z_le, z_nle, z_ne, z_eq, z_in, not_true_eq_false, if_true, if_false, hs_at, hs_ne, hs_sort, hset_eq, vupp_eq, hs_over, List.length_set, vup_at, vup_ne, vup_over, vup_sort, mfs_len, n5_f, map_getD, List.length_map, gd_self, gd_ne, Nat.add_sub_cancel, t0, lL, o2']
              refine c_93_18 (by simp) (n5_ge (by decide)) r2 ?_
              refine f85 (by decide) R2 (fun h3 F3 R3 => ?_)
              simp (disch := first | omega | (simp only [List.length_set]; omega)) only [g_93_0, g_93_1, g_93_4, g_93_5, g_93_8, g_93_9, g_93_12, g_93_13, g_93_16, g_93_21, g_93_22, g_93_25, g_93_26, g_93_27, g_93_28, g_93_31, g_93_38, g_93_39, g_93_40, g_93_41, g_93_44, g_93_48, g_93_50, g_93_52, g_93_55, g_93_57, g_93_60, g_93_61, g_93_64, g_93_65, g_93_68, g_93_73, g_93_74, g_93_77, g_93_79, g_93_80, g_93_81, g_93_84, g_93_92, g_93_93, g_93_95, g_93_97, g_93_98, g_93_101, g_93_104, g_93_107, g_93_108, g_93_111, g_93_116, g_93_117, g_93_121, g_93_122, g_93_125, g_93_126, g_93_129, g_93_132, g_93_135, g_93_136, g_93_137, g_93_140, g_93_141, g_93_144, g_93_147, g_93_149, g_93_156, g_93_159, g_93_162, gs_nx, db_inx, gs_ldi, gs_lda, gs_ldn, List.getElem?_cons_zero, List.getElem?_cons_succ, List.set_cons_zero, List.set_cons_succ, gx5, fx_int, fx_ref, fx_null, px5, gs_lx, gs_ax, sx5, ft_int, ft_ref, ft_b0, ft_b1, c1_int, c1_ref, List.length_cons, List.length_nil, Nat.reduceAdd, Nat.reduceLT, Nat.reduceLeDiff, true_and, and_true, true_or, or_true, not_false_eq_true, Option.toList_some, Option.toList_none, List.nil_append, List.singleton_append, List.cons_append, ↓reduceIte, Bool.and_self, eq_self, z_max, z_min, nI_add, z_sub, z_dec, z_mul, z_div, z_mod, nI_clamp, z_lt, z_nlt, z_le, z_nle, z_ne, z_eq, z_in, not_true_eq_false, if_true, if_false, hs_at, hs_ne, hs_sort, hset_eq, vupp_eq, hs_over, List.length_set, vup_at, vup_ne, vup_over, vup_sort, mfs_len, n5_f, map_getD, List.length_map, gd_self, gd_ne, Nat.add_sub_cancel]
              have A3 := cX_rd2 F3 A2 R3
              refine nxt _ h3 _ (Fr_mono F3 (by decide)) A3 (fun h4 F4 A4 => K h4 F4 ?_)
              have : spF B ws ds d (x.1, fl 9 t.2) = (x.1, fl 9 t.2) := by
                cases d with
                | zero => rfl
                | succ d => rw [spF, if_neg (fl_ne (by decide))]
              rw [this] at A4
              exact A4
            · rw [if_neg q4] at K
              simp (disch := first | omega | (simp only [List.length_set]; omega)) only [g_90_0, g_90_1, g_90_3, g_90_6, g_90_9, g_90_10, g_90_13, g_90_16, g_90_19, g_90_20, g_90_23, g_90_27, g_90_29, g_90_31, g_90_34, g_90_37, g_90_38, g_90_40, g_90_43, g_90_45, g_90_48, g_90_51, g_90_52, g_90_57, g_90_60, g_90_62, g_90_65, g_90_68, g_90_69, g_90_71, g_90_74, g_90_75, g_90_82, g_90_85, gs_nx, db_inx, gs_ldi, gs_lda, gs_ldn, List.getElem?_cons_zero, List.getElem?_cons_succ, List.set_cons_zero, List.set_cons_succ, gx5, fx_int, fx_ref, fx_null, px5, gs_lx, gs_ax, sx5, ft_int, ft_ref, ft_b0, ft_b1, c1_int, c1_ref, List.length_cons, List.length_nil, Nat.reduceAdd, Nat.reduceLT, Nat.reduceLeDiff, true_and, and_true, true_or, or_true, not_false_eq_true, Option.toList_some, Option.toList_none, List.nil_append, List.singleton_append, List.cons_append, ↓reduceIte, Bool.and_self, eq_self, z_max, z_min, nI_add, z_sub, z_dec, z_mul, z_div, z_mod, nI_clamp, z_lt, z_nlt, z_le, z_nle, z_ne, z_eq, z_in, not_true_eq_false, if_true, if_false, hs_at, hs_ne, hs_sort, hset_eq, vupp_eq, hs_over, List.length_set, vup_at, vup_ne, vup_over, vup_sort, mfs_len, n5_f, map_getD, List.length_map, gd_self, gd_ne, Nat.add_sub_cancel]
              refine c_90_76 (by simp) (n5_ge (by decide)) A2.2.2 ?_
              refine f93 (by omega) hT2 ho2 C22 A2 (fun h3 F3 A3 => ?_)
              simp (disch := first | omega | (simp only [List.length_set]; omega)) only [g_90_0, g_90_1, g_90_3, g_90_6, g_90_9, g_90_10, g_90_13, g_90_16, g_90_19, g_90_20, g_90_23, g_90_27, g_90_29, g_90_31, g_90_34, g_90_37, g_90_38, g_90_40, g_90_43, g_90_45, g_90_48, g_90_51, g_90_52, g_90_57, g_90_60, g_90_62, g_90_65, g_90_68, g_90_69, g_90_71, g_90_74, g_90_75, g_90_82, g_90_85, gs_nx, db_inx, gs_ldi, gs_lda, gs_ldn, List.getElem?_cons_zero, List.getElem?_cons_succ, List.set_cons_zero, List.set_cons_succ, gx5, fx_int, fx_ref, fx_null, px5, gs_lx, gs_ax, sx5, ft_int, ft_ref, ft_b0, ft_b1, c1_int, c1_ref, List.length_cons, List.length_nil, Nat.reduceAdd, Nat.reduceLT, Nat.reduceLeDiff, true_and, and_true, true_or, or_true, not_false_eq_true, Option.toList_some, Option.toList_none, List.nil_append, List.singleton_append, List.cons_append, ↓reduceIte, Bool.and_self, eq_self, z_max, z_min, nI_add, z_sub, z_dec, z_mul, z_div, z_mod, nI_clamp, z_lt, z_nlt, z_le, z_nle, z_ne, z_eq, z_in, not_true_eq_false, if_true, if_false, hs_at, hs_ne, hs_sort, hset_eq, vupp_eq, hs_over, List.length_set, vup_at, vup_ne, vup_over, vup_sort, mfs_len, n5_f, map_getD, List.length_map, gd_self, gd_ne, Nat.add_sub_cancel]
              exact nxt _ h3 _ F3 A3 K
      · rw [if_neg q1] at K ⊢
        have fin : db_Go 90 79 [.ref 71, .ref o1, .ref o2, .int (nI i), .int (-1)] [] h2 P := by
          refine nxt (x.1, t.2) h2 _ Fr_refl A2 (fun h4 F4 A4 => K h4 F4 ?_)
          have : spF B ws ds d (x.1, t.2) = (x.1, t.2) := by
            cases d with
            | zero => rfl
            | succ d => rw [spF, if_neg q1]
          rw [this] at A4
          exact A4
        simp (disch := first | omega | (simp only [List.length_set]; omega)) only [g_90_0, g_90_1, g_90_3, g_90_6, g_90_9, g_90_10, g_90_13, g_90_16, g_90_19, g_90_20, g_90_23, g_90_27, g_90_29, g_90_31, g_90_34, g_90_37, g_90_38, g_90_40, g_90_43, g_90_45, g_90_48, g_90_51, g_90_52, g_90_57, g_90_60, g_90_62, g_90_65, g_90_68, g_90_69, g_90_71, g_90_74, g_90_75, g_90_82, g_90_85, gs_nx, db_inx, gs_ldi, gs_lda, gs_ldn, List.getElem?_cons_zero, List.getElem?_cons_succ, List.set_cons_zero, List.set_cons_succ, gx5, fx_int, fx_ref, fx_null, px5, gs_lx, gs_ax, sx5, ft_int, ft_ref, ft_b0, ft_b1, c1_int, c1_ref, List.length_cons, List.length_nil, Nat.reduceAdd, Nat.reduceLT, Nat.reduceLeDiff, true_and, and_true, true_or, or_true, not_false_eq_true, Option.toList_some, Option.toList_none, List.nil_append, List.singleton_append, List.cons_append, ↓reduceIte, Bool.and_self, eq_self, z_max, z_min, nI_add, z_sub, z_dec, z_mul, z_div, z_mod, nI_clamp, z_lt, z_nlt, z_le, z_nle, z_ne, z_eq, z_in, not_true_eq_false, if_true, if_false, hs_at, hs_ne, hs_sort, hset_eq, vupp_eq, hs_over, List.length_set, vup_at, vup_ne, vup_over, vup_sort, mfs_len, n5_f, map_getD, List.length_map, gd_self, gd_ne, Nat.add_sub_cancel, neg, neg2, neg3]
        exact fin
    · rw [if_neg q] at K
      simp (disch := first | omega | (simp only [List.length_set]; omega)) only [g_90_0, g_90_1, g_90_3, g_90_6, g_90_9, g_90_10, g_90_13, g_90_16, g_90_19, g_90_20, g_90_23, g_90_27, g_90_29, g_90_31, g_90_34, g_90_37, g_90_38, g_90_40, g_90_43, g_90_45, g_90_48, g_90_51, g_90_52, g_90_57, g_90_60, g_90_62, g_90_65, g_90_68, g_90_69, g_90_71, g_90_74, g_90_75, g_90_79, g_90_82, g_90_85, gs_nx, db_inx, gs_ldi, gs_lda, gs_ldn, List.getElem?_cons_zero, List.getElem?_cons_succ, List.set_cons_zero, List.set_cons_succ, gx5, fx_int, fx_ref, fx_null, px5, gs_lx, gs_ax, sx5, ft_int, ft_ref, ft_b0, ft_b1, c1_int, c1_ref, List.length_cons, List.length_nil, Nat.reduceAdd, Nat.reduceLT, Nat.reduceLeDiff, true_and, and_true, true_or, or_true, not_false_eq_true, Option.toList_some, Option.toList_none, List.nil_append, List.singleton_append, List.cons_append, ↓reduceIte, Bool.and_self, eq_self, z_max, z_min, nI_add, z_sub, z_dec, z_mul, z_div, z_mod, nI_clamp, z_lt, z_nlt, z_le, z_nle, z_ne, z_eq, z_in, not_true_eq_false, if_true, if_false, hs_at, hs_ne, hs_sort, hset_eq, vupp_eq, hs_over, List.length_set, vup_at, vup_ne, vup_over, vup_sort, mfs_len, n5_f, map_getD, List.length_map, gd_self, gd_ne, Nat.add_sub_cancel, o', r]
      exact K h Fr_refl A
/-- readSteps -/
theorem f90 {h : db_H} {x : List Nat × Rd} {o1 o2 : Nat} {ws ds : List Nat} (ho1 : 76 ≤ o1 ∧ o1 + 7 < 117) (ho2 : 76 ≤ o2 ∧ o2 + 7 < 117) (A : cX h B x) (hT : cT h) (C1 : cdW h o1 ws) (C2 : cdW h o2 ds) (K : ∀ h2, Fr FX h h2 → cX h2 B (spF B ws ds 301 x) → P none h2) : db_Go 90 0 [.ref 71, .ref o1, .ref o2, .retAddr 0, .retAddr 0] [] h P := by
  simp (disch := first | omega | (simp only [List.length_set]; omega)) only [g_90_0, g_90_1, g_90_3, g_90_6, g_90_9, g_90_10, g_90_13, g_90_16, g_90_19, g_90_20, g_90_23, g_90_27, g_90_29, g_90_31, g_90_34, g_90_37, g_90_38, g_90_40, g_90_43, g_90_45, g_90_48, g_90_51, g_90_52, g_90_57, g_90_60, g_90_62, g_90_65, g_90_68, g_90_69, g_90_71, g_90_74, g_90_75, g_90_79, g_90_82, g_90_85, gs_nx, db_inx, gs_ldi, gs_lda, gs_ldn, List.getElem?_cons_zero, List.getElem?_cons_succ, List.set_cons_zero, List.set_cons_succ, gx5, fx_int, fx_ref, fx_null, px5, gs_lx, gs_ax, sx5, ft_int, ft_ref, ft_b0, ft_b1, c1_int, c1_ref, List.length_cons, List.length_nil, Nat.reduceAdd, Nat.reduceLT, Nat.reduceLeDiff, true_and, and_true, true_or, or_true, not_false_eq_true, Option.toList_some, Option.toList_none, List.nil_append, List.singleton_append, List.cons_append, ↓reduceIte, Bool.and_self, eq_self, z_max, z_min, nI_add, z_sub, z_dec, z_mul, z_div, z_mod, nI_clamp, z_lt, z_nlt, z_le, z_nle, z_ne, z_eq, z_in, not_true_eq_false, if_true, if_false, hs_at, hs_ne, hs_sort, hset_eq, vupp_eq, hs_over, List.length_set, vup_at, vup_ne, vup_over, vup_sort, mfs_len, n5_f, map_getD, List.length_map, gd_self, gd_ne, Nat.add_sub_cancel]
  exact m90_loop ho1 ho2 301 0 x h _ (by omega) A hT C1 C2 K
def F95 : List Nat := [72, 108, 109, 110, 111, 112, 113, 114, 115]
theorem m95_loop {n : Nat} {ws0 : List Nat} (hn : n ≤ 19) : ∀ (d k : Nat) (ws : List Nat) (x : List Nat × Rd) (h : db_H), k + d = n → ws.length = 19 → cX h B x → cT h → cdS h 108 ws → (∀ h2 y, Fr F95 h h2 → cX h2 B (x.1, (rcF B d k ws x.2).2) → cdS h2 108 (rcF B d k ws x.2).1 → db_Go 95 53 [.ref 71, .int (nI n), y] [] h2 P) → db_Go 95 13 [.ref 71, .int (nI n), .int (nI k)] [] h P := by
  have lR : RO.length = 19 := rfl
  intro d
  induction d with
  | zero =>
    intro k ws x h hk l1 A hT C K
    rw [rcF] at K
    rw [g_95_13]
    simp (disch := first | omega | (simp only [List.length_set]; omega)) only [g_95_0, g_95_1, g_95_4, g_95_7, g_95_11, g_95_12, g_95_14, g_95_15, g_95_18, g_95_19, g_95_22, g_95_23, g_95_26, g_95_27, g_95_30, g_95_33, g_95_36, g_95_37, g_95_38, g_95_39, g_95_42, g_95_46, g_95_47, g_95_50, g_95_54, g_95_60, g_95_61, g_95_64, g_95_67, g_95_70, g_95_71, g_95_74, g_95_78, gs_nx, db_inx, gs_ldi, gs_lda, gs_ldn, List.getElem?_cons_zero, List.getElem?_cons_succ, List.set_cons_zero, List.set_cons_succ, gx5, fx_int, fx_ref, fx_null, px5, gs_lx, gs_ax, sx5, ft_int, ft_ref, ft_b0, ft_b1, c1_int, c1_ref, List.length_cons, List.length_nil, Nat.reduceAdd, Nat.reduceLT, Nat.reduceLeDiff, true_and, and_true, true_or, or_true, not_false_eq_true, Option.toList_some, Option.toList_none, List.nil_append, List.singleton_append, List.cons_append, ↓reduceIte, Bool.and_self, eq_self, z_max, z_min, nI_add, z_sub, z_dec, z_mul, z_div, z_mod, nI_clamp, z_lt, z_nlt, z_le, z_nle, z_ne, z_eq, z_in, not_true_eq_false, if_true, if_false, hs_at, hs_ne, hs_sort, hset_eq, vupp_eq, hs_over, List.length_set, vup_at, vup_ne, vup_over, vup_sort, mfs_len, n5_f, map_getD, List.length_map, gd_self, gd_ne, Nat.add_sub_cancel]
    exact K h _ Fr_refl A C
  | succ d ih =>
    intro k ws x h hk l1 A hT C K
    have o' := A.2.2
    unfold opO at o'
    have t2 := hT.2.2.1
    obtain ⟨_, _, _, o1⟩ := cdS_o C
    have w1 := cdS_w C
    simp only [Nat.reduceAdd] at o1 w1
    have b2 := RO_lt k (by omega)
    rw [rcF] at K
    rw [g_95_13]
    simp (disch := first | omega | (simp only [List.length_set]; omega)) only [g_95_0, g_95_1, g_95_4, g_95_7, g_95_11, g_95_12, g_95_14, g_95_15, g_95_18, g_95_19, g_95_22, g_95_23, g_95_26, g_95_27, g_95_30, g_95_33, g_95_36, g_95_37, g_95_38, g_95_39, g_95_42, g_95_46, g_95_47, g_95_50, g_95_54, g_95_60, g_95_61, g_95_64, g_95_67, g_95_70, g_95_71, g_95_74, g_95_78, gs_nx, db_inx, gs_ldi, gs_lda, gs_ldn, List.getElem?_cons_zero, List.getElem?_cons_succ, List.set_cons_zero, List.set_cons_succ, gx5, fx_int, fx_ref, fx_null, px5, gs_lx, gs_ax, sx5, ft_int, ft_ref, ft_b0, ft_b1, c1_int, c1_ref, List.length_cons, List.length_nil, Nat.reduceAdd, Nat.reduceLT, Nat.reduceLeDiff, true_and, and_true, true_or, or_true, not_false_eq_true, Option.toList_some, Option.toList_none, List.nil_append, List.singleton_append, List.cons_append, ↓reduceIte, Bool.and_self, eq_self, z_max, z_min, nI_add, z_sub, z_dec, z_mul, z_div, z_mod, nI_clamp, z_lt, z_nlt, z_le, z_nle, z_ne, z_eq, z_in, not_true_eq_false, if_true, if_false, hs_at, hs_ne, hs_sort, hset_eq, vupp_eq, hs_over, List.length_set, vup_at, vup_ne, vup_over, vup_sort, mfs_len, n5_f, map_getD, List.length_map, gd_self, gd_ne, Nat.add_sub_cancel, o', o1, t2, lR]
    refine c_95_43 (by simp) (n5_ge (by decide)) (cRd_o A.1) ?_
    refine f83 (by decide) A.1 (fun h2 F2 R2 => ?_)
    have A2 : cX h2 B (x.1, (rdF B 3 x.2).2) := cX_rd F2 A R2
    generalize rdF B 3 x.2 = t at *
    have w2 := Fr_get F2 (by decide) w1
    have hl2 := R2.1
    simp (disch := first | omega | (simp only [List.length_set]; omega)) only [g_95_0, g_95_1, g_95_4, g_95_7, g_95_11, g_95_12, g_95_14, g_95_15, g_95_18, g_95_19, g_95_22, g_95_23, g_95_26, g_95_27, g_95_30, g_95_33, g_95_36, g_95_37, g_95_38, g_95_39, g_95_42, g_95_46, g_95_47, g_95_50, g_95_54, g_95_60, g_95_61, g_95_64, g_95_67, g_95_70, g_95_71, g_95_74, g_95_78, gs_nx, db_inx, gs_ldi, gs_lda, gs_ldn, List.getElem?_cons_zero, List.getElem?_cons_succ, List.set_cons_zero, List.set_cons_succ, gx5, fx_int, fx_ref, fx_null, px5, gs_lx, gs_ax, sx5, ft_int, ft_ref, ft_b0, ft_b1, c1_int, c1_ref, List.length_cons, List.length_nil, Nat.reduceAdd, Nat.reduceLT, Nat.reduceLeDiff, true_and, and_true, true_or, or_true, not_false_eq_true, Option.toList_some, Option.toList_none, List.nil_append, List.singleton_append, List.cons_append, ↓reduceIte, Bool.and_self, eq_self, z_max, z_min, nI_add, z_sub, z_dec, z_mul, z_div, z_mod, nI_clamp, z_lt, z_nlt, z_le, z_nle, z_ne, z_eq, z_in, not_true_eq_false, if_true, if_false, hs_at, hs_ne, hs_sort, hset_eq, vupp_eq, hs_over, List.length_set, vup_at, vup_ne, vup_over, vup_sort, mfs_len, n5_f, map_getD, List.length_map, gd_self, gd_ne, Nat.add_sub_cancel, w2]
    have F3 : Fr [113] h2 (h2.set 113 (.inl (0, (ws.map nI).set (RO.getD k 0) (nI t.1)))) := Fr_set (by decide)
    have w3 : (h2.set 113 (.inl (0, (ws.map nI).set (RO.getD k 0) (nI t.1))))[113]? = some (.inl (0, (ws.set (RO.getD k 0) t.1).map nI)) := by
      rw [List.map_set]
      simp (disch := first | omega | (simp only [List.length_set]; omega)) only [hs_at, hs_ne, List.length_set]
    generalize h2.set 113 (.inl (0, (ws.map nI).set (RO.getD k 0) (nI t.1))) = h3 at *
    have C3 : cdS h3 108 (ws.set (RO.getD k 0) t.1) := cdS_j (cdS_fr F2 (by decide) C) F3 (by decide) w3 (by rw [List.length_set])
    exact ih (k + 1) _ (x.1, t.2) h3 (by omega) (by rw [List.length_set]; exact l1) (cX_fr F3 (by decide) A2) (cT_fr F3 (by decide) (cT_fr F2 (by decide) hT)) C3 (fun h4 y F4 A4 C4 => K h4 y (Fr_tr (Fr_mono F2 (by decide)) (Fr_tr (Fr_mono F3 (by decide)) F4)) A4 C4)
/-- readRowCode -/
theorem f95 {h : db_H} {x : List Nat × Rd} {n : Nat} {ws0 : List Nat} (hn : n ≤ 19) (A : cX h B x) (hT : cT h) (C : cdS h 108 ws0) (l0 : ws0.length = 19) (K : ∀ h2, Fr F95 h h2 → cX h2 B (x.1, (onC B n x.2).2) → cdW h2 108 (onC B n x.2).1 → P none h2) : db_Go 95 0 [.ref 71, .int (nI n), .retAddr 0] [] h P := by
  have o' := A.2.2
  unfold opO at o'
  obtain ⟨_, _, _, o1⟩ := cdS_o C
  have w1 := cdS_w C
  simp only [Nat.reduceAdd] at o1 w1
  have hl := A.1.1
  unfold onC at K
  simp (disch := first | omega | (simp only [List.length_set]; omega)) only [g_95_0, g_95_1, g_95_4, g_95_7, g_95_11, g_95_12, g_95_14, g_95_15, g_95_18, g_95_19, g_95_22, g_95_23, g_95_26, g_95_27, g_95_30, g_95_33, g_95_36, g_95_37, g_95_38, g_95_39, g_95_42, g_95_46, g_95_47, g_95_50, g_95_54, g_95_60, g_95_61, g_95_64, g_95_67, g_95_70, g_95_71, g_95_74, g_95_78, gs_nx, db_inx, gs_ldi, gs_lda, gs_ldn, List.getElem?_cons_zero, List.getElem?_cons_succ, List.set_cons_zero, List.set_cons_succ, gx5, fx_int, fx_ref, fx_null, px5, gs_lx, gs_ax, sx5, ft_int, ft_ref, ft_b0, ft_b1, c1_int, c1_ref, List.length_cons, List.length_nil, Nat.reduceAdd, Nat.reduceLT, Nat.reduceLeDiff, true_and, and_true, true_or, or_true, not_false_eq_true, Option.toList_some, Option.toList_none, List.nil_append, List.singleton_append, List.cons_append, ↓reduceIte, Bool.and_self, eq_self, z_max, z_min, nI_add, z_sub, z_dec, z_mul, z_div, z_mod, nI_clamp, z_lt, z_nlt, z_le, z_nle, z_ne, z_eq, z_in, not_true_eq_false, if_true, if_false, hs_at, hs_ne, hs_sort, hset_eq, vupp_eq, hs_over, List.length_set, vup_at, vup_ne, vup_over, vup_sort, mfs_len, n5_f, map_getD, List.length_map, gd_self, gd_ne, Nat.add_sub_cancel, o', o1]
  refine c_95_8 (by simp) ?_
  refine m11 (n5_ge (by decide)) w1 (by rw [List.length_map]; omega) ?_
  rw [List.length_map, l0]
  have F1 : Fr [113] h (h.set 113 (.inl (0, List.replicate 19 (nI 0)))) := Fr_set (by decide)
  have w2 : (h.set 113 (.inl (0, List.replicate 19 (nI 0))))[113]? = some (.inl (0, (List.replicate 19 0).map nI)) := by
    rw [List.map_replicate]
    simp (disch := first | omega | (simp only [List.length_set]; omega)) only [hs_at, hs_ne, List.length_set]
  generalize h.set 113 (.inl (0, List.replicate 19 (nI 0))) = h1 at *
  have C1 : cdS h1 108 (List.replicate 19 0) := cdS_j C F1 (by decide) w2 (by rw [List.length_replicate]; omega)
  have rb := @rcF_b B n 0 (List.replicate 19 0) x.2 (fun x hx => by rw [List.eq_of_mem_replicate hx]; decide)
  rw [List.length_replicate] at rb
  simp (disch := first | omega | (simp only [List.length_set]; omega)) only [g_95_0, g_95_1, g_95_4, g_95_7, g_95_11, g_95_12, g_95_14, g_95_15, g_95_18, g_95_19, g_95_22, g_95_23, g_95_26, g_95_27, g_95_30, g_95_33, g_95_36, g_95_37, g_95_38, g_95_39, g_95_42, g_95_46, g_95_47, g_95_50, g_95_54, g_95_60, g_95_61, g_95_64, g_95_67, g_95_70, g_95_71, g_95_74, g_95_78, gs_nx, db_inx, gs_ldi, gs_lda, gs_ldn, List.getElem?_cons_zero, List.getElem?_cons_succ, List.set_cons_zero, List.set_cons_succ, gx5, fx_int, fx_ref, fx_null, px5, gs_lx, gs_ax, sx5, ft_int, ft_ref, ft_b0, ft_b1, c1_int, c1_ref, List.length_cons, List.length_nil, Nat.reduceAdd, Nat.reduceLT, Nat.reduceLeDiff, true_and, and_true, true_or, or_true, not_false_eq_true, Option.toList_some, Option.toList_none, List.nil_append, List.singleton_append, List.cons_append, ↓reduceIte, Bool.and_self, eq_self, z_max, z_min, nI_add, z_sub, z_dec, z_mul, z_div, z_mod, nI_clamp, z_lt, z_nlt, z_le, z_nle, z_ne, z_eq, z_in, not_true_eq_false, if_true, if_false, hs_at, hs_ne, hs_sort, hset_eq, vupp_eq, hs_over, List.length_set, vup_at, vup_ne, vup_over, vup_sort, mfs_len, n5_f, map_getD, List.length_map, gd_self, gd_ne, Nat.add_sub_cancel]
  refine m95_loop (ws0 := ws0) hn n 0 (List.replicate 19 0) x h1 (by omega) List.length_replicate (cX_fr F1 (by decide) A) (cT_fr F1 (by decide) hT) C1 (fun h2 y F2 A2 C2 => ?_)
  generalize rcF B n 0 (List.replicate 19 0) x.2 = t at *
  have F2' : Fr F95 h h2 := Fr_tr (Fr_mono F1 (by decide)) F2
  have o2 := A2.2.2
  have o2' := o2
  unfold opO at o2'
  obtain ⟨_, _, _, o3⟩ := cdS_o C2
  simp (disch := first | omega | (simp only [List.length_set]; omega)) only [g_95_0, g_95_1, g_95_4, g_95_7, g_95_11, g_95_12, g_95_14, g_95_15, g_95_18, g_95_19, g_95_22, g_95_23, g_95_26, g_95_27, g_95_30, g_95_33, g_95_36, g_95_37, g_95_38, g_95_39, g_95_42, g_95_46, g_95_47, g_95_50, g_95_53, g_95_54, g_95_60, g_95_61, g_95_64, g_95_67, g_95_70, g_95_71, g_95_74, g_95_78, gs_nx, db_inx, gs_ldi, gs_lda, gs_ldn, List.getElem?_cons_zero, List.getElem?_cons_succ, List.set_cons_zero, List.set_cons_succ, gx5, fx_int, fx_ref, fx_null, px5, gs_lx, gs_ax, sx5, ft_int, ft_ref, ft_b0, ft_b1, c1_int, c1_ref, List.length_cons, List.length_nil, Nat.reduceAdd, Nat.reduceLT, Nat.reduceLeDiff, true_and, and_true, true_or, or_true, not_false_eq_true, Option.toList_some, Option.toList_none, List.nil_append, List.singleton_append, List.cons_append, ↓reduceIte, Bool.and_self, eq_self, z_max, z_min, nI_add, z_sub, z_dec, z_mul, z_div, z_mod, nI_clamp, z_lt, z_nlt, z_le, z_nle, z_ne, z_eq, z_in, not_true_eq_false, if_true, if_false, hs_at, hs_ne, hs_sort, hset_eq, vupp_eq, hs_over, List.length_set, vup_at, vup_ne, vup_over, vup_sort, mfs_len, n5_f, map_getD, List.length_map, gd_self, gd_ne, Nat.add_sub_cancel, o2']
  refine c_95_57 (by simp) (n5_ge (by decide)) o3 ?_
  refine f9 (by decide) C2 (by omega) (fun x hx => Nat.le_trans (rb.1 x hx) (by decide)) (fun h3 F3 C3 => ?_)
  have A3 := cX_fr F3 (by decide) A2
  have o3' := Fr_get F3 (by decide) o2'
  have c3 := cdW_o C3
  simp only [Nat.reduceAdd] at c3
  have fn := fu_nx t.1 15
  have F3' : Fr F95 h h3 := Fr_tr F2' (Fr_mono F3 (by decide))
  by_cases q : nx t.1 15 = 32768
  · rw [if_pos q] at K
    rw [fn.mpr q] at c3
    have eb : bI true = nI 1 := rfl
    rw [eb] at c3
    simp (disch := first | omega | (simp only [List.length_set]; omega)) only [g_95_0, g_95_1, g_95_4, g_95_7, g_95_11, g_95_12, g_95_14, g_95_15, g_95_18, g_95_19, g_95_22, g_95_23, g_95_26, g_95_27, g_95_30, g_95_33, g_95_36, g_95_37, g_95_38, g_95_39, g_95_42, g_95_46, g_95_47, g_95_50, g_95_53, g_95_54, g_95_60, g_95_61, g_95_64, g_95_67, g_95_70, g_95_71, g_95_74, g_95_78, gs_nx, db_inx, gs_ldi, gs_lda, gs_ldn, List.getElem?_cons_zero, List.getElem?_cons_succ, List.set_cons_zero, List.set_cons_succ, gx5, fx_int, fx_ref, fx_null, px5, gs_lx, gs_ax, sx5, ft_int, ft_ref, ft_b0, ft_b1, c1_int, c1_ref, List.length_cons, List.length_nil, Nat.reduceAdd, Nat.reduceLT, Nat.reduceLeDiff, true_and, and_true, true_or, or_true, not_false_eq_true, Option.toList_some, Option.toList_none, List.nil_append, List.singleton_append, List.cons_append, ↓reduceIte, Bool.and_self, eq_self, z_max, z_min, nI_add, z_sub, z_dec, z_mul, z_div, z_mod, nI_clamp, z_lt, z_nlt, z_le, z_nle, z_ne, z_eq, z_in, not_true_eq_false, if_true, if_false, hs_at, hs_ne, hs_sort, hset_eq, vupp_eq, hs_over, List.length_set, vup_at, vup_ne, vup_over, vup_sort, mfs_len, n5_f, map_getD, List.length_map, gd_self, gd_ne, Nat.add_sub_cancel, o3', c3]
    exact K h3 F3' A3 C3
  · rw [if_neg q] at K
    rw [Bool.eq_false_iff.mpr (fun z => q (fn.mp z))] at c3
    have eb : bI false = nI 0 := rfl
    rw [eb] at c3
    simp (disch := first | omega | (simp only [List.length_set]; omega)) only [g_95_0, g_95_1, g_95_4, g_95_7, g_95_11, g_95_12, g_95_14, g_95_15, g_95_18, g_95_19, g_95_22, g_95_23, g_95_26, g_95_27, g_95_30, g_95_33, g_95_36, g_95_37, g_95_38, g_95_39, g_95_42, g_95_46, g_95_47, g_95_50, g_95_53, g_95_54, g_95_60, g_95_61, g_95_64, g_95_67, g_95_70, g_95_71, g_95_74, g_95_78, gs_nx, db_inx, gs_ldi, gs_lda, gs_ldn, List.getElem?_cons_zero, List.getElem?_cons_succ, List.set_cons_zero, List.set_cons_succ, gx5, fx_int, fx_ref, fx_null, px5, gs_lx, gs_ax, sx5, ft_int, ft_ref, ft_b0, ft_b1, c1_int, c1_ref, List.length_cons, List.length_nil, Nat.reduceAdd, Nat.reduceLT, Nat.reduceLeDiff, true_and, and_true, true_or, or_true, not_false_eq_true, Option.toList_some, Option.toList_none, List.nil_append, List.singleton_append, List.cons_append, ↓reduceIte, Bool.and_self, eq_self, z_max, z_min, nI_add, z_sub, z_dec, z_mul, z_div, z_mod, nI_clamp, z_lt, z_nlt, z_le, z_nle, z_ne, z_eq, z_in, not_true_eq_false, if_true, if_false, hs_at, hs_ne, hs_sort, hset_eq, vupp_eq, hs_over, List.length_set, vup_at, vup_ne, vup_over, vup_sort, mfs_len, n5_f, map_getD, List.length_map, gd_self, gd_ne, Nat.add_sub_cancel, o3', c3]
    refine c_95_75 (by simp) (n5_ge (by decide)) (cRd_o A3.1) ?_
    refine f85 (by decide) A3.1 (fun h4 F4 R4 => ?_)
    simp (disch := first | omega | (simp only [List.length_set]; omega)) only [g_95_0, g_95_1, g_95_4, g_95_7, g_95_11, g_95_12, g_95_14, g_95_15, g_95_18, g_95_19, g_95_22, g_95_23, g_95_26, g_95_27, g_95_30, g_95_33, g_95_36, g_95_37, g_95_38, g_95_39, g_95_42, g_95_46, g_95_47, g_95_50, g_95_53, g_95_54, g_95_60, g_95_61, g_95_64, g_95_67, g_95_70, g_95_71, g_95_74, g_95_78, gs_nx, db_inx, gs_ldi, gs_lda, gs_ldn, List.getElem?_cons_zero, List.getElem?_cons_succ, List.set_cons_zero, List.set_cons_succ, gx5, fx_int, fx_ref, fx_null, px5, gs_lx, gs_ax, sx5, ft_int, ft_ref, ft_b0, ft_b1, c1_int, c1_ref, List.length_cons, List.length_nil, Nat.reduceAdd, Nat.reduceLT, Nat.reduceLeDiff, true_and, and_true, true_or, or_true, not_false_eq_true, Option.toList_some, Option.toList_none, List.nil_append, List.singleton_append, List.cons_append, ↓reduceIte, Bool.and_self, eq_self, z_max, z_min, nI_add, z_sub, z_dec, z_mul, z_div, z_mod, nI_clamp, z_lt, z_nlt, z_le, z_nle, z_ne, z_eq, z_in, not_true_eq_false, if_true, if_false, hs_at, hs_ne, hs_sort, hset_eq, vupp_eq, hs_over, List.length_set, vup_at, vup_ne, vup_over, vup_sort, mfs_len, n5_f, map_getD, List.length_map, gd_self, gd_ne, Nat.add_sub_cancel]
    exact K h4 (Fr_tr F3' (Fr_mono F4 (by decide))) (cX_rd2 F4 A3 R4) (cdW_fr F4 (by decide) C3)
/-- leastTimes -/
theorem g98 {h : db_H} {L S : List Value} {x : Int32} : db_Go 98 1 L (.int x :: S) h P ↔ db_Go 98 (db_tsw x 16 [28, 30, 32] 35) L S h P := g_98_1
theorem m98 {h : db_H} {s : Nat} (hs : s < 2 ^ 31) (K : P (some (.int (nI (ltN s)))) h) : db_Go 98 0 [.int (nI s)] [] h P := by
  have e : db_tsw (nI s) 16 [28, 30, 32] 35 = if s = 16 then 28 else if s = 17 then 30 else if s = 18 then 32 else 35 := by
    show (if nI s = nI 16 then _ else if nI s = nI 17 then _ else if nI s = nI 18 then _ else _) = _
    by_cases h1 : s = 16
    · rw [h1]
      rfl
    · rw [if_neg h1, if_neg (fun q => h1 (nI_inj hs (by decide) q))]
      by_cases h2 : s = 17
      · rw [h2]
        rfl
      · rw [if_neg h2, if_neg (fun q => h2 (nI_inj hs (by decide) q))]
        by_cases h3 : s = 18
        · rw [h3]
          rfl
        · rw [if_neg h3, if_neg (fun q => h3 (nI_inj hs (by decide) q))]
          rfl
  simp (disch := first | omega | (simp only [List.length_set]; omega)) only [g_98_0, g_98_28, g_98_29, g_98_30, g_98_31, g_98_32, g_98_34, g_98_35, g_98_36, gs_nx, db_inx, gs_ldi, gs_lda, gs_ldn, List.getElem?_cons_zero, List.getElem?_cons_succ, List.set_cons_zero, List.set_cons_succ, gx5, fx_int, fx_ref, fx_null, px5, gs_lx, gs_ax, sx5, ft_int, ft_ref, ft_b0, ft_b1, c1_int, c1_ref, List.length_cons, List.length_nil, Nat.reduceAdd, Nat.reduceLT, Nat.reduceLeDiff, true_and, and_true, true_or, or_true, not_false_eq_true, Option.toList_some, Option.toList_none, List.nil_append, List.singleton_append, List.cons_append, ↓reduceIte, Bool.and_self, eq_self, z_max, z_min, nI_add, z_sub, z_dec, z_mul, z_div, z_mod, nI_clamp, z_lt, z_nlt, z_le, z_nle, z_ne, z_eq, z_in, not_true_eq_false, if_true, if_false, hs_at, hs_ne, hs_sort, hset_eq, vupp_eq, hs_over, List.length_set, vup_at, vup_ne, vup_over, vup_sort, mfs_len, n5_f, map_getD, List.length_map, gd_self, gd_ne, Nat.add_sub_cancel]
  rw [g98, e]
  unfold ltN at K
  by_cases h1 : s = 16
  · rw [if_pos h1] at K ⊢
    simp (disch := first | omega | (simp only [List.length_set]; omega)) only [g_98_0, g_98_28, g_98_29, g_98_30, g_98_31, g_98_32, g_98_34, g_98_35, g_98_36, gs_nx, db_inx, gs_ldi, gs_lda, gs_ldn, List.getElem?_cons_zero, List.getElem?_cons_succ, List.set_cons_zero, List.set_cons_succ, gx5, fx_int, fx_ref, fx_null, px5, gs_lx, gs_ax, sx5, ft_int, ft_ref, ft_b0, ft_b1, c1_int, c1_ref, List.length_cons, List.length_nil, Nat.reduceAdd, Nat.reduceLT, Nat.reduceLeDiff, true_and, and_true, true_or, or_true, not_false_eq_true, Option.toList_some, Option.toList_none, List.nil_append, List.singleton_append, List.cons_append, ↓reduceIte, Bool.and_self, eq_self, z_max, z_min, nI_add, z_sub, z_dec, z_mul, z_div, z_mod, nI_clamp, z_lt, z_nlt, z_le, z_nle, z_ne, z_eq, z_in, not_true_eq_false, if_true, if_false, hs_at, hs_ne, hs_sort, hset_eq, vupp_eq, hs_over, List.length_set, vup_at, vup_ne, vup_over, vup_sort, mfs_len, n5_f, map_getD, List.length_map, gd_self, gd_ne, Nat.add_sub_cancel]
    exact K
  · rw [if_neg h1] at K ⊢
    by_cases h2 : s = 17
    · rw [if_pos h2] at K ⊢
      simp (disch := first | omega | (simp only [List.length_set]; omega)) only [g_98_0, g_98_28, g_98_29, g_98_30, g_98_31, g_98_32, g_98_34, g_98_35, g_98_36, gs_nx, db_inx, gs_ldi, gs_lda, gs_ldn, List.getElem?_cons_zero, List.getElem?_cons_succ, List.set_cons_zero, List.set_cons_succ, gx5, fx_int, fx_ref, fx_null, px5, gs_lx, gs_ax, sx5, ft_int, ft_ref, ft_b0, ft_b1, c1_int, c1_ref, List.length_cons, List.length_nil, Nat.reduceAdd, Nat.reduceLT, Nat.reduceLeDiff, true_and, and_true, true_or, or_true, not_false_eq_true, Option.toList_some, Option.toList_none, List.nil_append, List.singleton_append, List.cons_append, ↓reduceIte, Bool.and_self, eq_self, z_max, z_min, nI_add, z_sub, z_dec, z_mul, z_div, z_mod, nI_clamp, z_lt, z_nlt, z_le, z_nle, z_ne, z_eq, z_in, not_true_eq_false, if_true, if_false, hs_at, hs_ne, hs_sort, hset_eq, vupp_eq, hs_over, List.length_set, vup_at, vup_ne, vup_over, vup_sort, mfs_len, n5_f, map_getD, List.length_map, gd_self, gd_ne, Nat.add_sub_cancel]
      exact K
    · rw [if_neg h2] at K ⊢
      by_cases h3 : s = 18
      · rw [if_pos h3] at K ⊢
        simp (disch := first | omega | (simp only [List.length_set]; omega)) only [g_98_0, g_98_28, g_98_29, g_98_30, g_98_31, g_98_32, g_98_34, g_98_35, g_98_36, gs_nx, db_inx, gs_ldi, gs_lda, gs_ldn, List.getElem?_cons_zero, List.getElem?_cons_succ, List.set_cons_zero, List.set_cons_succ, gx5, fx_int, fx_ref, fx_null, px5, gs_lx, gs_ax, sx5, ft_int, ft_ref, ft_b0, ft_b1, c1_int, c1_ref, List.length_cons, List.length_nil, Nat.reduceAdd, Nat.reduceLT, Nat.reduceLeDiff, true_and, and_true, true_or, or_true, not_false_eq_true, Option.toList_some, Option.toList_none, List.nil_append, List.singleton_append, List.cons_append, ↓reduceIte, Bool.and_self, eq_self, z_max, z_min, nI_add, z_sub, z_dec, z_mul, z_div, z_mod, nI_clamp, z_lt, z_nlt, z_le, z_nle, z_ne, z_eq, z_in, not_true_eq_false, if_true, if_false, hs_at, hs_ne, hs_sort, hset_eq, vupp_eq, hs_over, List.length_set, vup_at, vup_ne, vup_over, vup_sort, mfs_len, n5_f, map_getD, List.length_map, gd_self, gd_ne, Nat.add_sub_cancel]
        exact K
      · rw [if_neg h3] at K ⊢
        simp (disch := first | omega | (simp only [List.length_set]; omega)) only [g_98_0, g_98_28, g_98_29, g_98_30, g_98_31, g_98_32, g_98_34, g_98_35, g_98_36, gs_nx, db_inx, gs_ldi, gs_lda, gs_ldn, List.getElem?_cons_zero, List.getElem?_cons_succ, List.set_cons_zero, List.set_cons_succ, gx5, fx_int, fx_ref, fx_null, px5, gs_lx, gs_ax, sx5, ft_int, ft_ref, ft_b0, ft_b1, c1_int, c1_ref, List.length_cons, List.length_nil, Nat.reduceAdd, Nat.reduceLT, Nat.reduceLeDiff, true_and, and_true, true_or, or_true, not_false_eq_true, Option.toList_some, Option.toList_none, List.nil_append, List.singleton_append, List.cons_append, ↓reduceIte, Bool.and_self, eq_self, z_max, z_min, nI_add, z_sub, z_dec, z_mul, z_div, z_mod, nI_clamp, z_lt, z_nlt, z_le, z_nle, z_ne, z_eq, z_in, not_true_eq_false, if_true, if_false, hs_at, hs_ne, hs_sort, hset_eq, vupp_eq, hs_over, List.length_set, vup_at, vup_ne, vup_over, vup_sort, mfs_len, n5_f, map_getD, List.length_map, gd_self, gd_ne, Nat.add_sub_cancel]
        exact K
theorem m98n {h : db_H} (K : P (some (.int (nI 1))) h) : db_Go 98 0 [.int (-1)] [] h P := by
  have e : db_tsw (-1) 16 [28, 30, 32] 35 = 35 := by decide +kernel
  simp (disch := first | omega | (simp only [List.length_set]; omega)) only [g_98_0, g_98_28, g_98_29, g_98_30, g_98_31, g_98_32, g_98_34, g_98_35, g_98_36, gs_nx, db_inx, gs_ldi, gs_lda, gs_ldn, List.getElem?_cons_zero, List.getElem?_cons_succ, List.set_cons_zero, List.set_cons_succ, gx5, fx_int, fx_ref, fx_null, px5, gs_lx, gs_ax, sx5, ft_int, ft_ref, ft_b0, ft_b1, c1_int, c1_ref, List.length_cons, List.length_nil, Nat.reduceAdd, Nat.reduceLT, Nat.reduceLeDiff, true_and, and_true, true_or, or_true, not_false_eq_true, Option.toList_some, Option.toList_none, List.nil_append, List.singleton_append, List.cons_append, ↓reduceIte, Bool.and_self, eq_self, z_max, z_min, nI_add, z_sub, z_dec, z_mul, z_div, z_mod, nI_clamp, z_lt, z_nlt, z_le, z_nle, z_ne, z_eq, z_in, not_true_eq_false, if_true, if_false, hs_at, hs_ne, hs_sort, hset_eq, vupp_eq, hs_over, List.length_set, vup_at, vup_ne, vup_over, vup_sort, mfs_len, n5_f, map_getD, List.length_map, gd_self, gd_ne, Nat.add_sub_cancel]
  rw [g98, e]
  simp (disch := first | omega | (simp only [List.length_set]; omega)) only [g_98_0, g_98_28, g_98_29, g_98_30, g_98_31, g_98_32, g_98_34, g_98_35, g_98_36, gs_nx, db_inx, gs_ldi, gs_lda, gs_ldn, List.getElem?_cons_zero, List.getElem?_cons_succ, List.set_cons_zero, List.set_cons_succ, gx5, fx_int, fx_ref, fx_null, px5, gs_lx, gs_ax, sx5, ft_int, ft_ref, ft_b0, ft_b1, c1_int, c1_ref, List.length_cons, List.length_nil, Nat.reduceAdd, Nat.reduceLT, Nat.reduceLeDiff, true_and, and_true, true_or, or_true, not_false_eq_true, Option.toList_some, Option.toList_none, List.nil_append, List.singleton_append, List.cons_append, ↓reduceIte, Bool.and_self, eq_self, z_max, z_min, nI_add, z_sub, z_dec, z_mul, z_div, z_mod, nI_clamp, z_lt, z_nlt, z_le, z_nle, z_ne, z_eq, z_in, not_true_eq_false, if_true, if_false, hs_at, hs_ne, hs_sort, hset_eq, vupp_eq, hs_over, List.length_set, vup_at, vup_ne, vup_over, vup_sort, mfs_len, n5_f, map_getD, List.length_map, gd_self, gd_ne, Nat.add_sub_cancel]
  exact K
theorem m67n {h : db_H} (K : P (some (.int (nI 0))) h) : db_Go 67 0 [.int (-1)] [] h P := by
  have e : db_tsw (-1) 16 [28, 30, 32] 35 = 35 := by decide +kernel
  simp (disch := first | omega | (simp only [List.length_set]; omega)) only [g_67_0, g_67_28, g_67_29, g_67_30, g_67_31, g_67_32, g_67_34, g_67_35, g_67_36, gs_nx, db_inx, gs_ldi, gs_lda, gs_ldn, List.getElem?_cons_zero, List.getElem?_cons_succ, List.set_cons_zero, List.set_cons_succ, gx5, fx_int, fx_ref, fx_null, px5, gs_lx, gs_ax, sx5, ft_int, ft_ref, ft_b0, ft_b1, c1_int, c1_ref, List.length_cons, List.length_nil, Nat.reduceAdd, Nat.reduceLT, Nat.reduceLeDiff, true_and, and_true, true_or, or_true, not_false_eq_true, Option.toList_some, Option.toList_none, List.nil_append, List.singleton_append, List.cons_append, ↓reduceIte, Bool.and_self, eq_self, z_max, z_min, nI_add, z_sub, z_dec, z_mul, z_div, z_mod, nI_clamp, z_lt, z_nlt, z_le, z_nle, z_ne, z_eq, z_in, not_true_eq_false, if_true, if_false, hs_at, hs_ne, hs_sort, hset_eq, vupp_eq, hs_over, List.length_set, vup_at, vup_ne, vup_over, vup_sort, mfs_len, n5_f, map_getD, List.length_map, gd_self, gd_ne, Nat.add_sub_cancel]
  rw [g67, e]
  simp (disch := first | omega | (simp only [List.length_set]; omega)) only [g_67_0, g_67_28, g_67_29, g_67_30, g_67_31, g_67_32, g_67_34, g_67_35, g_67_36, gs_nx, db_inx, gs_ldi, gs_lda, gs_ldn, List.getElem?_cons_zero, List.getElem?_cons_succ, List.set_cons_zero, List.set_cons_succ, gx5, fx_int, fx_ref, fx_null, px5, gs_lx, gs_ax, sx5, ft_int, ft_ref, ft_b0, ft_b1, c1_int, c1_ref, List.length_cons, List.length_nil, Nat.reduceAdd, Nat.reduceLT, Nat.reduceLeDiff, true_and, and_true, true_or, or_true, not_false_eq_true, Option.toList_some, Option.toList_none, List.nil_append, List.singleton_append, List.cons_append, ↓reduceIte, Bool.and_self, eq_self, z_max, z_min, nI_add, z_sub, z_dec, z_mul, z_div, z_mod, nI_clamp, z_lt, z_nlt, z_le, z_nle, z_ne, z_eq, z_in, not_true_eq_false, if_true, if_false, hs_at, hs_ne, hs_sort, hset_eq, vupp_eq, hs_over, List.length_set, vup_at, vup_ne, vup_over, vup_sort, mfs_len, n5_f, map_getD, List.length_map, gd_self, gd_ne, Nat.add_sub_cancel]
  exact K
/-- isFitForDistances -/
theorem f100 {h : db_H} {o : Nat} {ws : List Nat} (ho : 19 ≤ o) (C : cdW h o ws) (hw : ws.length ≤ 288) (K : P (some (.int (if gcd ws then nI 1 else nI 0))) h) : db_Go 100 0 [.ref o] [] h P := by
  have c := cdW_o C
  have n5 := @n5_ge o (by omega)
  have fi := fit_iff ws
  have gl := gt_le ws 15
  have sl : sn ws 15 ≤ ws.length := by
    rw [sn_countP]
    exact List.countP_le_length
  by_cases q : fu ws 15 = true
  · have g : gcd ws := Or.inl ((fu_nx ws 15).mp q)
    rw [if_pos g] at K
    rw [q] at c
    have eb : bI true = nI 1 := rfl
    rw [eb] at c
    simp (disch := first | omega | (simp only [List.length_set]; omega)) only [g_100_0, g_100_1, g_100_4, g_100_7, g_100_8, g_100_11, g_100_14, g_100_15, g_100_18, g_100_19, g_100_22, g_100_23, g_100_26, g_100_27, g_100_30, g_100_31, g_100_34, g_100_35, gs_nx, db_inx, gs_ldi, gs_lda, gs_ldn, List.getElem?_cons_zero, List.getElem?_cons_succ, List.set_cons_zero, List.set_cons_succ, gx5, fx_int, fx_ref, fx_null, px5, gs_lx, gs_ax, sx5, ft_int, ft_ref, ft_b0, ft_b1, c1_int, c1_ref, List.length_cons, List.length_nil, Nat.reduceAdd, Nat.reduceLT, Nat.reduceLeDiff, true_and, and_true, true_or, or_true, not_false_eq_true, Option.toList_some, Option.toList_none, List.nil_append, List.singleton_append, List.cons_append, ↓reduceIte, Bool.and_self, eq_self, z_max, z_min, nI_add, z_sub, z_dec, z_mul, z_div, z_mod, nI_clamp, z_lt, z_nlt, z_le, z_nle, z_ne, z_eq, z_in, not_true_eq_false, if_true, if_false, hs_at, hs_ne, hs_sort, hset_eq, vupp_eq, hs_over, List.length_set, vup_at, vup_ne, vup_over, vup_sort, mfs_len, n5_f, map_getD, List.length_map, gd_self, gd_ne, Nat.add_sub_cancel, c]
    exact K
  · rw [Bool.eq_false_iff.mpr q] at c
    have eb : bI false = nI 0 := rfl
    rw [eb] at c
    have nf : ¬ nx ws 15 = 32768 := fun z => q ((fu_nx ws 15).mpr z)
    by_cases q2 : sn ws 15 = 0
    · rw [if_pos (show gcd ws from Or.inr (Or.inl q2))] at K
      simp (disch := first | omega | (simp only [List.length_set]; omega)) only [g_100_0, g_100_1, g_100_4, g_100_7, g_100_8, g_100_11, g_100_14, g_100_15, g_100_18, g_100_19, g_100_22, g_100_23, g_100_26, g_100_27, g_100_30, g_100_31, g_100_34, g_100_35, gs_nx, db_inx, gs_ldi, gs_lda, gs_ldn, List.getElem?_cons_zero, List.getElem?_cons_succ, List.set_cons_zero, List.set_cons_succ, gx5, fx_int, fx_ref, fx_null, px5, gs_lx, gs_ax, sx5, ft_int, ft_ref, ft_b0, ft_b1, c1_int, c1_ref, List.length_cons, List.length_nil, Nat.reduceAdd, Nat.reduceLT, Nat.reduceLeDiff, true_and, and_true, true_or, or_true, not_false_eq_true, Option.toList_some, Option.toList_none, List.nil_append, List.singleton_append, List.cons_append, ↓reduceIte, Bool.and_self, eq_self, z_max, z_min, nI_add, z_sub, z_dec, z_mul, z_div, z_mod, nI_clamp, z_lt, z_nlt, z_le, z_nle, z_ne, z_eq, z_in, not_true_eq_false, if_true, if_false, hs_at, hs_ne, hs_sort, hset_eq, vupp_eq, hs_over, List.length_set, vup_at, vup_ne, vup_over, vup_sort, mfs_len, n5_f, map_getD, List.length_map, gd_self, gd_ne, Nat.add_sub_cancel, c]
      exact K
    · by_cases q3 : sn ws 15 = 1
      · by_cases q4 : gt ws 15 = 1
        · rw [if_pos (show gcd ws from Or.inr (Or.inr ⟨q3, q4⟩))] at K
          simp (disch := first | omega | (simp only [List.length_set]; omega)) only [g_100_0, g_100_1, g_100_4, g_100_7, g_100_8, g_100_11, g_100_14, g_100_15, g_100_18, g_100_19, g_100_22, g_100_23, g_100_26, g_100_27, g_100_30, g_100_31, g_100_34, g_100_35, gs_nx, db_inx, gs_ldi, gs_lda, gs_ldn, List.getElem?_cons_zero, List.getElem?_cons_succ, List.set_cons_zero, List.set_cons_succ, gx5, fx_int, fx_ref, fx_null, px5, gs_lx, gs_ax, sx5, ft_int, ft_ref, ft_b0, ft_b1, c1_int, c1_ref, List.length_cons, List.length_nil, Nat.reduceAdd, Nat.reduceLT, Nat.reduceLeDiff, true_and, and_true, true_or, or_true, not_false_eq_true, Option.toList_some, Option.toList_none, List.nil_append, List.singleton_append, List.cons_append, ↓reduceIte, Bool.and_self, eq_self, z_max, z_min, nI_add, z_sub, z_dec, z_mul, z_div, z_mod, nI_clamp, z_lt, z_nlt, z_le, z_nle, z_ne, z_eq, z_in, not_true_eq_false, if_true, if_false, hs_at, hs_ne, hs_sort, hset_eq, vupp_eq, hs_over, List.length_set, vup_at, vup_ne, vup_over, vup_sort, mfs_len, n5_f, map_getD, List.length_map, gd_self, gd_ne, Nat.add_sub_cancel, c]
          exact K
        · rw [if_neg (show ¬ gcd ws from fun z => by unfold gcd at z; omega)] at K
          simp (disch := first | omega | (simp only [List.length_set]; omega)) only [g_100_0, g_100_1, g_100_4, g_100_7, g_100_8, g_100_11, g_100_14, g_100_15, g_100_18, g_100_19, g_100_22, g_100_23, g_100_26, g_100_27, g_100_30, g_100_31, g_100_34, g_100_35, gs_nx, db_inx, gs_ldi, gs_lda, gs_ldn, List.getElem?_cons_zero, List.getElem?_cons_succ, List.set_cons_zero, List.set_cons_succ, gx5, fx_int, fx_ref, fx_null, px5, gs_lx, gs_ax, sx5, ft_int, ft_ref, ft_b0, ft_b1, c1_int, c1_ref, List.length_cons, List.length_nil, Nat.reduceAdd, Nat.reduceLT, Nat.reduceLeDiff, true_and, and_true, true_or, or_true, not_false_eq_true, Option.toList_some, Option.toList_none, List.nil_append, List.singleton_append, List.cons_append, ↓reduceIte, Bool.and_self, eq_self, z_max, z_min, nI_add, z_sub, z_dec, z_mul, z_div, z_mod, nI_clamp, z_lt, z_nlt, z_le, z_nle, z_ne, z_eq, z_in, not_true_eq_false, if_true, if_false, hs_at, hs_ne, hs_sort, hset_eq, vupp_eq, hs_over, List.length_set, vup_at, vup_ne, vup_over, vup_sort, mfs_len, n5_f, map_getD, List.length_map, gd_self, gd_ne, Nat.add_sub_cancel, c]
          exact K
      · rw [if_neg (show ¬ gcd ws from fun z => by unfold gcd at z; omega)] at K
        simp (disch := first | omega | (simp only [List.length_set]; omega)) only [g_100_0, g_100_1, g_100_4, g_100_7, g_100_8, g_100_11, g_100_14, g_100_15, g_100_18, g_100_19, g_100_22, g_100_23, g_100_26, g_100_27, g_100_30, g_100_31, g_100_34, g_100_35, gs_nx, db_inx, gs_ldi, gs_lda, gs_ldn, List.getElem?_cons_zero, List.getElem?_cons_succ, List.set_cons_zero, List.set_cons_succ, gx5, fx_int, fx_ref, fx_null, px5, gs_lx, gs_ax, sx5, ft_int, ft_ref, ft_b0, ft_b1, c1_int, c1_ref, List.length_cons, List.length_nil, Nat.reduceAdd, Nat.reduceLT, Nat.reduceLeDiff, true_and, and_true, true_or, or_true, not_false_eq_true, Option.toList_some, Option.toList_none, List.nil_append, List.singleton_append, List.cons_append, ↓reduceIte, Bool.and_self, eq_self, z_max, z_min, nI_add, z_sub, z_dec, z_mul, z_div, z_mod, nI_clamp, z_lt, z_nlt, z_le, z_nle, z_ne, z_eq, z_in, not_true_eq_false, if_true, if_false, hs_at, hs_ne, hs_sort, hset_eq, vupp_eq, hs_over, List.length_set, vup_at, vup_ne, vup_over, vup_sort, mfs_len, n5_f, map_getD, List.length_map, gd_self, gd_ne, Nat.add_sub_cancel, c]
        exact K
end CW
