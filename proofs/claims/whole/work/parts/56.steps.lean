/-! the bits of steps: class (writeRepeat, writeSteps), model (layFixed, writeSteps) -/
def vN (t : Nat × Nat × Int32) : Nat := t.2.2.toNatClampNeg
def stV (t : Nat × Nat × Int32) : Prop := t.1 < 300 ∧ t.2.2 = nI (vN t) ∧ ((t.2.1 = 1 ∧ vN t < 256) ∨ (3 ≤ t.2.1 ∧ t.2.1 ≤ 258 ∧ 1 ≤ vN t ∧ vN t ≤ 300))
def wbs (ws : List Nat) (s : Nat) : List Bool := wb (wdN ws s) (ws.getD s 0)
def rpB (ws ds : List Nat) (len dist : Nat) : List Bool := wbs ws (257 + ixB LB len 28) ++ fb (nI (len - LB.getD (ixB LB len 28) 0)) 0 (lbN (ixB LB len 28)) ++ wbs ds (ixB DB dist 29) ++ fb (nI (dist - DB.getD (ixB DB dist 29) 0)) 0 (dbN (ixB DB dist 29))
def stB (ws ds : List Nat) (t : Nat × Nat × Int32) : List Bool := if t.2.1 = 1 then wbs ws (vN t) else rpB ws ds t.2.1 (vN t)
/-- the steps, and END behind them -/
def sB (ws ds : List Nat) : List (Nat × Nat × Int32) → List Bool
  | [] => wbs ws 256
  | t :: ts => stB ws ds t ++ sB ws ds ts
theorem wbs_len {ws : List Nat} {s : Nat} : (wbs ws s).length = ws.getD s 0 := wb_len _ _
theorem stB_len {ws ds : List Nat} (h1 : ∀ x ∈ ws, x ≤ 15) (h2 : ∀ x ∈ ds, x ≤ 15) (t : Nat × Nat × Int32) : (stB ws ds t).length ≤ 48 := by
  have a := w15 h1 (vN t)
  have b := w15 h1 (257 + ixB LB t.2.1 28)
  have c := w15 h2 (ixB DB (vN t) 29)
  have d := lbN_le _ (ixB_le LB t.2.1 28)
  have e := dbN_le _ (ixB_le DB (vN t) 29)
  unfold stB rpB
  split
  · rw [wbs_len]
    omega
  · simp only [List.length_append, wbs_len, fb_len]
    omega
section ST
variable {h : db_H} {P : Option Value → db_H → Prop} {W : List Bool}
theorem ixL {v : Nat} : ixB LB v 28 ≤ 28 := ixB_le LB v 28
theorem ixD {v : Nat} : ixB DB v 29 ≤ 29 := ixB_le DB v 29
theorem LBlen : LB.length = 29 := rfl
theorem DBlen : DB.length = 30 := rfl
/-- writeRepeat -/
theorem f62 {o1 o2 len dist : Nat} {ws ds : List Nat} {x4 x5 x6 x7 : Value} (I : cW h W) (h0 : h[0]? = some (.inl (0, LB.map nI))) (h1 : h[1]? = some (.inl (0, DB.map nI))) (hp : h[16]? = some (.inr (7, [.ref 17, .ref 19, .ref 27, .ref 35, x4, x5, x6, x7]))) (ho1 : 19 ≤ o1) (ho2 : 19 ≤ o2) (C1 : cdW h o1 ws) (C2 : cdW h o2 ds) (hl1 : 286 ≤ ws.length) (hl2 : 30 ≤ ds.length) (hlen : 3 ≤ len ∧ len ≤ 258) (hd : 1 ≤ dist ∧ dist ≤ 300) (hn : W.length + 100 < 2 ^ 30)
    (K : ∀ h2, Fr FC h h2 → cW h2 (W ++ rpB ws ds len dist) → P none h2) : db_Go 62 0 [.ref 16, .ref o1, .ref o2, .int (nI len), .int (nI dist), .retAddr 0, .retAddr 0] [] h P := by
  have i1 := ixL (v := len)
  have i2 := ixD (v := dist)
  have b1 := LB_lt (ixB LB len 28)
  have b2 := DB_lt (ixB DB dist 29)
  have c1 := ixB_base LB len (show 3 ≤ len by omega) 28
  have c2 := ixB_base DB dist (show 1 ≤ dist by omega) 29
  have l1 := lbN_le _ i1
  have l2 := dbN_le _ i2
  have q1 := LBlen
  have q2 := DBlen
  have q3 := w15 C1.choose_spec.choose_spec.choose_spec.choose_spec.choose_spec.choose_spec.2.2.2.2.2.2.2.2.2.2 (257 + ixB LB len 28)
  have q4 := w15 C2.choose_spec.choose_spec.choose_spec.choose_spec.choose_spec.choose_spec.2.2.2.2.2.2.2.2.2.2 (ixB DB dist 29)
  simp (disch := first | omega | (simp only [List.length_set]; omega)) only [g_62_0, g_62_3, g_62_7, g_62_9, g_62_10, g_62_13, g_62_14, g_62_17, g_62_19, g_62_23, g_62_24, g_62_27, g_62_28, g_62_31, g_62_33, g_62_34, g_62_35, g_62_43, g_62_46, g_62_51, g_62_53, g_62_54, g_62_57, g_62_58, g_62_63, g_62_64, g_62_67, g_62_69, g_62_72, g_62_74, g_62_75, g_62_76, g_62_84, gs_nx, db_inx, gs_ldi, gs_lda, gs_ldn, List.getElem?_cons_zero, List.getElem?_cons_succ, List.set_cons_zero, List.set_cons_succ, gx5, fx_int, fx_ref, fx_null, px5, gs_lx, gs_ax, sx5, ft_int, ft_ref, ft_b0, ft_b1, c1_int, c1_ref, List.length_cons, List.length_nil, Nat.reduceAdd, Nat.reduceLT, Nat.reduceLeDiff, true_and, and_true, true_or, or_true, not_false_eq_true, Option.toList_some, Option.toList_none, List.nil_append, List.singleton_append, List.cons_append, ↓reduceIte, z_max, z_min, nI_add, z_sub, z_dec, z_mul, z_div, z_mod, nI_clamp, z_lt, z_nlt, z_le, z_nle, z_ne, z_eq, z_in, not_true_eq_false, if_true, if_false, hs_at, hs_ne, hs_sort, hset_eq, vupp_eq, hs_over, List.length_set, vup_at, vup_ne, vup_over, vup_sort, mfs_len, n5_f, map_getD, List.length_map, gd_self, gd_ne, Nat.add_sub_cancel, h0, h1, hp]
  refine c_62_4 (by simp) ?_
  refine m43 h0 (by decide) (by decide) (by omega) (fun i => Nat.lt_trans (LB_lt i) (by decide)) ?_
  rw [show LB.length - 1 = 28 from rfl]
  simp (disch := first | omega | (simp only [List.length_set]; omega)) only [g_62_0, g_62_3, g_62_7, g_62_9, g_62_10, g_62_13, g_62_14, g_62_17, g_62_19, g_62_23, g_62_24, g_62_27, g_62_28, g_62_31, g_62_33, g_62_34, g_62_35, g_62_43, g_62_46, g_62_51, g_62_53, g_62_54, g_62_57, g_62_58, g_62_63, g_62_64, g_62_67, g_62_69, g_62_72, g_62_74, g_62_75, g_62_76, g_62_84, gs_nx, db_inx, gs_ldi, gs_lda, gs_ldn, List.getElem?_cons_zero, List.getElem?_cons_succ, List.set_cons_zero, List.set_cons_succ, gx5, fx_int, fx_ref, fx_null, px5, gs_lx, gs_ax, sx5, ft_int, ft_ref, ft_b0, ft_b1, c1_int, c1_ref, List.length_cons, List.length_nil, Nat.reduceAdd, Nat.reduceLT, Nat.reduceLeDiff, true_and, and_true, true_or, or_true, not_false_eq_true, Option.toList_some, Option.toList_none, List.nil_append, List.singleton_append, List.cons_append, ↓reduceIte, z_max, z_min, nI_add, z_sub, z_dec, z_mul, z_div, z_mod, nI_clamp, z_lt, z_nlt, z_le, z_nle, z_ne, z_eq, z_in, not_true_eq_false, if_true, if_false, hs_at, hs_ne, hs_sort, hset_eq, vupp_eq, hs_over, List.length_set, vup_at, vup_ne, vup_over, vup_sort, mfs_len, n5_f, map_getD, List.length_map, gd_self, gd_ne, Nat.add_sub_cancel, h0, h1, hp]
  refine c_62_20 (by simp) (n5_ge (by omega)) I.2.1 ?_
  refine f63 I ho1 C1 (by omega) (by omega) (fun h2 F2 I2 => ?_)
  have g0 := Fr_get F2 (by decide) h0
  have g1 := Fr_get F2 (by decide) h1
  have gp := Fr_get F2 (by decide) hp
  have D2 := cdW_fr F2 (fun k hk => by simp [FC]; omega) C2
  simp (disch := first | omega | (simp only [List.length_set]; omega)) only [g_62_0, g_62_3, g_62_7, g_62_9, g_62_10, g_62_13, g_62_14, g_62_17, g_62_19, g_62_23, g_62_24, g_62_27, g_62_28, g_62_31, g_62_33, g_62_34, g_62_35, g_62_43, g_62_46, g_62_51, g_62_53, g_62_54, g_62_57, g_62_58, g_62_63, g_62_64, g_62_67, g_62_69, g_62_72, g_62_74, g_62_75, g_62_76, g_62_84, gs_nx, db_inx, gs_ldi, gs_lda, gs_ldn, List.getElem?_cons_zero, List.getElem?_cons_succ, List.set_cons_zero, List.set_cons_succ, gx5, fx_int, fx_ref, fx_null, px5, gs_lx, gs_ax, sx5, ft_int, ft_ref, ft_b0, ft_b1, c1_int, c1_ref, List.length_cons, List.length_nil, Nat.reduceAdd, Nat.reduceLT, Nat.reduceLeDiff, true_and, and_true, true_or, or_true, not_false_eq_true, Option.toList_some, Option.toList_none, List.nil_append, List.singleton_append, List.cons_append, ↓reduceIte, z_max, z_min, nI_add, z_sub, z_dec, z_mul, z_div, z_mod, nI_clamp, z_lt, z_nlt, z_le, z_nle, z_ne, z_eq, z_in, not_true_eq_false, if_true, if_false, hs_at, hs_ne, hs_sort, hset_eq, vupp_eq, hs_over, List.length_set, vup_at, vup_ne, vup_over, vup_sort, mfs_len, n5_f, map_getD, List.length_map, gd_self, gd_ne, Nat.add_sub_cancel, g0, g1, gp]
  refine c_62_37 (by simp) ?_
  refine m64 (by omega) ?_
  simp (disch := first | omega | (simp only [List.length_set]; omega)) only [g_62_0, g_62_3, g_62_7, g_62_9, g_62_10, g_62_13, g_62_14, g_62_17, g_62_19, g_62_23, g_62_24, g_62_27, g_62_28, g_62_31, g_62_33, g_62_34, g_62_35, g_62_43, g_62_46, g_62_51, g_62_53, g_62_54, g_62_57, g_62_58, g_62_63, g_62_64, g_62_67, g_62_69, g_62_72, g_62_74, g_62_75, g_62_76, g_62_84, gs_nx, db_inx, gs_ldi, gs_lda, gs_ldn, List.getElem?_cons_zero, List.getElem?_cons_succ, List.set_cons_zero, List.set_cons_succ, gx5, fx_int, fx_ref, fx_null, px5, gs_lx, gs_ax, sx5, ft_int, ft_ref, ft_b0, ft_b1, c1_int, c1_ref, List.length_cons, List.length_nil, Nat.reduceAdd, Nat.reduceLT, Nat.reduceLeDiff, true_and, and_true, true_or, or_true, not_false_eq_true, Option.toList_some, Option.toList_none, List.nil_append, List.singleton_append, List.cons_append, ↓reduceIte, z_max, z_min, nI_add, z_sub, z_dec, z_mul, z_div, z_mod, nI_clamp, z_lt, z_nlt, z_le, z_nle, z_ne, z_eq, z_in, not_true_eq_false, if_true, if_false, hs_at, hs_ne, hs_sort, hset_eq, vupp_eq, hs_over, List.length_set, vup_at, vup_ne, vup_over, vup_sort, mfs_len, n5_f, map_getD, List.length_map, gd_self, gd_ne, Nat.add_sub_cancel, g0, g1, gp]
  refine c_62_40 (by simp) (n5_ge (by omega)) I2.2.1 ?_
  refine f36 I2 (by omega) (by rw [List.length_append, wb_len]; omega) (fun h3 F3 I3 => ?_)
  have g0 := Fr_get F3 (by decide) g0
  have g1 := Fr_get F3 (by decide) g1
  have gp := Fr_get F3 (by decide) gp
  have D2 := cdW_fr F3 (fun k hk => by simp [FC]; omega) D2
  simp (disch := first | omega | (simp only [List.length_set]; omega)) only [g_62_0, g_62_3, g_62_7, g_62_9, g_62_10, g_62_13, g_62_14, g_62_17, g_62_19, g_62_23, g_62_24, g_62_27, g_62_28, g_62_31, g_62_33, g_62_34, g_62_35, g_62_43, g_62_46, g_62_51, g_62_53, g_62_54, g_62_57, g_62_58, g_62_63, g_62_64, g_62_67, g_62_69, g_62_72, g_62_74, g_62_75, g_62_76, g_62_84, gs_nx, db_inx, gs_ldi, gs_lda, gs_ldn, List.getElem?_cons_zero, List.getElem?_cons_succ, List.set_cons_zero, List.set_cons_succ, gx5, fx_int, fx_ref, fx_null, px5, gs_lx, gs_ax, sx5, ft_int, ft_ref, ft_b0, ft_b1, c1_int, c1_ref, List.length_cons, List.length_nil, Nat.reduceAdd, Nat.reduceLT, Nat.reduceLeDiff, true_and, and_true, true_or, or_true, not_false_eq_true, Option.toList_some, Option.toList_none, List.nil_append, List.singleton_append, List.cons_append, ↓reduceIte, z_max, z_min, nI_add, z_sub, z_dec, z_mul, z_div, z_mod, nI_clamp, z_lt, z_nlt, z_le, z_nle, z_ne, z_eq, z_in, not_true_eq_false, if_true, if_false, hs_at, hs_ne, hs_sort, hset_eq, vupp_eq, hs_over, List.length_set, vup_at, vup_ne, vup_over, vup_sort, mfs_len, n5_f, map_getD, List.length_map, gd_self, gd_ne, Nat.add_sub_cancel, g0, g1, gp]
  refine c_62_48 (by simp) ?_
  refine m43 g1 (by decide) (by decide) (by omega) DB_lt ?_
  rw [show DB.length - 1 = 29 from rfl]
  simp (disch := first | omega | (simp only [List.length_set]; omega)) only [g_62_0, g_62_3, g_62_7, g_62_9, g_62_10, g_62_13, g_62_14, g_62_17, g_62_19, g_62_23, g_62_24, g_62_27, g_62_28, g_62_31, g_62_33, g_62_34, g_62_35, g_62_43, g_62_46, g_62_51, g_62_53, g_62_54, g_62_57, g_62_58, g_62_63, g_62_64, g_62_67, g_62_69, g_62_72, g_62_74, g_62_75, g_62_76, g_62_84, gs_nx, db_inx, gs_ldi, gs_lda, gs_ldn, List.getElem?_cons_zero, List.getElem?_cons_succ, List.set_cons_zero, List.set_cons_succ, gx5, fx_int, fx_ref, fx_null, px5, gs_lx, gs_ax, sx5, ft_int, ft_ref, ft_b0, ft_b1, c1_int, c1_ref, List.length_cons, List.length_nil, Nat.reduceAdd, Nat.reduceLT, Nat.reduceLeDiff, true_and, and_true, true_or, or_true, not_false_eq_true, Option.toList_some, Option.toList_none, List.nil_append, List.singleton_append, List.cons_append, ↓reduceIte, z_max, z_min, nI_add, z_sub, z_dec, z_mul, z_div, z_mod, nI_clamp, z_lt, z_nlt, z_le, z_nle, z_ne, z_eq, z_in, not_true_eq_false, if_true, if_false, hs_at, hs_ne, hs_sort, hset_eq, vupp_eq, hs_over, List.length_set, vup_at, vup_ne, vup_over, vup_sort, mfs_len, n5_f, map_getD, List.length_map, gd_self, gd_ne, Nat.add_sub_cancel, g0, g1, gp]
  refine c_62_60 (by simp) (n5_ge (by omega)) I3.2.1 ?_
  refine f63 I3 ho2 D2 (by omega) (by simp only [List.length_append, wb_len, fb_len]; omega) (fun h4 F4 I4 => ?_)
  have g0 := Fr_get F4 (by decide) g0
  have g1 := Fr_get F4 (by decide) g1
  have gp := Fr_get F4 (by decide) gp
  simp (disch := first | omega | (simp only [List.length_set]; omega)) only [g_62_0, g_62_3, g_62_7, g_62_9, g_62_10, g_62_13, g_62_14, g_62_17, g_62_19, g_62_23, g_62_24, g_62_27, g_62_28, g_62_31, g_62_33, g_62_34, g_62_35, g_62_43, g_62_46, g_62_51, g_62_53, g_62_54, g_62_57, g_62_58, g_62_63, g_62_64, g_62_67, g_62_69, g_62_72, g_62_74, g_62_75, g_62_76, g_62_84, gs_nx, db_inx, gs_ldi, gs_lda, gs_ldn, List.getElem?_cons_zero, List.getElem?_cons_succ, List.set_cons_zero, List.set_cons_succ, gx5, fx_int, fx_ref, fx_null, px5, gs_lx, gs_ax, sx5, ft_int, ft_ref, ft_b0, ft_b1, c1_int, c1_ref, List.length_cons, List.length_nil, Nat.reduceAdd, Nat.reduceLT, Nat.reduceLeDiff, true_and, and_true, true_or, or_true, not_false_eq_true, Option.toList_some, Option.toList_none, List.nil_append, List.singleton_append, List.cons_append, ↓reduceIte, z_max, z_min, nI_add, z_sub, z_dec, z_mul, z_div, z_mod, nI_clamp, z_lt, z_nlt, z_le, z_nle, z_ne, z_eq, z_in, not_true_eq_false, if_true, if_false, hs_at, hs_ne, hs_sort, hset_eq, vupp_eq, hs_over, List.length_set, vup_at, vup_ne, vup_over, vup_sort, mfs_len, n5_f, map_getD, List.length_map, gd_self, gd_ne, Nat.add_sub_cancel, g0, g1, gp]
  refine c_62_78 (by simp) ?_
  refine m65 (by omega) ?_
  simp (disch := first | omega | (simp only [List.length_set]; omega)) only [g_62_0, g_62_3, g_62_7, g_62_9, g_62_10, g_62_13, g_62_14, g_62_17, g_62_19, g_62_23, g_62_24, g_62_27, g_62_28, g_62_31, g_62_33, g_62_34, g_62_35, g_62_43, g_62_46, g_62_51, g_62_53, g_62_54, g_62_57, g_62_58, g_62_63, g_62_64, g_62_67, g_62_69, g_62_72, g_62_74, g_62_75, g_62_76, g_62_84, gs_nx, db_inx, gs_ldi, gs_lda, gs_ldn, List.getElem?_cons_zero, List.getElem?_cons_succ, List.set_cons_zero, List.set_cons_succ, gx5, fx_int, fx_ref, fx_null, px5, gs_lx, gs_ax, sx5, ft_int, ft_ref, ft_b0, ft_b1, c1_int, c1_ref, List.length_cons, List.length_nil, Nat.reduceAdd, Nat.reduceLT, Nat.reduceLeDiff, true_and, and_true, true_or, or_true, not_false_eq_true, Option.toList_some, Option.toList_none, List.nil_append, List.singleton_append, List.cons_append, ↓reduceIte, z_max, z_min, nI_add, z_sub, z_dec, z_mul, z_div, z_mod, nI_clamp, z_lt, z_nlt, z_le, z_nle, z_ne, z_eq, z_in, not_true_eq_false, if_true, if_false, hs_at, hs_ne, hs_sort, hset_eq, vupp_eq, hs_over, List.length_set, vup_at, vup_ne, vup_over, vup_sort, mfs_len, n5_f, map_getD, List.length_map, gd_self, gd_ne, Nat.add_sub_cancel, g0, g1, gp]
  refine c_62_81 (by simp) (n5_ge (by omega)) I4.2.1 ?_
  refine f36 I4 (by omega) (by simp only [List.length_append, wb_len, fb_len]; omega) (fun h5 F5 I5 => ?_)
  simp (disch := first | omega | (simp only [List.length_set]; omega)) only [g_62_0, g_62_3, g_62_7, g_62_9, g_62_10, g_62_13, g_62_14, g_62_17, g_62_19, g_62_23, g_62_24, g_62_27, g_62_28, g_62_31, g_62_33, g_62_34, g_62_35, g_62_43, g_62_46, g_62_51, g_62_53, g_62_54, g_62_57, g_62_58, g_62_63, g_62_64, g_62_67, g_62_69, g_62_72, g_62_74, g_62_75, g_62_76, g_62_84, gs_nx, db_inx, gs_ldi, gs_lda, gs_ldn, List.getElem?_cons_zero, List.getElem?_cons_succ, List.set_cons_zero, List.set_cons_succ, gx5, fx_int, fx_ref, fx_null, px5, gs_lx, gs_ax, sx5, ft_int, ft_ref, ft_b0, ft_b1, c1_int, c1_ref, List.length_cons, List.length_nil, Nat.reduceAdd, Nat.reduceLT, Nat.reduceLeDiff, true_and, and_true, true_or, or_true, not_false_eq_true, Option.toList_some, Option.toList_none, List.nil_append, List.singleton_append, List.cons_append, ↓reduceIte, z_max, z_min, nI_add, z_sub, z_dec, z_mul, z_div, z_mod, nI_clamp, z_lt, z_nlt, z_le, z_nle, z_ne, z_eq, z_in, not_true_eq_false, if_true, if_false, hs_at, hs_ne, hs_sort, hset_eq, vupp_eq, hs_over, List.length_set, vup_at, vup_ne, vup_over, vup_sort, mfs_len, n5_f, map_getD, List.length_map, gd_self, gd_ne, Nat.add_sub_cancel]
  refine K h5 (Fr_tr (Fr_tr F2 F3) (Fr_tr F4 F5)) ?_
  unfold rpB wbs
  simpa only [List.append_assoc] using I5
/-- the class's packer: T the steps, first and end of the BLOCK's -/
def cP (h : db_H) (b e f g : Nat) : Prop := h[16]? = some (.inr (7, [.ref 17, .ref 19, .ref 27, .ref 35, .int (nI b), .int (nI e), .int (nI f), .int (nI g)]))
def cR (h : db_H) (T : List (Nat × Nat × Int32)) : Prop := ∃ pl ln vl x y, h[12]? = some (.inr (9, [.ref 13, .ref 14, .ref 15, .int (nI T.length), x, y])) ∧ h[13]? = some (.inl (0, pl)) ∧ h[14]? = some (.inl (0, ln)) ∧ h[15]? = some (.inl (0, vl)) ∧ stOK pl ln vl T ∧ T.length ≤ 300 ∧ ∀ t ∈ T, stV t
def cT (h : db_H) : Prop := h[0]? = some (.inl (0, LB.map nI)) ∧ h[1]? = some (.inl (0, DB.map nI)) ∧ h[2]? = some (.inl (0, RO.map nI)) ∧ h[3]? = some (.inl (0, db_tab3))
theorem cR_fr {F : List Nat} {h2 : db_H} {T : List (Nat × Nat × Int32)} (f : Fr F h h2) (hF : 12 ∉ F ∧ 13 ∉ F ∧ 14 ∉ F ∧ 15 ∉ F) (R : cR h T) : cR h2 T := by
  obtain ⟨pl, ln, vl, x, y, a, b, c, d, e⟩ := R
  exact ⟨pl, ln, vl, x, y, Fr_get f hF.1 a, Fr_get f hF.2.1 b, Fr_get f hF.2.2.1 c, Fr_get f hF.2.2.2 d, e⟩
theorem cT_fr {F : List Nat} {h2 : db_H} (f : Fr F h h2) (hF : ∀ k, k < 4 → k ∉ F) (R : cT h) : cT h2 := ⟨Fr_get f (hF 0 (by decide)) R.1, Fr_get f (hF 1 (by decide)) R.2.1, Fr_get f (hF 2 (by decide)) R.2.2.1, Fr_get f (hF 3 (by decide)) R.2.2.2⟩
theorem cdW_15 {o : Nat} {ws : List Nat} (C : cdW h o ws) : ∀ x ∈ ws, x ≤ 15 := C.choose_spec.choose_spec.choose_spec.choose_spec.choose_spec.choose_spec.2.2.2.2.2.2.2.2.2.2
theorem drop_cons {T : List (Nat × Nat × Int32)} {i : Nat} {t : Nat × Nat × Int32} (ht : T[i]? = some t) : T.drop i = t :: T.drop (i + 1) := by
  obtain ⟨hi, e⟩ := List.getElem?_eq_some_iff.mp ht
  rw [List.drop_eq_getElem_cons hi, e]
theorem f61_loop {o1 o2 b e f g : Nat} {ws ds : List Nat} {T : List (Nat × Nat × Int32)} (ho1 : 19 ≤ o1) (ho2 : 19 ≤ o2) (hl1 : 286 ≤ ws.length) (hl2 : 30 ≤ ds.length) (hg : g ≤ T.length) : ∀ (d i : Nat) (h : db_H) (W : List Bool), i + d = g → cW h W → cT h → cP h b e f g → cR h T → cdW h o1 ws → cdW h o2 ds → W.length + 100 * d + 100 < 2 ^ 30 → (∀ h2, Fr FC h h2 → cW h2 (W ++ sB ws ds ((T.drop i).take d)) → P none h2) → db_Go 61 10 [.ref 16, .ref 12, .ref o1, .ref o2, .int (nI i)] [] h P := by
  intro d
  induction d with
  | zero =>
    intro i h W hi I hT hp R C1 C2 hn K
    obtain ⟨pl, ln, vl, x, y, e12, e13, e14, e15, hs, hT3, hV⟩ := id R
    unfold cP at hp
    rw [g_61_10]
    simp (disch := first | omega | (simp only [List.length_set]; omega)) only [g_61_0, g_61_1, g_61_2, g_61_5, g_61_8, g_61_12, g_61_13, g_61_16, g_61_19, g_61_21, g_61_24, g_61_27, g_61_28, g_61_31, g_61_33, g_61_34, g_61_35, g_61_38, g_61_39, g_61_40, g_61_41, g_61_42, g_61_45, g_61_47, g_61_48, g_61_49, g_61_52, g_61_54, g_61_58, g_61_61, g_61_62, g_61_65, g_61_66, g_61_67, g_61_70, g_61_72, g_61_76, g_61_79, g_61_82, g_61_83, g_61_86, g_61_87, g_61_93, gs_nx, db_inx, gs_ldi, gs_lda, gs_ldn, List.getElem?_cons_zero, List.getElem?_cons_succ, List.set_cons_zero, List.set_cons_succ, gx5, fx_int, fx_ref, fx_null, px5, gs_lx, gs_ax, sx5, ft_int, ft_ref, ft_b0, ft_b1, c1_int, c1_ref, List.length_cons, List.length_nil, Nat.reduceAdd, Nat.reduceLT, Nat.reduceLeDiff, true_and, and_true, true_or, or_true, not_false_eq_true, Option.toList_some, Option.toList_none, List.nil_append, List.singleton_append, List.cons_append, ↓reduceIte, z_max, z_min, nI_add, z_sub, z_dec, z_mul, z_div, z_mod, nI_clamp, z_lt, z_nlt, z_le, z_nle, z_ne, z_eq, z_in, not_true_eq_false, if_true, if_false, hs_at, hs_ne, hs_sort, hset_eq, vupp_eq, hs_over, List.length_set, vup_at, vup_ne, vup_over, vup_sort, mfs_len, n5_f, map_getD, List.length_map, gd_self, gd_ne, Nat.add_sub_cancel, hp]
    refine c_61_90 (by simp) (n5_ge (by omega)) I.2.1 ?_
    refine f63 I ho1 C1 (by omega) (by omega) (fun h2 F2 I2 => ?_)
    simp (disch := first | omega | (simp only [List.length_set]; omega)) only [g_61_0, g_61_1, g_61_2, g_61_5, g_61_8, g_61_12, g_61_13, g_61_16, g_61_19, g_61_21, g_61_24, g_61_27, g_61_28, g_61_31, g_61_33, g_61_34, g_61_35, g_61_38, g_61_39, g_61_40, g_61_41, g_61_42, g_61_45, g_61_47, g_61_48, g_61_49, g_61_52, g_61_54, g_61_58, g_61_61, g_61_62, g_61_65, g_61_66, g_61_67, g_61_70, g_61_72, g_61_76, g_61_79, g_61_82, g_61_83, g_61_86, g_61_87, g_61_93, gs_nx, db_inx, gs_ldi, gs_lda, gs_ldn, List.getElem?_cons_zero, List.getElem?_cons_succ, List.set_cons_zero, List.set_cons_succ, gx5, fx_int, fx_ref, fx_null, px5, gs_lx, gs_ax, sx5, ft_int, ft_ref, ft_b0, ft_b1, c1_int, c1_ref, List.length_cons, List.length_nil, Nat.reduceAdd, Nat.reduceLT, Nat.reduceLeDiff, true_and, and_true, true_or, or_true, not_false_eq_true, Option.toList_some, Option.toList_none, List.nil_append, List.singleton_append, List.cons_append, ↓reduceIte, z_max, z_min, nI_add, z_sub, z_dec, z_mul, z_div, z_mod, nI_clamp, z_lt, z_nlt, z_le, z_nle, z_ne, z_eq, z_in, not_true_eq_false, if_true, if_false, hs_at, hs_ne, hs_sort, hset_eq, vupp_eq, hs_over, List.length_set, vup_at, vup_ne, vup_over, vup_sort, mfs_len, n5_f, map_getD, List.length_map, gd_self, gd_ne, Nat.add_sub_cancel]
    exact K h2 F2 (by simpa [sB, wbs] using I2)
  | succ d ih =>
    intro i h W hi I hT hp R C1 C2 hn K
    obtain ⟨pl, ln, vl, x, y, e12, e13, e14, e15, hs, hT3, hV⟩ := id R
    have hp0 := hp
    unfold cP at hp
    have hil : i < T.length := by omega
    obtain ⟨t, ht⟩ : ∃ t, T[i]? = some t := ⟨T[i], List.getElem?_eq_getElem hil⟩
    obtain ⟨s1, s2, s3⟩ := hs.2.2.2 i t ht
    obtain ⟨hv0, hv, hc⟩ := hV t (List.mem_of_getElem? ht)
    have z1 := hs.2.1
    have z2 := hs.2.2.1
    rw [hv] at s3
    rw [drop_cons ht, List.take_succ_cons, sB] at K
    have hsl := stB_len (cdW_15 C1) (cdW_15 C2) t
    have go : ∀ h2, Fr FC h h2 → cW h2 (W ++ stB ws ds t) → db_Go 61 10 [.ref 16, .ref 12, .ref o1, .ref o2, .int (nI (i + 1))] [] h2 P := by
      intro h2 F2 I2
      refine ih (i + 1) h2 _ (by omega) I2 (cT_fr F2 (fun k hk => by simp [FC]; omega) hT) (Fr_get F2 (by decide) hp0) (cR_fr F2 (by decide) R) (cdW_fr F2 (fun k hk => by simp [FC]; omega) C1) (cdW_fr F2 (fun k hk => by simp [FC]; omega) C2) (by rw [List.length_append]; omega) (fun h3 F3 I3 => K h3 (Fr_tr F2 F3) (by rw [List.append_assoc] at I3; exact I3))
    rw [g_61_10]
    rcases hc with ⟨c1, c2⟩ | ⟨c1, c2, c3, c4⟩
    · rw [stB, if_pos c1] at go
      rw [c1] at s2
      simp (disch := first | omega | (simp only [List.length_set]; omega)) only [g_61_0, g_61_1, g_61_2, g_61_5, g_61_8, g_61_12, g_61_13, g_61_16, g_61_19, g_61_21, g_61_24, g_61_27, g_61_28, g_61_31, g_61_33, g_61_34, g_61_35, g_61_38, g_61_39, g_61_40, g_61_41, g_61_42, g_61_45, g_61_47, g_61_48, g_61_49, g_61_52, g_61_54, g_61_58, g_61_61, g_61_62, g_61_65, g_61_66, g_61_67, g_61_70, g_61_72, g_61_76, g_61_79, g_61_82, g_61_83, g_61_86, g_61_87, g_61_93, gs_nx, db_inx, gs_ldi, gs_lda, gs_ldn, List.getElem?_cons_zero, List.getElem?_cons_succ, List.set_cons_zero, List.set_cons_succ, gx5, fx_int, fx_ref, fx_null, px5, gs_lx, gs_ax, sx5, ft_int, ft_ref, ft_b0, ft_b1, c1_int, c1_ref, List.length_cons, List.length_nil, Nat.reduceAdd, Nat.reduceLT, Nat.reduceLeDiff, true_and, and_true, true_or, or_true, not_false_eq_true, Option.toList_some, Option.toList_none, List.nil_append, List.singleton_append, List.cons_append, ↓reduceIte, z_max, z_min, nI_add, z_sub, z_dec, z_mul, z_div, z_mod, nI_clamp, z_lt, z_nlt, z_le, z_nle, z_ne, z_eq, z_in, not_true_eq_false, if_true, if_false, hs_at, hs_ne, hs_sort, hset_eq, vupp_eq, hs_over, List.length_set, vup_at, vup_ne, vup_over, vup_sort, mfs_len, n5_f, map_getD, List.length_map, gd_self, gd_ne, Nat.add_sub_cancel, hp, e12, e14, e15, s2, s3]
      refine c_61_73 (by simp) (n5_ge (by omega)) I.2.1 ?_
      refine f63 I ho1 C1 (by omega) (by omega) (fun h2 F2 I2 => ?_)
      simp (disch := first | omega | (simp only [List.length_set]; omega)) only [g_61_0, g_61_1, g_61_2, g_61_5, g_61_8, g_61_12, g_61_13, g_61_16, g_61_19, g_61_21, g_61_24, g_61_27, g_61_28, g_61_31, g_61_33, g_61_34, g_61_35, g_61_38, g_61_39, g_61_40, g_61_41, g_61_42, g_61_45, g_61_47, g_61_48, g_61_49, g_61_52, g_61_54, g_61_58, g_61_61, g_61_62, g_61_65, g_61_66, g_61_67, g_61_70, g_61_72, g_61_76, g_61_79, g_61_82, g_61_83, g_61_86, g_61_87, g_61_93, gs_nx, db_inx, gs_ldi, gs_lda, gs_ldn, List.getElem?_cons_zero, List.getElem?_cons_succ, List.set_cons_zero, List.set_cons_succ, gx5, fx_int, fx_ref, fx_null, px5, gs_lx, gs_ax, sx5, ft_int, ft_ref, ft_b0, ft_b1, c1_int, c1_ref, List.length_cons, List.length_nil, Nat.reduceAdd, Nat.reduceLT, Nat.reduceLeDiff, true_and, and_true, true_or, or_true, not_false_eq_true, Option.toList_some, Option.toList_none, List.nil_append, List.singleton_append, List.cons_append, ↓reduceIte, z_max, z_min, nI_add, z_sub, z_dec, z_mul, z_div, z_mod, nI_clamp, z_lt, z_nlt, z_le, z_nle, z_ne, z_eq, z_in, not_true_eq_false, if_true, if_false, hs_at, hs_ne, hs_sort, hset_eq, vupp_eq, hs_over, List.length_set, vup_at, vup_ne, vup_over, vup_sort, mfs_len, n5_f, map_getD, List.length_map, gd_self, gd_ne, Nat.add_sub_cancel]
      exact go h2 F2 I2
    · rw [stB, if_neg (by omega)] at go
      simp (disch := first | omega | (simp only [List.length_set]; omega)) only [g_61_0, g_61_1, g_61_2, g_61_5, g_61_8, g_61_12, g_61_13, g_61_16, g_61_19, g_61_21, g_61_24, g_61_27, g_61_28, g_61_31, g_61_33, g_61_34, g_61_35, g_61_38, g_61_39, g_61_40, g_61_41, g_61_42, g_61_45, g_61_47, g_61_48, g_61_49, g_61_52, g_61_54, g_61_58, g_61_61, g_61_62, g_61_65, g_61_66, g_61_67, g_61_70, g_61_72, g_61_76, g_61_79, g_61_82, g_61_83, g_61_86, g_61_87, g_61_93, gs_nx, db_inx, gs_ldi, gs_lda, gs_ldn, List.getElem?_cons_zero, List.getElem?_cons_succ, List.set_cons_zero, List.set_cons_succ, gx5, fx_int, fx_ref, fx_null, px5, gs_lx, gs_ax, sx5, ft_int, ft_ref, ft_b0, ft_b1, c1_int, c1_ref, List.length_cons, List.length_nil, Nat.reduceAdd, Nat.reduceLT, Nat.reduceLeDiff, true_and, and_true, true_or, or_true, not_false_eq_true, Option.toList_some, Option.toList_none, List.nil_append, List.singleton_append, List.cons_append, ↓reduceIte, z_max, z_min, nI_add, z_sub, z_dec, z_mul, z_div, z_mod, nI_clamp, z_lt, z_nlt, z_le, z_nle, z_ne, z_eq, z_in, not_true_eq_false, if_true, if_false, hs_at, hs_ne, hs_sort, hset_eq, vupp_eq, hs_over, List.length_set, vup_at, vup_ne, vup_over, vup_sort, mfs_len, n5_f, map_getD, List.length_map, gd_self, gd_ne, Nat.add_sub_cancel, hp, e12, e14, e15, s2, s3]
      refine c_61_55 (by simp) (n5_ge (by omega)) hp ?_
      refine f62 I hT.1 hT.2.1 hp ho1 ho2 C1 C2 hl1 hl2 ⟨c1, c2⟩ ⟨c3, c4⟩ (by omega) (fun h2 F2 I2 => ?_)
      simp (disch := first | omega | (simp only [List.length_set]; omega)) only [g_61_0, g_61_1, g_61_2, g_61_5, g_61_8, g_61_12, g_61_13, g_61_16, g_61_19, g_61_21, g_61_24, g_61_27, g_61_28, g_61_31, g_61_33, g_61_34, g_61_35, g_61_38, g_61_39, g_61_40, g_61_41, g_61_42, g_61_45, g_61_47, g_61_48, g_61_49, g_61_52, g_61_54, g_61_58, g_61_61, g_61_62, g_61_65, g_61_66, g_61_67, g_61_70, g_61_72, g_61_76, g_61_79, g_61_82, g_61_83, g_61_86, g_61_87, g_61_93, gs_nx, db_inx, gs_ldi, gs_lda, gs_ldn, List.getElem?_cons_zero, List.getElem?_cons_succ, List.set_cons_zero, List.set_cons_succ, gx5, fx_int, fx_ref, fx_null, px5, gs_lx, gs_ax, sx5, ft_int, ft_ref, ft_b0, ft_b1, c1_int, c1_ref, List.length_cons, List.length_nil, Nat.reduceAdd, Nat.reduceLT, Nat.reduceLeDiff, true_and, and_true, true_or, or_true, not_false_eq_true, Option.toList_some, Option.toList_none, List.nil_append, List.singleton_append, List.cons_append, ↓reduceIte, z_max, z_min, nI_add, z_sub, z_dec, z_mul, z_div, z_mod, nI_clamp, z_lt, z_nlt, z_le, z_nle, z_ne, z_eq, z_in, not_true_eq_false, if_true, if_false, hs_at, hs_ne, hs_sort, hset_eq, vupp_eq, hs_over, List.length_set, vup_at, vup_ne, vup_over, vup_sort, mfs_len, n5_f, map_getD, List.length_map, gd_self, gd_ne, Nat.add_sub_cancel]
      exact go h2 F2 I2
/-- writeSteps -/
theorem f61 {o1 o2 b e f g : Nat} {ws ds : List Nat} {T : List (Nat × Nat × Int32)} (I : cW h W) (hT : cT h) (hp : cP h b e f g) (R : cR h T) (ho1 : 19 ≤ o1) (ho2 : 19 ≤ o2) (C1 : cdW h o1 ws) (C2 : cdW h o2 ds) (hl1 : 286 ≤ ws.length) (hl2 : 30 ≤ ds.length) (hf : f ≤ g) (hg : g ≤ T.length) (hn : W.length + 40000 < 2 ^ 30) (K : ∀ h2, Fr FC h h2 → cW h2 (W ++ sB ws ds ((T.drop f).take (g - f))) → P none h2) : db_Go 61 0 [.ref 16, .ref 12, .ref o1, .ref o2, .retAddr 0] [] h P := by
  obtain ⟨pl, ln, vl, x, y, e12, e13, e14, e15, hs, hT3, hV⟩ := id R
  have hp0 := hp
  unfold cP at hp
  simp (disch := first | omega | (simp only [List.length_set]; omega)) only [g_61_0, g_61_1, g_61_2, g_61_5, g_61_8, g_61_12, g_61_13, g_61_16, g_61_19, g_61_21, g_61_24, g_61_27, g_61_28, g_61_31, g_61_33, g_61_34, g_61_35, g_61_38, g_61_39, g_61_40, g_61_41, g_61_42, g_61_45, g_61_47, g_61_48, g_61_49, g_61_52, g_61_54, g_61_58, g_61_61, g_61_62, g_61_65, g_61_66, g_61_67, g_61_70, g_61_72, g_61_76, g_61_79, g_61_82, g_61_83, g_61_86, g_61_87, g_61_93, gs_nx, db_inx, gs_ldi, gs_lda, gs_ldn, List.getElem?_cons_zero, List.getElem?_cons_succ, List.set_cons_zero, List.set_cons_succ, gx5, fx_int, fx_ref, fx_null, px5, gs_lx, gs_ax, sx5, ft_int, ft_ref, ft_b0, ft_b1, c1_int, c1_ref, List.length_cons, List.length_nil, Nat.reduceAdd, Nat.reduceLT, Nat.reduceLeDiff, true_and, and_true, true_or, or_true, not_false_eq_true, Option.toList_some, Option.toList_none, List.nil_append, List.singleton_append, List.cons_append, ↓reduceIte, z_max, z_min, nI_add, z_sub, z_dec, z_mul, z_div, z_mod, nI_clamp, z_lt, z_nlt, z_le, z_nle, z_ne, z_eq, z_in, not_true_eq_false, if_true, if_false, hs_at, hs_ne, hs_sort, hset_eq, vupp_eq, hs_over, List.length_set, vup_at, vup_ne, vup_over, vup_sort, mfs_len, n5_f, map_getD, List.length_map, gd_self, gd_ne, Nat.add_sub_cancel, hp]
  rw [Nat.zero_max]
  exact f61_loop ho1 ho2 hl1 hl2 hg (g - f) f h W (by omega) I hT hp0 R C1 C2 (by omega) K
/-! the model -/
def fxS : List Nat := List.replicate 144 8 ++ List.replicate 112 9 ++ List.replicate 24 7 ++ List.replicate 8 8
def fxD : List Nat := List.replicate 32 5
theorem fxS_len : fxS.length = 288 := by
  simp only [fxS, List.length_append, List.length_replicate]
theorem fxS_at : ∀ s, s < 288 → fxS.getD s 0 = (if s < 144 then 8 else if s < 256 then 9 else if s < 280 then 7 else 8) := by decide +kernel
theorem set_next {l : List Int32} {ws : List Nat} {i : Nat} (hl : l.length = ws.length) (hi : i < ws.length) (h : l.take i = (ws.map nI).take i) : (l.set i (nI (ws.getD i 0))).take (i + 1) = (ws.map nI).take (i + 1) := by
  have e : (ws.map nI)[i]? = some (nI (ws.getD i 0)) := by rw [List.getElem?_map, List.getD_eq_getElem?_getD, List.getElem?_eq_getElem hi]; rfl
  rw [List.take_succ, List.take_succ, List.getElem?_set_self (by omega), List.take_set_of_le (by omega), h, e]
end ST
section MF
variable {h : db_H} {P : Option Value → db_H → Prop} {M : Nat → Int32} {W : List Bool}
theorem m133_a (hl : 164 < h.length) (hM : h[127]? = some (.inr (12, mfs M))) (K : ∀ x, db_Go 133 59 [.ref 127, x] [] (h.set 147 (.inl (0, fxS.map nI))) P) : ∀ (d s : Nat) (a : List Int32), s + d = 288 → a.length = fxS.length → a.take s = (fxS.map nI).take s → db_Go 133 2 [.ref 127, .int (nI s)] [] (h.set 147 (.inl (0, a))) P := by
  have q := fxS_len
  intro d
  induction d with
  | zero =>
    intro s a hs ha hz
    rw [List.take_of_length_le (by omega), List.take_of_length_le (by simp; omega)] at hz
    rw [g_133_2]
    simp (disch := first | omega | (simp only [List.length_set]; omega)) only [g_133_0, g_133_1, g_133_3, g_133_6, g_133_9, g_133_10, g_133_13, g_133_14, g_133_15, g_133_18, g_133_21, g_133_23, g_133_26, g_133_27, g_133_30, g_133_33, g_133_35, g_133_38, g_133_39, g_133_42, g_133_45, g_133_47, g_133_50, g_133_52, g_133_53, g_133_56, g_133_60, g_133_61, g_133_62, g_133_64, g_133_67, g_133_68, g_133_71, g_133_72, g_133_73, g_133_74, g_133_77, g_133_80, gs_nx, db_inx, gs_ldi, gs_lda, gs_ldn, List.getElem?_cons_zero, List.getElem?_cons_succ, List.set_cons_zero, List.set_cons_succ, gx5, fx_int, fx_ref, fx_null, px5, gs_lx, gs_ax, sx5, ft_int, ft_ref, ft_b0, ft_b1, c1_int, c1_ref, List.length_cons, List.length_nil, Nat.reduceAdd, Nat.reduceLT, Nat.reduceLeDiff, true_and, and_true, true_or, or_true, not_false_eq_true, Option.toList_some, Option.toList_none, List.nil_append, List.singleton_append, List.cons_append, ↓reduceIte, z_max, z_min, nI_add, z_sub, z_dec, z_mul, z_div, z_mod, nI_clamp, z_lt, z_nlt, z_le, z_nle, z_ne, z_eq, z_in, not_true_eq_false, if_true, if_false, hs_at, hs_ne, hs_sort, hset_eq, vupp_eq, hs_over, List.length_set, vup_at, vup_ne, vup_over, vup_sort, mfs_len, n5_f, map_getD, List.length_map, gd_self, gd_ne, Nat.add_sub_cancel, mg_27, mg_28, hM]
    rw [hz]
    exact K _
  | succ d ih =>
    intro s a hs ha hz
    have hf := fxS_at s (by omega)
    have := ih (s + 1) _ (by omega) (by simpa using ha) (set_next ha (by omega) hz)
    rw [g_133_2]
    by_cases c1 : s < 144
    · rw [if_pos c1] at hf
      rw [hf] at this
      simp (disch := first | omega | (simp only [List.length_set]; omega)) only [g_133_0, g_133_1, g_133_3, g_133_6, g_133_9, g_133_10, g_133_13, g_133_14, g_133_15, g_133_18, g_133_21, g_133_23, g_133_26, g_133_27, g_133_30, g_133_33, g_133_35, g_133_38, g_133_39, g_133_42, g_133_45, g_133_47, g_133_50, g_133_52, g_133_53, g_133_56, g_133_60, g_133_61, g_133_62, g_133_64, g_133_67, g_133_68, g_133_71, g_133_72, g_133_73, g_133_74, g_133_77, g_133_80, gs_nx, db_inx, gs_ldi, gs_lda, gs_ldn, List.getElem?_cons_zero, List.getElem?_cons_succ, List.set_cons_zero, List.set_cons_succ, gx5, fx_int, fx_ref, fx_null, px5, gs_lx, gs_ax, sx5, ft_int, ft_ref, ft_b0, ft_b1, c1_int, c1_ref, List.length_cons, List.length_nil, Nat.reduceAdd, Nat.reduceLT, Nat.reduceLeDiff, true_and, and_true, true_or, or_true, not_false_eq_true, Option.toList_some, Option.toList_none, List.nil_append, List.singleton_append, List.cons_append, ↓reduceIte, z_max, z_min, nI_add, z_sub, z_dec, z_mul, z_div, z_mod, nI_clamp, z_lt, z_nlt, z_le, z_nle, z_ne, z_eq, z_in, not_true_eq_false, if_true, if_false, hs_at, hs_ne, hs_sort, hset_eq, vupp_eq, hs_over, List.length_set, vup_at, vup_ne, vup_over, vup_sort, mfs_len, n5_f, map_getD, List.length_map, gd_self, gd_ne, Nat.add_sub_cancel, mg_27, mg_28, hM]
      exact this
    · by_cases c2 : s < 256
      · rw [if_neg c1, if_pos c2] at hf
        rw [hf] at this
        simp (disch := first | omega | (simp only [List.length_set]; omega)) only [g_133_0, g_133_1, g_133_3, g_133_6, g_133_9, g_133_10, g_133_13, g_133_14, g_133_15, g_133_18, g_133_21, g_133_23, g_133_26, g_133_27, g_133_30, g_133_33, g_133_35, g_133_38, g_133_39, g_133_42, g_133_45, g_133_47, g_133_50, g_133_52, g_133_53, g_133_56, g_133_60, g_133_61, g_133_62, g_133_64, g_133_67, g_133_68, g_133_71, g_133_72, g_133_73, g_133_74, g_133_77, g_133_80, gs_nx, db_inx, gs_ldi, gs_lda, gs_ldn, List.getElem?_cons_zero, List.getElem?_cons_succ, List.set_cons_zero, List.set_cons_succ, gx5, fx_int, fx_ref, fx_null, px5, gs_lx, gs_ax, sx5, ft_int, ft_ref, ft_b0, ft_b1, c1_int, c1_ref, List.length_cons, List.length_nil, Nat.reduceAdd, Nat.reduceLT, Nat.reduceLeDiff, true_and, and_true, true_or, or_true, not_false_eq_true, Option.toList_some, Option.toList_none, List.nil_append, List.singleton_append, List.cons_append, ↓reduceIte, z_max, z_min, nI_add, z_sub, z_dec, z_mul, z_div, z_mod, nI_clamp, z_lt, z_nlt, z_le, z_nle, z_ne, z_eq, z_in, not_true_eq_false, if_true, if_false, hs_at, hs_ne, hs_sort, hset_eq, vupp_eq, hs_over, List.length_set, vup_at, vup_ne, vup_over, vup_sort, mfs_len, n5_f, map_getD, List.length_map, gd_self, gd_ne, Nat.add_sub_cancel, mg_27, mg_28, hM]
        exact this
      · by_cases c3 : s < 280
        · rw [if_neg c1, if_neg c2, if_pos c3] at hf
          rw [hf] at this
          simp (disch := first | omega | (simp only [List.length_set]; omega)) only [g_133_0, g_133_1, g_133_3, g_133_6, g_133_9, g_133_10, g_133_13, g_133_14, g_133_15, g_133_18, g_133_21, g_133_23, g_133_26, g_133_27, g_133_30, g_133_33, g_133_35, g_133_38, g_133_39, g_133_42, g_133_45, g_133_47, g_133_50, g_133_52, g_133_53, g_133_56, g_133_60, g_133_61, g_133_62, g_133_64, g_133_67, g_133_68, g_133_71, g_133_72, g_133_73, g_133_74, g_133_77, g_133_80, gs_nx, db_inx, gs_ldi, gs_lda, gs_ldn, List.getElem?_cons_zero, List.getElem?_cons_succ, List.set_cons_zero, List.set_cons_succ, gx5, fx_int, fx_ref, fx_null, px5, gs_lx, gs_ax, sx5, ft_int, ft_ref, ft_b0, ft_b1, c1_int, c1_ref, List.length_cons, List.length_nil, Nat.reduceAdd, Nat.reduceLT, Nat.reduceLeDiff, true_and, and_true, true_or, or_true, not_false_eq_true, Option.toList_some, Option.toList_none, List.nil_append, List.singleton_append, List.cons_append, ↓reduceIte, z_max, z_min, nI_add, z_sub, z_dec, z_mul, z_div, z_mod, nI_clamp, z_lt, z_nlt, z_le, z_nle, z_ne, z_eq, z_in, not_true_eq_false, if_true, if_false, hs_at, hs_ne, hs_sort, hset_eq, vupp_eq, hs_over, List.length_set, vup_at, vup_ne, vup_over, vup_sort, mfs_len, n5_f, map_getD, List.length_map, gd_self, gd_ne, Nat.add_sub_cancel, mg_27, mg_28, hM]
          exact this
        · rw [if_neg c1, if_neg c2, if_neg c3] at hf
          rw [hf] at this
          simp (disch := first | omega | (simp only [List.length_set]; omega)) only [g_133_0, g_133_1, g_133_3, g_133_6, g_133_9, g_133_10, g_133_13, g_133_14, g_133_15, g_133_18, g_133_21, g_133_23, g_133_26, g_133_27, g_133_30, g_133_33, g_133_35, g_133_38, g_133_39, g_133_42, g_133_45, g_133_47, g_133_50, g_133_52, g_133_53, g_133_56, g_133_60, g_133_61, g_133_62, g_133_64, g_133_67, g_133_68, g_133_71, g_133_72, g_133_73, g_133_74, g_133_77, g_133_80, gs_nx, db_inx, gs_ldi, gs_lda, gs_ldn, List.getElem?_cons_zero, List.getElem?_cons_succ, List.set_cons_zero, List.set_cons_succ, gx5, fx_int, fx_ref, fx_null, px5, gs_lx, gs_ax, sx5, ft_int, ft_ref, ft_b0, ft_b1, c1_int, c1_ref, List.length_cons, List.length_nil, Nat.reduceAdd, Nat.reduceLT, Nat.reduceLeDiff, true_and, and_true, true_or, or_true, not_false_eq_true, Option.toList_some, Option.toList_none, List.nil_append, List.singleton_append, List.cons_append, ↓reduceIte, z_max, z_min, nI_add, z_sub, z_dec, z_mul, z_div, z_mod, nI_clamp, z_lt, z_nlt, z_le, z_nle, z_ne, z_eq, z_in, not_true_eq_false, if_true, if_false, hs_at, hs_ne, hs_sort, hset_eq, vupp_eq, hs_over, List.length_set, vup_at, vup_ne, vup_over, vup_sort, mfs_len, n5_f, map_getD, List.length_map, gd_self, gd_ne, Nat.add_sub_cancel, mg_27, mg_28, hM]
          exact this
theorem m133_b (hl : 164 < h.length) (hM : h[127]? = some (.inr (12, mfs M))) (K : P none (h.set 148 (.inl (0, fxD.map nI)))) : ∀ (d s : Nat) (a : List Int32), s + d = 32 → a.length = fxD.length → a.take s = (fxD.map nI).take s → db_Go 133 61 [.ref 127, .int (nI s)] [] (h.set 148 (.inl (0, a))) P := by
  have q : fxD.length = 32 := rfl
  intro d
  induction d with
  | zero =>
    intro s a hs ha hz
    rw [List.take_of_length_le (by omega), List.take_of_length_le (by simp; omega)] at hz
    rw [g_133_61]
    simp (disch := first | omega | (simp only [List.length_set]; omega)) only [g_133_0, g_133_1, g_133_3, g_133_6, g_133_9, g_133_10, g_133_13, g_133_14, g_133_15, g_133_18, g_133_21, g_133_23, g_133_26, g_133_27, g_133_30, g_133_33, g_133_35, g_133_38, g_133_39, g_133_42, g_133_45, g_133_47, g_133_50, g_133_52, g_133_53, g_133_56, g_133_59, g_133_60, g_133_62, g_133_64, g_133_67, g_133_68, g_133_71, g_133_72, g_133_73, g_133_74, g_133_77, g_133_80, gs_nx, db_inx, gs_ldi, gs_lda, gs_ldn, List.getElem?_cons_zero, List.getElem?_cons_succ, List.set_cons_zero, List.set_cons_succ, gx5, fx_int, fx_ref, fx_null, px5, gs_lx, gs_ax, sx5, ft_int, ft_ref, ft_b0, ft_b1, c1_int, c1_ref, List.length_cons, List.length_nil, Nat.reduceAdd, Nat.reduceLT, Nat.reduceLeDiff, true_and, and_true, true_or, or_true, not_false_eq_true, Option.toList_some, Option.toList_none, List.nil_append, List.singleton_append, List.cons_append, ↓reduceIte, z_max, z_min, nI_add, z_sub, z_dec, z_mul, z_div, z_mod, nI_clamp, z_lt, z_nlt, z_le, z_nle, z_ne, z_eq, z_in, not_true_eq_false, if_true, if_false, hs_at, hs_ne, hs_sort, hset_eq, vupp_eq, hs_over, List.length_set, vup_at, vup_ne, vup_over, vup_sort, mfs_len, n5_f, map_getD, List.length_map, gd_self, gd_ne, Nat.add_sub_cancel, mg_27, mg_28, hM]
    rw [hz]
    exact K
  | succ d ih =>
    intro s a hs ha hz
    have hf : fxD.getD s 0 = 5 := by rw [List.getD_eq_getElem?_getD, fxD, List.getElem?_replicate, if_pos (by omega)]; rfl
    have := ih (s + 1) _ (by omega) (by simpa using ha) (set_next ha (by omega) hz)
    rw [hf] at this
    rw [g_133_61]
    simp (disch := first | omega | (simp only [List.length_set]; omega)) only [g_133_0, g_133_1, g_133_3, g_133_6, g_133_9, g_133_10, g_133_13, g_133_14, g_133_15, g_133_18, g_133_21, g_133_23, g_133_26, g_133_27, g_133_30, g_133_33, g_133_35, g_133_38, g_133_39, g_133_42, g_133_45, g_133_47, g_133_50, g_133_52, g_133_53, g_133_56, g_133_59, g_133_60, g_133_62, g_133_64, g_133_67, g_133_68, g_133_71, g_133_72, g_133_73, g_133_74, g_133_77, g_133_80, gs_nx, db_inx, gs_ldi, gs_lda, gs_ldn, List.getElem?_cons_zero, List.getElem?_cons_succ, List.set_cons_zero, List.set_cons_succ, gx5, fx_int, fx_ref, fx_null, px5, gs_lx, gs_ax, sx5, ft_int, ft_ref, ft_b0, ft_b1, c1_int, c1_ref, List.length_cons, List.length_nil, Nat.reduceAdd, Nat.reduceLT, Nat.reduceLeDiff, true_and, and_true, true_or, or_true, not_false_eq_true, Option.toList_some, Option.toList_none, List.nil_append, List.singleton_append, List.cons_append, ↓reduceIte, z_max, z_min, nI_add, z_sub, z_dec, z_mul, z_div, z_mod, nI_clamp, z_lt, z_nlt, z_le, z_nle, z_ne, z_eq, z_in, not_true_eq_false, if_true, if_false, hs_at, hs_ne, hs_sort, hset_eq, vupp_eq, hs_over, List.length_set, vup_at, vup_ne, vup_over, vup_sort, mfs_len, n5_f, map_getD, List.length_map, gd_self, gd_ne, Nat.add_sub_cancel, mg_27, mg_28, hM]
    exact this
/-- layFixed -/
theorem m133 {a b : List Int32} (hl : 164 < h.length) (hM : h[127]? = some (.inr (12, mfs M))) (ha : h[147]? = some (.inl (0, a))) (hb : h[148]? = some (.inl (0, b))) (la : a.length = 288) (lb : b.length = 32) (K : ∀ h2, Fr [147, 148] h h2 → h2[147]? = some (.inl (0, fxS.map nI)) → h2[148]? = some (.inl (0, fxD.map nI)) → P none h2) : db_Go 133 0 [.ref 127, .retAddr 0] [] h P := by
  simp (disch := first | omega | (simp only [List.length_set]; omega)) only [g_133_0, g_133_1, g_133_3, g_133_6, g_133_9, g_133_10, g_133_13, g_133_14, g_133_15, g_133_18, g_133_21, g_133_23, g_133_26, g_133_27, g_133_30, g_133_33, g_133_35, g_133_38, g_133_39, g_133_42, g_133_45, g_133_47, g_133_50, g_133_52, g_133_53, g_133_56, g_133_59, g_133_60, g_133_61, g_133_62, g_133_64, g_133_67, g_133_68, g_133_71, g_133_72, g_133_73, g_133_74, g_133_77, g_133_80, gs_nx, db_inx, gs_ldi, gs_lda, gs_ldn, List.getElem?_cons_zero, List.getElem?_cons_succ, List.set_cons_zero, List.set_cons_succ, gx5, fx_int, fx_ref, fx_null, px5, gs_lx, gs_ax, sx5, ft_int, ft_ref, ft_b0, ft_b1, c1_int, c1_ref, List.length_cons, List.length_nil, Nat.reduceAdd, Nat.reduceLT, Nat.reduceLeDiff, true_and, and_true, true_or, or_true, not_false_eq_true, Option.toList_some, Option.toList_none, List.nil_append, List.singleton_append, List.cons_append, ↓reduceIte, z_max, z_min, nI_add, z_sub, z_dec, z_mul, z_div, z_mod, nI_clamp, z_lt, z_nlt, z_le, z_nle, z_ne, z_eq, z_in, not_true_eq_false, if_true, if_false, hs_at, hs_ne, hs_sort, hset_eq, vupp_eq, hs_over, List.length_set, vup_at, vup_ne, vup_over, vup_sort, mfs_len, n5_f, map_getD, List.length_map, gd_self, gd_ne, Nat.add_sub_cancel, mg_27, mg_28]
  rw [← hs_self ha]
  refine m133_a hl hM (fun x => ?_) 288 0 a rfl (by rw [fxS_len]; exact la) rfl
  simp (disch := first | omega | (simp only [List.length_set]; omega)) only [g_133_0, g_133_1, g_133_2, g_133_3, g_133_6, g_133_9, g_133_10, g_133_13, g_133_14, g_133_15, g_133_18, g_133_21, g_133_23, g_133_26, g_133_27, g_133_30, g_133_33, g_133_35, g_133_38, g_133_39, g_133_42, g_133_45, g_133_47, g_133_50, g_133_52, g_133_53, g_133_56, g_133_59, g_133_60, g_133_62, g_133_64, g_133_67, g_133_68, g_133_71, g_133_72, g_133_73, g_133_74, g_133_77, g_133_80, gs_nx, db_inx, gs_ldi, gs_lda, gs_ldn, List.getElem?_cons_zero, List.getElem?_cons_succ, List.set_cons_zero, List.set_cons_succ, gx5, fx_int, fx_ref, fx_null, px5, gs_lx, gs_ax, sx5, ft_int, ft_ref, ft_b0, ft_b1, c1_int, c1_ref, List.length_cons, List.length_nil, Nat.reduceAdd, Nat.reduceLT, Nat.reduceLeDiff, true_and, and_true, true_or, or_true, not_false_eq_true, Option.toList_some, Option.toList_none, List.nil_append, List.singleton_append, List.cons_append, ↓reduceIte, z_max, z_min, nI_add, z_sub, z_dec, z_mul, z_div, z_mod, nI_clamp, z_lt, z_nlt, z_le, z_nle, z_ne, z_eq, z_in, not_true_eq_false, if_true, if_false, hs_at, hs_ne, hs_sort, hset_eq, vupp_eq, hs_over, List.length_set, vup_at, vup_ne, vup_over, vup_sort, mfs_len, n5_f, map_getD, List.length_map, gd_self, gd_ne, Nat.add_sub_cancel, mg_27, mg_28]
  rw [← hs_self (h := h.set 147 _) (o := 148) (c := .inl (0, b)) (by simp (disch := first | omega | (simp only [List.length_set]; omega)) only [hs_at, hs_ne, List.length_set, hb])]
  refine m133_b (M := M) (by simpa using hl) (by simp (disch := first | omega | (simp only [List.length_set]; omega)) only [hs_at, hs_ne, List.length_set, hM]) ?_ 32 0 b rfl lb rfl
  exact K _ (Fr_s (Fr_set (by decide)) (by decide)) (by simp (disch := first | omega | (simp only [List.length_set]; omega)) only [hs_at, hs_ne, List.length_set]) (by simp (disch := first | omega | (simp only [List.length_set]; omega)) only [hs_at, hs_ne, List.length_set])
end MF
