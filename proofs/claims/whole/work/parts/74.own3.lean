/-! OwnCodes of the class: workOutRowCode, workOut, write -/
section OW3
variable {h : db_H} {P : Option Value → db_H → Prop} {W : List Bool}
theorem gt_ge (ws : List Nat) {x : Nat} (hx : x ∈ ws) (h1 : 1 ≤ x) : ∀ n, x ≤ n → x ≤ gt ws n
  | 0, h => by omega
  | n + 1, h => by
    rw [gt]
    by_cases e : x = n + 1
    · rw [← e, if_pos (List.count_pos_iff.mpr hx)]
      exact Nat.le_refl x
    · split
      · omega
      · exact gt_ge ws hx h1 n (by omega)
theorem gt_mem (ws : List Nat) : ∀ n, 0 < gt ws n → gt ws n ∈ ws
  | 0, h => absurd h (by simp [gt])
  | n + 1, h => by
    rw [gt] at h ⊢
    split
    · rename_i hc
      exact List.count_pos_iff.mp hc
    · rename_i hc
      rw [if_neg hc] at h
      exact gt_mem ws n h
theorem gt_le (ws : List Nat) : ∀ n, gt ws n ≤ n
  | 0 => Nat.le_refl 0
  | n + 1 => by
    rw [gt]
    split
    · exact Nat.le_refl _
    · exact Nat.le_succ_of_le (gt_le ws n)
theorem gt_any {ws : List Nat} (h15 : ∀ x ∈ ws, x ≤ 15) : ws.any (fun w => decide (7 < w)) = decide (7 < gt ws 15) := by
  by_cases q : 7 < gt ws 15
  · rw [decide_eq_true q, List.any_eq_true]
    exact ⟨_, gt_mem ws 15 (by omega), decide_eq_true q⟩
  · rw [decide_eq_false q, List.any_eq_false]
    intro x hx
    have := gt_ge ws hx
    have := h15 x hx
    simp only [decide_eq_true_eq]
    intro q2
    have := gt_ge ws hx (by omega) 15 (h15 x hx)
    omega
theorem cdS_j {o : Nat} {ws ws2 : List Nat} {F : List Nat} {h2 : db_H} (C : cdS h o ws) (f : Fr F h h2) (hF : ∀ k, k < 8 → ¬ k = 5 → o + k ∉ F) (hw : h2[o + 5]? = some (.inl (0, ws2.map nI))) (hl : ws2.length = ws.length) : cdS h2 o ws2 := by
  obtain ⟨ct, fw, st, gv, wo, sy, wc, gr, fl, c0, c1, c2, c3, c4, c5, c6, c7, r⟩ := C
  rw [← hl] at r
  exact ⟨ct, fw, st, gv, wo, sy, wc, gr, fl, Fr_get f (hF 0 (by decide) (by decide)) c0, Fr_get f (hF 1 (by decide) (by decide)) c1, Fr_get f (hF 2 (by decide) (by decide)) c2, Fr_get f (hF 3 (by decide) (by decide)) c3, Fr_get f (hF 4 (by decide) (by decide)) c4, hw, Fr_get f (hF 6 (by decide) (by decide)) c6, Fr_get f (hF 7 (by decide) (by decide)) c7, r⟩
theorem cdS_w {o : Nat} {ws : List Nat} (C : cdS h o ws) : h[o + 5]? = some (.inl (0, ws.map nI)) := by
  obtain ⟨ct, fw, st, gv, wo, sy, wc, gr, fl, c0, c1, c2, c3, c4, c5, c6, c7, r⟩ := C
  exact c5
theorem cdS_o {o : Nat} {ws : List Nat} (C : cdS h o ws) : ∃ wc gr fl, h[o]? = some (.inr (2, [.ref (o + 5), .ref (o + 6), .ref (o + 7), .ref (o + 1), .ref (o + 2), .ref (o + 3), .ref (o + 4), .int wc, .int gr, .int fl])) := by
  obtain ⟨ct, fw, st, gv, wo, sy, wc, gr, fl, c0, c1, c2, c3, c4, c5, c6, c7, r⟩ := C
  exact ⟨wc, gr, fl, c0⟩
theorem cdS_fr {o : Nat} {ws : List Nat} {F : List Nat} {h2 : db_H} (f : Fr F h h2) (hF : ∀ k, k < 8 → o + k ∉ F) (C : cdS h o ws) : cdS h2 o ws := cdS_j C f (fun k hk _ => hF k hk) (Fr_get f (hF 5 (by decide)) (cdS_w C)) rfl
theorem jS_fr {F : List Nat} {h2 : db_H} (f : Fr F h h2) (hF : ∀ k, k < 5 → 60 + k ∉ F) (J : jS h) : jS h2 := by
  obtain ⟨a, b, c, d, la, nu, jt, dd, h60, h61, h62, h63, h64, r⟩ := J
  exact ⟨a, b, c, d, la, nu, jt, dd, Fr_get f (hF 0 (by decide)) h60, Fr_get f (hF 1 (by decide)) h61, Fr_get f (hF 2 (by decide)) h62, Fr_get f (hF 3 (by decide)) h63, Fr_get f (hF 4 (by decide)) h64, r⟩
theorem jS_o (J : jS h) : ∃ fs, h[60]? = some (.inr (4, fs)) := by
  obtain ⟨a, b, c, d, la, nu, jt, dd, h60, _⟩ := J
  exact ⟨_, h60⟩
def FRC : List Nat := [52, 53, 54, 55, 56, 57, 58, 59, 60, 61, 62, 63, 64, 67]
/-- join and settle the row's code -/
theorem m55_l {a b c d' : Int32} (hT : cT h) (h35 : h[35]? = some (owC a b c d')) : ∀ (k i : Nat) (cs : List Nat) (h1 : db_H), i + k = 9 → (∀ v ∈ cs, v ≤ 2 ^ k) → cs.length = 19 → cs.sum < 2 ^ 10 → Fr FRC h h1 → 164 < h1.length → jS h1 → h1[67]? = some (.inl (0, cs.map nI)) → cdW h1 52 (hufW cs) → (∀ h2 x, Fr FRC h h2 → jS h2 → cdW h2 52 (hufW (hvF k cs)) → ar h2 67 19 → db_Go 55 83 [.ref 35, x] [] h2 P) → db_Go 55 27 [.ref 35, .int (nI i)] [] h1 P := by
  intro k
  induction k with
  | zero =>
    intro i cs h1 hi hb hc hs F1 hl1 J1 h67 C1 K
    have nw := wide_1 hb (by omega)
    have e15 := cdW_15 C1
    unfold wide at nw
    rw [gt_any e15, decide_eq_false_iff_not] at nw
    have h35' := Fr_get F1 (by decide) h35
    unfold owC at h35'
    have o1 := cdW_o C1
    simp only [Nat.reduceAdd] at o1
    rw [g_55_27]
    simp (disch := first | omega | (simp only [List.length_set]; omega)) only [g_55_0, g_55_1, g_55_4, g_55_5, g_55_8, g_55_9, g_55_12, g_55_18, g_55_19, g_55_25, g_55_26, g_55_28, g_55_30, g_55_33, g_55_34, g_55_37, g_55_40, g_55_42, g_55_45, g_55_46, g_55_52, g_55_53, g_55_56, g_55_57, g_55_60, g_55_61, g_55_64, g_55_70, g_55_71, g_55_77, g_55_80, g_55_84, g_55_87, g_55_88, g_55_92, g_55_95, g_55_96, g_55_99, g_55_100, g_55_103, g_55_106, g_55_109, g_55_110, g_55_113, g_55_114, g_55_115, g_55_116, g_55_117, g_55_120, g_55_121, g_55_122, g_55_125, g_55_126, g_55_127, g_55_130, g_55_133, gs_nx, db_inx, gs_ldi, gs_lda, gs_ldn, List.getElem?_cons_zero, List.getElem?_cons_succ, List.set_cons_zero, List.set_cons_succ, gx5, fx_int, fx_ref, fx_null, px5, gs_lx, gs_ax, sx5, ft_int, ft_ref, ft_b0, ft_b1, c1_int, c1_ref, List.length_cons, List.length_nil, Nat.reduceAdd, Nat.reduceLT, Nat.reduceLeDiff, true_and, and_true, true_or, or_true, not_false_eq_true, Option.toList_some, Option.toList_none, List.nil_append, List.singleton_append, List.cons_append, ↓reduceIte, Bool.and_self, eq_self, z_max, z_min, nI_add, z_sub, z_dec, z_mul, z_div, z_mod, nI_clamp, z_lt, z_nlt, z_le, z_nle, z_ne, z_eq, z_in, not_true_eq_false, if_true, if_false, hs_at, hs_ne, hs_sort, hset_eq, vupp_eq, hs_over, List.length_set, vup_at, vup_ne, vup_over, vup_sort, mfs_len, n5_f, map_getD, List.length_map, gd_self, gd_ne, Nat.add_sub_cancel, h35', o1]
    exact K h1 _ F1 J1 C1 ⟨_, h67, by rw [List.length_map]; exact hc⟩
  | succ k ih =>
    intro i cs h1 hi hb hc hs F1 hl1 J1 h67 C1 K
    have e15 := cdW_15 C1
    have h35' := Fr_get F1 (by decide) h35
    unfold owC at h35'
    have o1 := cdW_o C1
    have gl := gt_le (hufW cs) 15
    simp only [Nat.reduceAdd] at o1
    rw [hvF] at K
    unfold wide at K
    rw [gt_any e15] at K
    rw [g_55_27]
    by_cases q : 7 < gt (hufW cs) 15
    · rw [if_pos (decide_eq_true q)] at K
      simp (disch := first | omega | (simp only [List.length_set]; omega)) only [g_55_0, g_55_1, g_55_4, g_55_5, g_55_8, g_55_9, g_55_12, g_55_18, g_55_19, g_55_25, g_55_26, g_55_28, g_55_30, g_55_33, g_55_34, g_55_37, g_55_40, g_55_42, g_55_45, g_55_46, g_55_52, g_55_53, g_55_56, g_55_57, g_55_60, g_55_61, g_55_64, g_55_70, g_55_71, g_55_77, g_55_80, g_55_84, g_55_87, g_55_88, g_55_92, g_55_95, g_55_96, g_55_99, g_55_100, g_55_103, g_55_106, g_55_109, g_55_110, g_55_113, g_55_114, g_55_115, g_55_116, g_55_117, g_55_120, g_55_121, g_55_122, g_55_125, g_55_126, g_55_127, g_55_130, g_55_133, gs_nx, db_inx, gs_ldi, gs_lda, gs_ldn, List.getElem?_cons_zero, List.getElem?_cons_succ, List.set_cons_zero, List.set_cons_succ, gx5, fx_int, fx_ref, fx_null, px5, gs_lx, gs_ax, sx5, ft_int, ft_ref, ft_b0, ft_b1, c1_int, c1_ref, List.length_cons, List.length_nil, Nat.reduceAdd, Nat.reduceLT, Nat.reduceLeDiff, true_and, and_true, true_or, or_true, not_false_eq_true, Option.toList_some, Option.toList_none, List.nil_append, List.singleton_append, List.cons_append, ↓reduceIte, Bool.and_self, eq_self, z_max, z_min, nI_add, z_sub, z_dec, z_mul, z_div, z_mod, nI_clamp, z_lt, z_nlt, z_le, z_nle, z_ne, z_eq, z_in, not_true_eq_false, if_true, if_false, hs_at, hs_ne, hs_sort, hset_eq, vupp_eq, hs_over, List.length_set, vup_at, vup_ne, vup_over, vup_sort, mfs_len, n5_f, map_getD, List.length_map, gd_self, gd_ne, Nat.add_sub_cancel, h35', o1]
      refine c_55_49 (by simp) ?_
      refine f56 (by decide) h67 (by omega) (cs_b (by omega)) ?_
      have F2 : Fr [67] h1 (h1.set 67 (.inl (0, (hlv cs).map nI))) := Fr_set (by decide)
      have h67b : (h1.set 67 (.inl (0, (hlv cs).map nI)))[67]? = some (.inl (0, (hlv cs).map nI)) := by simp (disch := first | omega | (simp only [List.length_set]; omega)) only [hs_at, hs_ne, List.length_set]
      generalize h1.set 67 (.inl (0, (hlv cs).map nI)) = h2 at *
      have h35' := Fr_get F2 (by decide) h35'
      have o1 := Fr_get F2 (by decide) o1
      have J2 := jS_fr F2 (by decide) J1
      have C2 := cdW_fr F2 (by decide) C1
      obtain ⟨fs, hj⟩ := jS_o J2
      simp (disch := first | omega | (simp only [List.length_set]; omega)) only [g_55_0, g_55_1, g_55_4, g_55_5, g_55_8, g_55_9, g_55_12, g_55_18, g_55_19, g_55_25, g_55_26, g_55_28, g_55_30, g_55_33, g_55_34, g_55_37, g_55_40, g_55_42, g_55_45, g_55_46, g_55_52, g_55_53, g_55_56, g_55_57, g_55_60, g_55_61, g_55_64, g_55_70, g_55_71, g_55_77, g_55_80, g_55_84, g_55_87, g_55_88, g_55_92, g_55_95, g_55_96, g_55_99, g_55_100, g_55_103, g_55_106, g_55_109, g_55_110, g_55_113, g_55_114, g_55_115, g_55_116, g_55_117, g_55_120, g_55_121, g_55_122, g_55_125, g_55_126, g_55_127, g_55_130, g_55_133, gs_nx, db_inx, gs_ldi, gs_lda, gs_ldn, List.getElem?_cons_zero, List.getElem?_cons_succ, List.set_cons_zero, List.set_cons_succ, gx5, fx_int, fx_ref, fx_null, px5, gs_lx, gs_ax, sx5, ft_int, ft_ref, ft_b0, ft_b1, c1_int, c1_ref, List.length_cons, List.length_nil, Nat.reduceAdd, Nat.reduceLT, Nat.reduceLeDiff, true_and, and_true, true_or, or_true, not_false_eq_true, Option.toList_some, Option.toList_none, List.nil_append, List.singleton_append, List.cons_append, ↓reduceIte, Bool.and_self, eq_self, z_max, z_min, nI_add, z_sub, z_dec, z_mul, z_div, z_mod, nI_clamp, z_lt, z_nlt, z_le, z_nle, z_ne, z_eq, z_in, not_true_eq_false, if_true, if_false, hs_at, hs_ne, hs_sort, hset_eq, vupp_eq, hs_over, List.length_set, vup_at, vup_ne, vup_over, vup_sort, mfs_len, n5_f, map_getD, List.length_map, gd_self, gd_ne, Nat.add_sub_cancel, h35', o1]
      refine c_55_67 (by simp) (n5_ge (by decide)) hj ?_
      refine f44 (Fr_len F2 hl1) J2 h67b (by decide) (cdW_w C2) (by decide) (by rw [List.length_map, hufW_len, hlv_len]) (by rw [hlv_len]; omega) (by have := hlv_sum cs; omega) (fun h3 F3 J3 w3 => ?_)
      have h35' := Fr_get F3 (by decide) h35'
      have C3 := cdS_j (cdS_W C2) F3 (by decide) w3 (by rw [hufW_len, hufW_len, hlv_len])
      obtain ⟨_, _, _, o3⟩ := cdS_o C3
      simp (disch := first | omega | (simp only [List.length_set]; omega)) only [g_55_0, g_55_1, g_55_4, g_55_5, g_55_8, g_55_9, g_55_12, g_55_18, g_55_19, g_55_25, g_55_26, g_55_28, g_55_30, g_55_33, g_55_34, g_55_37, g_55_40, g_55_42, g_55_45, g_55_46, g_55_52, g_55_53, g_55_56, g_55_57, g_55_60, g_55_61, g_55_64, g_55_70, g_55_71, g_55_77, g_55_80, g_55_84, g_55_87, g_55_88, g_55_92, g_55_95, g_55_96, g_55_99, g_55_100, g_55_103, g_55_106, g_55_109, g_55_110, g_55_113, g_55_114, g_55_115, g_55_116, g_55_117, g_55_120, g_55_121, g_55_122, g_55_125, g_55_126, g_55_127, g_55_130, g_55_133, gs_nx, db_inx, gs_ldi, gs_lda, gs_ldn, List.getElem?_cons_zero, List.getElem?_cons_succ, List.set_cons_zero, List.set_cons_succ, gx5, fx_int, fx_ref, fx_null, px5, gs_lx, gs_ax, sx5, ft_int, ft_ref, ft_b0, ft_b1, c1_int, c1_ref, List.length_cons, List.length_nil, Nat.reduceAdd, Nat.reduceLT, Nat.reduceLeDiff, true_and, and_true, true_or, or_true, not_false_eq_true, Option.toList_some, Option.toList_none, List.nil_append, List.singleton_append, List.cons_append, ↓reduceIte, Bool.and_self, eq_self, z_max, z_min, nI_add, z_sub, z_dec, z_mul, z_div, z_mod, nI_clamp, z_lt, z_nlt, z_le, z_nle, z_ne, z_eq, z_in, not_true_eq_false, if_true, if_false, hs_at, hs_ne, hs_sort, hset_eq, vupp_eq, hs_over, List.length_set, vup_at, vup_ne, vup_over, vup_sort, mfs_len, n5_f, map_getD, List.length_map, gd_self, gd_ne, Nat.add_sub_cancel, h35']
      refine c_55_74 (by simp) (n5_ge (by decide)) o3 ?_
      refine f9 (by decide) C3 (by rw [hufW_len, hlv_len]; omega) (hufW_le (by decide) (Nat.lt_of_le_of_lt (hlv_sum cs) (Nat.lt_of_lt_of_le hs (by decide)))) (fun h4 F4 C4 => ?_)
      simp (disch := first | omega | (simp only [List.length_set]; omega)) only [g_55_0, g_55_1, g_55_4, g_55_5, g_55_8, g_55_9, g_55_12, g_55_18, g_55_19, g_55_25, g_55_26, g_55_28, g_55_30, g_55_33, g_55_34, g_55_37, g_55_40, g_55_42, g_55_45, g_55_46, g_55_52, g_55_53, g_55_56, g_55_57, g_55_60, g_55_61, g_55_64, g_55_70, g_55_71, g_55_77, g_55_80, g_55_84, g_55_87, g_55_88, g_55_92, g_55_95, g_55_96, g_55_99, g_55_100, g_55_103, g_55_106, g_55_109, g_55_110, g_55_113, g_55_114, g_55_115, g_55_116, g_55_117, g_55_120, g_55_121, g_55_122, g_55_125, g_55_126, g_55_127, g_55_130, g_55_133, gs_nx, db_inx, gs_ldi, gs_lda, gs_ldn, List.getElem?_cons_zero, List.getElem?_cons_succ, List.set_cons_zero, List.set_cons_succ, gx5, fx_int, fx_ref, fx_null, px5, gs_lx, gs_ax, sx5, ft_int, ft_ref, ft_b0, ft_b1, c1_int, c1_ref, List.length_cons, List.length_nil, Nat.reduceAdd, Nat.reduceLT, Nat.reduceLeDiff, true_and, and_true, true_or, or_true, not_false_eq_true, Option.toList_some, Option.toList_none, List.nil_append, List.singleton_append, List.cons_append, ↓reduceIte, Bool.and_self, eq_self, z_max, z_min, nI_add, z_sub, z_dec, z_mul, z_div, z_mod, nI_clamp, z_lt, z_nlt, z_le, z_nle, z_ne, z_eq, z_in, not_true_eq_false, if_true, if_false, hs_at, hs_ne, hs_sort, hset_eq, vupp_eq, hs_over, List.length_set, vup_at, vup_ne, vup_over, vup_sort, mfs_len, n5_f, map_getD, List.length_map, gd_self, gd_ne, Nat.add_sub_cancel]
      exact ih (i + 1) (hlv cs) h4 (by omega) (hlv_le hb) (by rw [hlv_len]; exact hc) (by have := hlv_sum cs; omega) (Fr_tr F1 (Fr_tr (Fr_mono F2 (by decide)) (Fr_tr (Fr_mono F3 (by decide)) (Fr_mono F4 (by decide))))) (Fr_len F4 (Fr_len F3 (Fr_len F2 hl1))) (jS_fr F4 (by decide) J3) (Fr_get F4 (by decide) (Fr_get F3 (by decide) h67b)) C4 K
    · rw [if_neg (by rw [decide_eq_true_eq]; exact q)] at K
      simp (disch := first | omega | (simp only [List.length_set]; omega)) only [g_55_0, g_55_1, g_55_4, g_55_5, g_55_8, g_55_9, g_55_12, g_55_18, g_55_19, g_55_25, g_55_26, g_55_28, g_55_30, g_55_33, g_55_34, g_55_37, g_55_40, g_55_42, g_55_45, g_55_46, g_55_52, g_55_53, g_55_56, g_55_57, g_55_60, g_55_61, g_55_64, g_55_70, g_55_71, g_55_77, g_55_80, g_55_84, g_55_87, g_55_88, g_55_92, g_55_95, g_55_96, g_55_99, g_55_100, g_55_103, g_55_106, g_55_109, g_55_110, g_55_113, g_55_114, g_55_115, g_55_116, g_55_117, g_55_120, g_55_121, g_55_122, g_55_125, g_55_126, g_55_127, g_55_130, g_55_133, gs_nx, db_inx, gs_ldi, gs_lda, gs_ldn, List.getElem?_cons_zero, List.getElem?_cons_succ, List.set_cons_zero, List.set_cons_succ, gx5, fx_int, fx_ref, fx_null, px5, gs_lx, gs_ax, sx5, ft_int, ft_ref, ft_b0, ft_b1, c1_int, c1_ref, List.length_cons, List.length_nil, Nat.reduceAdd, Nat.reduceLT, Nat.reduceLeDiff, true_and, and_true, true_or, or_true, not_false_eq_true, Option.toList_some, Option.toList_none, List.nil_append, List.singleton_append, List.cons_append, ↓reduceIte, Bool.and_self, eq_self, z_max, z_min, nI_add, z_sub, z_dec, z_mul, z_div, z_mod, nI_clamp, z_lt, z_nlt, z_le, z_nle, z_ne, z_eq, z_in, not_true_eq_false, if_true, if_false, hs_at, hs_ne, hs_sort, hset_eq, vupp_eq, hs_over, List.length_set, vup_at, vup_ne, vup_over, vup_sort, mfs_len, n5_f, map_getD, List.length_map, gd_self, gd_ne, Nat.add_sub_cancel, h35', o1]
      exact K h1 _ F1 J1 C1 ⟨_, h67, by rw [List.length_map]; exact hc⟩
theorem m55_t {a b d' : Int32} {ws : List Nat} (hl : 164 < h.length) (hT : cT h) (C : cdW h 52 ws) (hw : ws.length = 19) {x : Value} : ∀ n, n ≤ 19 → 4 ≤ n → P none (h.set 35 (owC a b (nI (utl (fun k => ws.getD (RO.getD k 0) 0) 4 n)) d')) → db_Go 55 91 [.ref 35, x] [] (h.set 35 (owC a b (nI n) d')) P := by
  have t2 := hT.2.2.1
  have o1 := cdW_o C
  have w1 := cdW_w C
  have e15 := cdW_15 C
  simp only [Nat.reduceAdd] at o1 w1
  have lR : RO.length = 19 := rfl
  intro n
  induction n with
  | zero => intro _ h; omega
  | succ n ih =>
    intro hn h0 K
    have b1 := w15 e15 (RO.getD n 0)
    have b2 := RO_lt n (by omega)
    rw [utl] at K
    unfold owC at K ih ⊢
    rw [g_55_91]
    by_cases q : 4 < n + 1
    · by_cases q2 : ws.getD (RO.getD n 0) 0 = 0
      · rw [if_pos ⟨q, q2⟩] at K
        simp (disch := first | omega | (simp only [List.length_set]; omega)) only [g_55_0, g_55_1, g_55_4, g_55_5, g_55_8, g_55_9, g_55_12, g_55_18, g_55_19, g_55_25, g_55_26, g_55_27, g_55_28, g_55_30, g_55_33, g_55_34, g_55_37, g_55_40, g_55_42, g_55_45, g_55_46, g_55_52, g_55_53, g_55_56, g_55_57, g_55_60, g_55_61, g_55_64, g_55_70, g_55_71, g_55_77, g_55_80, g_55_83, g_55_84, g_55_87, g_55_88, g_55_92, g_55_95, g_55_96, g_55_99, g_55_100, g_55_103, g_55_106, g_55_109, g_55_110, g_55_113, g_55_114, g_55_115, g_55_116, g_55_117, g_55_120, g_55_121, g_55_122, g_55_125, g_55_126, g_55_127, g_55_130, g_55_133, gs_nx, db_inx, gs_ldi, gs_lda, gs_ldn, List.getElem?_cons_zero, List.getElem?_cons_succ, List.set_cons_zero, List.set_cons_succ, gx5, fx_int, fx_ref, fx_null, px5, gs_lx, gs_ax, sx5, ft_int, ft_ref, ft_b0, ft_b1, c1_int, c1_ref, List.length_cons, List.length_nil, Nat.reduceAdd, Nat.reduceLT, Nat.reduceLeDiff, true_and, and_true, true_or, or_true, not_false_eq_true, Option.toList_some, Option.toList_none, List.nil_append, List.singleton_append, List.cons_append, ↓reduceIte, Bool.and_self, eq_self, z_max, z_min, nI_add, z_sub, z_dec, z_mul, z_div, z_mod, nI_clamp, z_lt, z_nlt, z_le, z_nle, z_ne, z_eq, z_in, not_true_eq_false, if_true, if_false, hs_at, hs_ne, hs_sort, hset_eq, vupp_eq, hs_over, List.length_set, vup_at, vup_ne, vup_over, vup_sort, mfs_len, n5_f, map_getD, List.length_map, gd_self, gd_ne, Nat.add_sub_cancel, o1, w1, t2, lR, q2]
        exact ih (by omega) (by omega) K
      · rw [if_neg (fun g => q2 g.2)] at K
        simp (disch := first | omega | (simp only [List.length_set]; omega)) only [g_55_0, g_55_1, g_55_4, g_55_5, g_55_8, g_55_9, g_55_12, g_55_18, g_55_19, g_55_25, g_55_26, g_55_27, g_55_28, g_55_30, g_55_33, g_55_34, g_55_37, g_55_40, g_55_42, g_55_45, g_55_46, g_55_52, g_55_53, g_55_56, g_55_57, g_55_60, g_55_61, g_55_64, g_55_70, g_55_71, g_55_77, g_55_80, g_55_83, g_55_84, g_55_87, g_55_88, g_55_92, g_55_95, g_55_96, g_55_99, g_55_100, g_55_103, g_55_106, g_55_109, g_55_110, g_55_113, g_55_114, g_55_115, g_55_116, g_55_117, g_55_120, g_55_121, g_55_122, g_55_125, g_55_126, g_55_127, g_55_130, g_55_133, gs_nx, db_inx, gs_ldi, gs_lda, gs_ldn, List.getElem?_cons_zero, List.getElem?_cons_succ, List.set_cons_zero, List.set_cons_succ, gx5, fx_int, fx_ref, fx_null, px5, gs_lx, gs_ax, sx5, ft_int, ft_ref, ft_b0, ft_b1, c1_int, c1_ref, List.length_cons, List.length_nil, Nat.reduceAdd, Nat.reduceLT, Nat.reduceLeDiff, true_and, and_true, true_or, or_true, not_false_eq_true, Option.toList_some, Option.toList_none, List.nil_append, List.singleton_append, List.cons_append, ↓reduceIte, Bool.and_self, eq_self, z_max, z_min, nI_add, z_sub, z_dec, z_mul, z_div, z_mod, nI_clamp, z_lt, z_nlt, z_le, z_nle, z_ne, z_eq, z_in, not_true_eq_false, if_true, if_false, hs_at, hs_ne, hs_sort, hset_eq, vupp_eq, hs_over, List.length_set, vup_at, vup_ne, vup_over, vup_sort, mfs_len, n5_f, map_getD, List.length_map, gd_self, gd_ne, Nat.add_sub_cancel, o1, w1, t2, lR]
        exact K
    · rw [if_neg (fun g => q g.1)] at K
      simp (disch := first | omega | (simp only [List.length_set]; omega)) only [g_55_0, g_55_1, g_55_4, g_55_5, g_55_8, g_55_9, g_55_12, g_55_18, g_55_19, g_55_25, g_55_26, g_55_27, g_55_28, g_55_30, g_55_33, g_55_34, g_55_37, g_55_40, g_55_42, g_55_45, g_55_46, g_55_52, g_55_53, g_55_56, g_55_57, g_55_60, g_55_61, g_55_64, g_55_70, g_55_71, g_55_77, g_55_80, g_55_83, g_55_84, g_55_87, g_55_88, g_55_92, g_55_95, g_55_96, g_55_99, g_55_100, g_55_103, g_55_106, g_55_109, g_55_110, g_55_113, g_55_114, g_55_115, g_55_116, g_55_117, g_55_120, g_55_121, g_55_122, g_55_125, g_55_126, g_55_127, g_55_130, g_55_133, gs_nx, db_inx, gs_ldi, gs_lda, gs_ldn, List.getElem?_cons_zero, List.getElem?_cons_succ, List.set_cons_zero, List.set_cons_succ, gx5, fx_int, fx_ref, fx_null, px5, gs_lx, gs_ax, sx5, ft_int, ft_ref, ft_b0, ft_b1, c1_int, c1_ref, List.length_cons, List.length_nil, Nat.reduceAdd, Nat.reduceLT, Nat.reduceLeDiff, true_and, and_true, true_or, or_true, not_false_eq_true, Option.toList_some, Option.toList_none, List.nil_append, List.singleton_append, List.cons_append, ↓reduceIte, Bool.and_self, eq_self, z_max, z_min, nI_add, z_sub, z_dec, z_mul, z_div, z_mod, nI_clamp, z_lt, z_nlt, z_le, z_nle, z_ne, z_eq, z_in, not_true_eq_false, if_true, if_false, hs_at, hs_ne, hs_sort, hset_eq, vupp_eq, hs_over, List.length_set, vup_at, vup_ne, vup_over, vup_sort, mfs_len, n5_f, map_getD, List.length_map, gd_self, gd_ne, Nat.add_sub_cancel, o1, w1, t2, lR]
      exact K
/-- workOutRowCode -/
theorem f55 {a b c d' : Int32} {cs ws0 : List Nat} (hl : 164 < h.length) (hT : cT h) (h35 : h[35]? = some (owC a b c d')) (J : jS h) (C : cdS h 52 ws0) (lw : ws0.length = 19) (h67 : h[67]? = some (.inl (0, cs.map nI))) (hc : cs.length = 19) (hb : ∀ v ∈ cs, v ≤ 2 ^ 9) (hs : cs.sum < 2 ^ 10) (K : ∀ h2, Fr (35 :: FRC) h h2 → jS h2 → cdW h2 52 (hufW (hvF 9 cs)) → ar h2 67 19 → h2[35]? = some (owC a b (nI (utl (fun k => (hufW (hvF 9 cs)).getD (RO.getD k 0) 0) 4 19)) d') → P none h2) : db_Go 55 0 [.ref 35, .retAddr 0] [] h P := by
  have h35' := h35
  unfold owC at h35'
  obtain ⟨_, _, _, o1⟩ := cdS_o C
  simp only [Nat.reduceAdd] at o1
  obtain ⟨fs, hj⟩ := jS_o J
  have w15' := hufW_le (cs := cs) (k := 15) (by decide) (Nat.lt_of_lt_of_le hs (by decide))
  simp (disch := first | omega | (simp only [List.length_set]; omega)) only [g_55_0, g_55_1, g_55_4, g_55_5, g_55_8, g_55_9, g_55_12, g_55_18, g_55_19, g_55_25, g_55_26, g_55_28, g_55_30, g_55_33, g_55_34, g_55_37, g_55_40, g_55_42, g_55_45, g_55_46, g_55_52, g_55_53, g_55_56, g_55_57, g_55_60, g_55_61, g_55_64, g_55_70, g_55_71, g_55_77, g_55_80, g_55_84, g_55_87, g_55_88, g_55_92, g_55_95, g_55_96, g_55_99, g_55_100, g_55_103, g_55_106, g_55_109, g_55_110, g_55_113, g_55_114, g_55_115, g_55_116, g_55_117, g_55_120, g_55_121, g_55_122, g_55_125, g_55_126, g_55_127, g_55_130, g_55_133, gs_nx, db_inx, gs_ldi, gs_lda, gs_ldn, List.getElem?_cons_zero, List.getElem?_cons_succ, List.set_cons_zero, List.set_cons_succ, gx5, fx_int, fx_ref, fx_null, px5, gs_lx, gs_ax, sx5, ft_int, ft_ref, ft_b0, ft_b1, c1_int, c1_ref, List.length_cons, List.length_nil, Nat.reduceAdd, Nat.reduceLT, Nat.reduceLeDiff, true_and, and_true, true_or, or_true, not_false_eq_true, Option.toList_some, Option.toList_none, List.nil_append, List.singleton_append, List.cons_append, ↓reduceIte, Bool.and_self, eq_self, z_max, z_min, nI_add, z_sub, z_dec, z_mul, z_div, z_mod, nI_clamp, z_lt, z_nlt, z_le, z_nle, z_ne, z_eq, z_in, not_true_eq_false, if_true, if_false, hs_at, hs_ne, hs_sort, hset_eq, vupp_eq, hs_over, List.length_set, vup_at, vup_ne, vup_over, vup_sort, mfs_len, n5_f, map_getD, List.length_map, gd_self, gd_ne, Nat.add_sub_cancel, h35', o1]
  refine c_55_15 (by simp) (n5_ge (by decide)) hj ?_
  refine f44 hl J h67 (by decide) (cdS_w C) (by decide) (by rw [List.length_map]; omega) (by omega) (by omega) (fun h2 F2 J2 w2 => ?_)
  have C2 := cdS_j C F2 (by decide) w2 (by rw [hufW_len]; omega)
  obtain ⟨_, _, _, o2⟩ := cdS_o C2
  have h35' := Fr_get F2 (by decide) h35'
  simp (disch := first | omega | (simp only [List.length_set]; omega)) only [g_55_0, g_55_1, g_55_4, g_55_5, g_55_8, g_55_9, g_55_12, g_55_18, g_55_19, g_55_25, g_55_26, g_55_28, g_55_30, g_55_33, g_55_34, g_55_37, g_55_40, g_55_42, g_55_45, g_55_46, g_55_52, g_55_53, g_55_56, g_55_57, g_55_60, g_55_61, g_55_64, g_55_70, g_55_71, g_55_77, g_55_80, g_55_84, g_55_87, g_55_88, g_55_92, g_55_95, g_55_96, g_55_99, g_55_100, g_55_103, g_55_106, g_55_109, g_55_110, g_55_113, g_55_114, g_55_115, g_55_116, g_55_117, g_55_120, g_55_121, g_55_122, g_55_125, g_55_126, g_55_127, g_55_130, g_55_133, gs_nx, db_inx, gs_ldi, gs_lda, gs_ldn, List.getElem?_cons_zero, List.getElem?_cons_succ, List.set_cons_zero, List.set_cons_succ, gx5, fx_int, fx_ref, fx_null, px5, gs_lx, gs_ax, sx5, ft_int, ft_ref, ft_b0, ft_b1, c1_int, c1_ref, List.length_cons, List.length_nil, Nat.reduceAdd, Nat.reduceLT, Nat.reduceLeDiff, true_and, and_true, true_or, or_true, not_false_eq_true, Option.toList_some, Option.toList_none, List.nil_append, List.singleton_append, List.cons_append, ↓reduceIte, Bool.and_self, eq_self, z_max, z_min, nI_add, z_sub, z_dec, z_mul, z_div, z_mod, nI_clamp, z_lt, z_nlt, z_le, z_nle, z_ne, z_eq, z_in, not_true_eq_false, if_true, if_false, hs_at, hs_ne, hs_sort, hset_eq, vupp_eq, hs_over, List.length_set, vup_at, vup_ne, vup_over, vup_sort, mfs_len, n5_f, map_getD, List.length_map, gd_self, gd_ne, Nat.add_sub_cancel, h35']
  refine c_55_22 (by simp) (n5_ge (by decide)) o2 ?_
  refine f9 (by decide) C2 (by rw [hufW_len]; omega) w15' (fun h3 F3 C3 => ?_)
  simp (disch := first | omega | (simp only [List.length_set]; omega)) only [g_55_0, g_55_1, g_55_4, g_55_5, g_55_8, g_55_9, g_55_12, g_55_18, g_55_19, g_55_25, g_55_26, g_55_28, g_55_30, g_55_33, g_55_34, g_55_37, g_55_40, g_55_42, g_55_45, g_55_46, g_55_52, g_55_53, g_55_56, g_55_57, g_55_60, g_55_61, g_55_64, g_55_70, g_55_71, g_55_77, g_55_80, g_55_84, g_55_87, g_55_88, g_55_92, g_55_95, g_55_96, g_55_99, g_55_100, g_55_103, g_55_106, g_55_109, g_55_110, g_55_113, g_55_114, g_55_115, g_55_116, g_55_117, g_55_120, g_55_121, g_55_122, g_55_125, g_55_126, g_55_127, g_55_130, g_55_133, gs_nx, db_inx, gs_ldi, gs_lda, gs_ldn, List.getElem?_cons_zero, List.getElem?_cons_succ, List.set_cons_zero, List.set_cons_succ, gx5, fx_int, fx_ref, fx_null, px5, gs_lx, gs_ax, sx5, ft_int, ft_ref, ft_b0, ft_b1, c1_int, c1_ref, List.length_cons, List.length_nil, Nat.reduceAdd, Nat.reduceLT, Nat.reduceLeDiff, true_and, and_true, true_or, or_true, not_false_eq_true, Option.toList_some, Option.toList_none, List.nil_append, List.singleton_append, List.cons_append, ↓reduceIte, Bool.and_self, eq_self, z_max, z_min, nI_add, z_sub, z_dec, z_mul, z_div, z_mod, nI_clamp, z_lt, z_nlt, z_le, z_nle, z_ne, z_eq, z_in, not_true_eq_false, if_true, if_false, hs_at, hs_ne, hs_sort, hset_eq, vupp_eq, hs_over, List.length_set, vup_at, vup_ne, vup_over, vup_sort, mfs_len, n5_f, map_getD, List.length_map, gd_self, gd_ne, Nat.add_sub_cancel]
  have F13 : Fr FRC h h3 := Fr_tr (Fr_mono F2 (by decide)) (Fr_mono F3 (by decide))
  refine m55_l hT h35 9 0 cs h3 rfl hb hc hs F13 (Fr_len F3 (Fr_len F2 hl)) (jS_fr F3 (by decide) J2) (Fr_get F3 (by decide) (Fr_get F2 (by decide) h67)) C3 (fun h4 x F4 J4 C4 A4 => ?_)
  have h35' := Fr_get F4 (by decide) h35
  have t2 := (cT_fr F4 (by decide) hT).2.2.1
  have lR : RO.length = 19 := rfl
  have lwf : (hufW (hvF 9 cs)).length = 19 := by rw [hufW_len, hvF_len]; exact hc
  have hl4 := Fr_len F4 hl
  have F5 : ∀ z, Fr [35] h4 (h4.set 35 z) := fun z => Fr_set (by decide)
  have k := @m55_t h4 P a b d' (hufW (hvF 9 cs)) hl4 (cT_fr F4 (by decide) hT) C4 lwf x 19 (Nat.le_refl _) (by decide) (K _ (Fr_s (Fr_mono F4 (by decide)) (by decide)) (jS_fr (F5 _) (by decide) J4) (cdW_fr (F5 _) (by decide) C4) (ar_fr (F5 _) (by decide) A4) (by simp (disch := first | omega | (simp only [List.length_set]; omega)) only [hs_at, hs_ne, List.length_set]))
  unfold owC at h35' k
  simp (disch := first | omega | (simp only [List.length_set]; omega)) only [g_55_0, g_55_1, g_55_4, g_55_5, g_55_8, g_55_9, g_55_12, g_55_18, g_55_19, g_55_25, g_55_26, g_55_27, g_55_28, g_55_30, g_55_33, g_55_34, g_55_37, g_55_40, g_55_42, g_55_45, g_55_46, g_55_52, g_55_53, g_55_56, g_55_57, g_55_60, g_55_61, g_55_64, g_55_70, g_55_71, g_55_77, g_55_80, g_55_83, g_55_84, g_55_87, g_55_88, g_55_92, g_55_95, g_55_96, g_55_99, g_55_100, g_55_103, g_55_106, g_55_109, g_55_110, g_55_113, g_55_114, g_55_115, g_55_116, g_55_117, g_55_120, g_55_121, g_55_122, g_55_125, g_55_126, g_55_127, g_55_130, g_55_133, gs_nx, db_inx, gs_ldi, gs_lda, gs_ldn, List.getElem?_cons_zero, List.getElem?_cons_succ, List.set_cons_zero, List.set_cons_succ, gx5, fx_int, fx_ref, fx_null, px5, gs_lx, gs_ax, sx5, ft_int, ft_ref, ft_b0, ft_b1, c1_int, c1_ref, List.length_cons, List.length_nil, Nat.reduceAdd, Nat.reduceLT, Nat.reduceLeDiff, true_and, and_true, true_or, or_true, not_false_eq_true, Option.toList_some, Option.toList_none, List.nil_append, List.singleton_append, List.cons_append, ↓reduceIte, Bool.and_self, eq_self, z_max, z_min, nI_add, z_sub, z_dec, z_mul, z_div, z_mod, nI_clamp, z_lt, z_nlt, z_le, z_nle, z_ne, z_eq, z_in, not_true_eq_false, if_true, if_false, hs_at, hs_ne, hs_sort, hset_eq, vupp_eq, hs_over, List.length_set, vup_at, vup_ne, vup_over, vup_sort, mfs_len, n5_f, map_getD, List.length_map, gd_self, gd_ne, Nat.add_sub_cancel, h35', t2, lR]
  exact k
/-- what of OwnCodes stands before and behind -/
def cO (h : db_H) : Prop := (∃ a b c d, h[35]? = some (owC a b c d)) ∧ (∃ ws, cdS h 36 ws ∧ ws.length = 286) ∧ (∃ ws, cdS h 44 ws ∧ ws.length = 30) ∧ (∃ ws, cdS h 52 ws ∧ ws.length = 19) ∧ jS h ∧ ar h 65 286 ∧ ar h 66 30 ∧ ar h 67 19 ∧ ar h 68 316 ∧ ar h 69 316 ∧ ar h 70 316
def FOW : List Nat := [35, 36, 37, 38, 39, 40, 41, 42, 43, 44, 45, 46, 47, 48, 49, 50, 51, 52, 53, 54, 55, 56, 57, 58, 59, 60, 61, 62, 63, 64, 65, 66, 67, 68, 69, 70]
/-- OwnCodes, worked out for the steps V -/
def cOV (h : db_H) (V : List (Nat × Nat × Int32)) : Prop := h[35]? = some (owC (nI (oh V)) (nI (ok1 V)) (nI (oc V)) (nI (oT V).length)) ∧ cdW h 36 (oWs V) ∧ cdW h 44 (oWd V) ∧ cdW h 52 (oWr V) ∧ ∃ r f, h[69]? = some (.inl (0, r)) ∧ h[70]? = some (.inl (0, f)) ∧ tOK r f 316 (oT V)
/-- workOut -/
theorem f41 {f g : Nat} {T : List (Nat × Nat × Int32)} (hl : 164 < h.length) (hT : cT h) (R : cR h T) (O : cO h) (hf : f ≤ g) (hg : g ≤ T.length) (K : ∀ h2, Fr FOW h h2 → cO h2 → cOV h2 ((T.drop f).take (g - f)) → P none h2) : db_Go 41 0 [.ref 35, .ref 12, .int (nI f), .int (nI g)] [] h P := by
  obtain ⟨⟨a, b, c, d, h35⟩, ⟨ws1, C1, lw1⟩, ⟨ws2, C2, lw2⟩, ⟨ws3, C3, lw3⟩, J, ⟨c65, h65, l65⟩, ⟨c66, h66, l66⟩, ⟨c67, h67, l67⟩, ⟨c68, h68, l68⟩, ⟨c69, h69, l69⟩, ⟨c70, h70, l70⟩⟩ := O
  have hT3 : T.length ≤ 300 := by
    obtain ⟨_, _, _, _, _, _, _, _, _, _, q, _⟩ := R
    exact q
  have hVl : ((T.drop f).take (g - f)).length ≤ 300 := by rw [List.length_take, List.length_drop]; omega
  simp (disch := first | omega | (simp only [List.length_set]; omega)) only [g_41_0, g_41_1, g_41_2, g_41_3, g_41_7, g_41_8, g_41_11, g_41_12, g_41_15, g_41_16, g_41_19, g_41_25, g_41_26, g_41_29, g_41_30, g_41_33, g_41_34, g_41_37, g_41_43, g_41_44, g_41_50, g_41_51, g_41_57, g_41_61, g_41_65, g_41_69, gs_nx, db_inx, gs_ldi, gs_lda, gs_ldn, List.getElem?_cons_zero, List.getElem?_cons_succ, List.set_cons_zero, List.set_cons_succ, gx5, fx_int, fx_ref, fx_null, px5, gs_lx, gs_ax, sx5, ft_int, ft_ref, ft_b0, ft_b1, c1_int, c1_ref, List.length_cons, List.length_nil, Nat.reduceAdd, Nat.reduceLT, Nat.reduceLeDiff, true_and, and_true, true_or, or_true, not_false_eq_true, Option.toList_some, Option.toList_none, List.nil_append, List.singleton_append, List.cons_append, ↓reduceIte, Bool.and_self, eq_self, z_max, z_min, nI_add, z_sub, z_dec, z_mul, z_div, z_mod, nI_clamp, z_lt, z_nlt, z_le, z_nle, z_ne, z_eq, z_in, not_true_eq_false, if_true, if_false, hs_at, hs_ne, hs_sort, hset_eq, vupp_eq, hs_over, List.length_set, vup_at, vup_ne, vup_over, vup_sort, mfs_len, n5_f, map_getD, List.length_map, gd_self, gd_ne, Nat.add_sub_cancel]
  refine c_41_4 (by simp) (n5_ge (by decide)) h35 ?_
  refine f42 hl h35 h65 h66 l65 l66 hT R hf hg (fun h1 F1 e65 e66 => ?_)
  generalize (T.drop f).take (g - f) = V at *
  have q1 := oWs_15 hVl
  have q2 := oWd_15 hVl
  have q4 := oA_15 hVl
  have q6 := oT_len hVl
  have lA := @oA_len V
  have hob := @oh_b V
  have okb := @ok_b V
  have lW := @oWs_len V
  have lD := @oWd_len V
  have sC : (oCs V).sum < 2 ^ 20 := by
    have a := Nat.le_trans (cntL_sum 286 (oX V ++ sysO V)) (oX_len _)
    unfold oCs
    omega
  have sD : (oCd V).sum < 2 ^ 20 := by
    have a := Nat.le_trans (cntL_sum 30 (dssO V)) (dssO_len _)
    unfold oCd
    omega
  have lC : (oCs V).length = 286 := cntL_len
  have lCd : (oCd V).length = 30 := cntL_len
  have J1 := jS_fr F1 (by decide) J
  have C11 := cdS_fr F1 (by decide) C1
  have C21 := cdS_fr F1 (by decide) C2
  have C31 := cdS_fr F1 (by decide) C3
  have p35 := Fr_get F1 (by decide) h35
  have p67 := Fr_get F1 (by decide) h67
  have p68 := Fr_get F1 (by decide) h68
  have p69 := Fr_get F1 (by decide) h69
  have p70 := Fr_get F1 (by decide) h70
  have hl1 := Fr_len F1 hl
  have T1 := cT_fr F1 (by decide) hT
  have F1 : Fr FOW h h1 := Fr_mono F1 (by decide)
  obtain ⟨_, _, _, o1⟩ := cdS_o C11
  obtain ⟨fs, hj⟩ := jS_o J1
  have p35' := p35
  unfold owC at p35'
  simp only [Nat.reduceAdd] at o1
  simp (disch := first | omega | (simp only [List.length_set]; omega)) only [g_41_0, g_41_1, g_41_2, g_41_3, g_41_7, g_41_8, g_41_11, g_41_12, g_41_15, g_41_16, g_41_19, g_41_25, g_41_26, g_41_29, g_41_30, g_41_33, g_41_34, g_41_37, g_41_43, g_41_44, g_41_50, g_41_51, g_41_57, g_41_61, g_41_65, g_41_69, gs_nx, db_inx, gs_ldi, gs_lda, gs_ldn, List.getElem?_cons_zero, List.getElem?_cons_succ, List.set_cons_zero, List.set_cons_succ, gx5, fx_int, fx_ref, fx_null, px5, gs_lx, gs_ax, sx5, ft_int, ft_ref, ft_b0, ft_b1, c1_int, c1_ref, List.length_cons, List.length_nil, Nat.reduceAdd, Nat.reduceLT, Nat.reduceLeDiff, true_and, and_true, true_or, or_true, not_false_eq_true, Option.toList_some, Option.toList_none, List.nil_append, List.singleton_append, List.cons_append, ↓reduceIte, Bool.and_self, eq_self, z_max, z_min, nI_add, z_sub, z_dec, z_mul, z_div, z_mod, nI_clamp, z_lt, z_nlt, z_le, z_nle, z_ne, z_eq, z_in, not_true_eq_false, if_true, if_false, hs_at, hs_ne, hs_sort, hset_eq, vupp_eq, hs_over, List.length_set, vup_at, vup_ne, vup_over, vup_sort, mfs_len, n5_f, map_getD, List.length_map, gd_self, gd_ne, Nat.add_sub_cancel, p35', o1]
  refine c_41_22 (by simp) (n5_ge (by decide)) hj ?_
  refine f44 hl1 J1 e65 (by decide) (cdS_w C11) (by decide) (by rw [List.length_map]; omega) (by omega) sC (fun h2 F2 J2 w2 => ?_)
  have w2 : h2[36 + 5]? = some (.inl (0, (oWs V).map nI)) := w2
  have C12 := cdS_j C11 F2 (by decide) w2 (by omega)
  have C22 := cdS_fr F2 (by decide) C21
  have C32 := cdS_fr F2 (by decide) C31
  have e66 := Fr_get F2 (by decide) e66
  have k65 : ar h2 65 286 := ⟨_, Fr_get F2 (by decide) e65, by rw [List.length_map]; exact lC⟩
  have p35 := Fr_get F2 (by decide) p35
  have p35' := Fr_get F2 (by decide) p35'
  have p67 := Fr_get F2 (by decide) p67
  have p68 := Fr_get F2 (by decide) p68
  have p69 := Fr_get F2 (by decide) p69
  have p70 := Fr_get F2 (by decide) p70
  have hl2 := Fr_len F2 hl1
  have T2 := cT_fr F2 (by decide) T1
  have F1 := Fr_tr F1 (Fr_mono F2 (G := FOW) (by decide))
  obtain ⟨_, _, _, o2⟩ := cdS_o C22
  obtain ⟨fs, hj⟩ := jS_o J2
  simp only [Nat.reduceAdd] at o2
  simp (disch := first | omega | (simp only [List.length_set]; omega)) only [g_41_0, g_41_1, g_41_2, g_41_3, g_41_7, g_41_8, g_41_11, g_41_12, g_41_15, g_41_16, g_41_19, g_41_25, g_41_26, g_41_29, g_41_30, g_41_33, g_41_34, g_41_37, g_41_43, g_41_44, g_41_50, g_41_51, g_41_57, g_41_61, g_41_65, g_41_69, gs_nx, db_inx, gs_ldi, gs_lda, gs_ldn, List.getElem?_cons_zero, List.getElem?_cons_succ, List.set_cons_zero, List.set_cons_succ, gx5, fx_int, fx_ref, fx_null, px5, gs_lx, gs_ax, sx5, ft_int, ft_ref, ft_b0, ft_b1, c1_int, c1_ref, List.length_cons, List.length_nil, Nat.reduceAdd, Nat.reduceLT, Nat.reduceLeDiff, true_and, and_true, true_or, or_true, not_false_eq_true, Option.toList_some, Option.toList_none, List.nil_append, List.singleton_append, List.cons_append, ↓reduceIte, Bool.and_self, eq_self, z_max, z_min, nI_add, z_sub, z_dec, z_mul, z_div, z_mod, nI_clamp, z_lt, z_nlt, z_le, z_nle, z_ne, z_eq, z_in, not_true_eq_false, if_true, if_false, hs_at, hs_ne, hs_sort, hset_eq, vupp_eq, hs_over, List.length_set, vup_at, vup_ne, vup_over, vup_sort, mfs_len, n5_f, map_getD, List.length_map, gd_self, gd_ne, Nat.add_sub_cancel, p35', o2]
  refine c_41_40 (by simp) (n5_ge (by decide)) hj ?_
  refine f44 hl2 J2 e66 (by decide) (cdS_w C22) (by decide) (by rw [List.length_map]; omega) (by omega) sD (fun h3 F3 J3 w3 => ?_)
  have w3 : h3[44 + 5]? = some (.inl (0, (oWd V).map nI)) := w3
  have C13 := cdS_fr F3 (by decide) C12
  have C23 := cdS_j C22 F3 (by decide) w3 (by omega)
  have C33 := cdS_fr F3 (by decide) C32
  have k66 : ar h3 66 30 := ⟨_, Fr_get F3 (by decide) e66, by rw [List.length_map]; exact lCd⟩
  have k65 := ar_fr F3 (by decide) k65
  have p35 := Fr_get F3 (by decide) p35
  have p35' := Fr_get F3 (by decide) p35'
  have p67 := Fr_get F3 (by decide) p67
  have p68 := Fr_get F3 (by decide) p68
  have p69 := Fr_get F3 (by decide) p69
  have p70 := Fr_get F3 (by decide) p70
  have hl3 := Fr_len F3 hl2
  have T3 := cT_fr F3 (by decide) T2
  have F1 := Fr_tr F1 (Fr_mono F3 (G := FOW) (by decide))
  obtain ⟨_, _, _, o3⟩ := cdS_o C13
  simp (disch := first | omega | (simp only [List.length_set]; omega)) only [g_41_0, g_41_1, g_41_2, g_41_3, g_41_7, g_41_8, g_41_11, g_41_12, g_41_15, g_41_16, g_41_19, g_41_25, g_41_26, g_41_29, g_41_30, g_41_33, g_41_34, g_41_37, g_41_43, g_41_44, g_41_50, g_41_51, g_41_57, g_41_61, g_41_65, g_41_69, gs_nx, db_inx, gs_ldi, gs_lda, gs_ldn, List.getElem?_cons_zero, List.getElem?_cons_succ, List.set_cons_zero, List.set_cons_succ, gx5, fx_int, fx_ref, fx_null, px5, gs_lx, gs_ax, sx5, ft_int, ft_ref, ft_b0, ft_b1, c1_int, c1_ref, List.length_cons, List.length_nil, Nat.reduceAdd, Nat.reduceLT, Nat.reduceLeDiff, true_and, and_true, true_or, or_true, not_false_eq_true, Option.toList_some, Option.toList_none, List.nil_append, List.singleton_append, List.cons_append, ↓reduceIte, Bool.and_self, eq_self, z_max, z_min, nI_add, z_sub, z_dec, z_mul, z_div, z_mod, nI_clamp, z_lt, z_nlt, z_le, z_nle, z_ne, z_eq, z_in, not_true_eq_false, if_true, if_false, hs_at, hs_ne, hs_sort, hset_eq, vupp_eq, hs_over, List.length_set, vup_at, vup_ne, vup_over, vup_sort, mfs_len, n5_f, map_getD, List.length_map, gd_self, gd_ne, Nat.add_sub_cancel, p35']
  refine c_41_47 (by simp) (n5_ge (by decide)) o3 ?_
  refine f9 (by decide) C13 (by omega) q1 (fun h4 F4 W4 => ?_)
  have C24 := cdS_fr F4 (by decide) C23
  have C34 := cdS_fr F4 (by decide) C33
  have J4 := jS_fr F4 (by decide) J3
  have k65 := ar_fr F4 (by decide) k65
  have k66 := ar_fr F4 (by decide) k66
  have p35 := Fr_get F4 (by decide) p35
  have p35' := Fr_get F4 (by decide) p35'
  have p67 := Fr_get F4 (by decide) p67
  have p68 := Fr_get F4 (by decide) p68
  have p69 := Fr_get F4 (by decide) p69
  have p70 := Fr_get F4 (by decide) p70
  have hl4 := Fr_len F4 hl3
  have T4 := cT_fr F4 (by decide) T3
  have F1 := Fr_tr F1 (Fr_mono F4 (G := FOW) (by decide))
  obtain ⟨_, _, _, o4⟩ := cdS_o C24
  simp (disch := first | omega | (simp only [List.length_set]; omega)) only [g_41_0, g_41_1, g_41_2, g_41_3, g_41_7, g_41_8, g_41_11, g_41_12, g_41_15, g_41_16, g_41_19, g_41_25, g_41_26, g_41_29, g_41_30, g_41_33, g_41_34, g_41_37, g_41_43, g_41_44, g_41_50, g_41_51, g_41_57, g_41_61, g_41_65, g_41_69, gs_nx, db_inx, gs_ldi, gs_lda, gs_ldn, List.getElem?_cons_zero, List.getElem?_cons_succ, List.set_cons_zero, List.set_cons_succ, gx5, fx_int, fx_ref, fx_null, px5, gs_lx, gs_ax, sx5, ft_int, ft_ref, ft_b0, ft_b1, c1_int, c1_ref, List.length_cons, List.length_nil, Nat.reduceAdd, Nat.reduceLT, Nat.reduceLeDiff, true_and, and_true, true_or, or_true, not_false_eq_true, Option.toList_some, Option.toList_none, List.nil_append, List.singleton_append, List.cons_append, ↓reduceIte, Bool.and_self, eq_self, z_max, z_min, nI_add, z_sub, z_dec, z_mul, z_div, z_mod, nI_clamp, z_lt, z_nlt, z_le, z_nle, z_ne, z_eq, z_in, not_true_eq_false, if_true, if_false, hs_at, hs_ne, hs_sort, hset_eq, vupp_eq, hs_over, List.length_set, vup_at, vup_ne, vup_over, vup_sort, mfs_len, n5_f, map_getD, List.length_map, gd_self, gd_ne, Nat.add_sub_cancel, p35']
  refine c_41_54 (by simp) (n5_ge (by decide)) o4 ?_
  refine f9 (by decide) C24 (by omega) q2 (fun h5 F5 W5 => ?_)
  have W45 := cdW_fr F5 (by decide) W4
  have C35 := cdS_fr F5 (by decide) C34
  have J5 := jS_fr F5 (by decide) J4
  have k65 := ar_fr F5 (by decide) k65
  have k66 := ar_fr F5 (by decide) k66
  have p35 := Fr_get F5 (by decide) p35
  have p35' := Fr_get F5 (by decide) p35'
  have p67 := Fr_get F5 (by decide) p67
  have p68 := Fr_get F5 (by decide) p68
  have p69 := Fr_get F5 (by decide) p69
  have p70 := Fr_get F5 (by decide) p70
  have hl5 := Fr_len F5 hl4
  have T5 := cT_fr F5 (by decide) T4
  have F1 := Fr_tr F1 (Fr_mono F5 (G := FOW) (by decide))
  simp (disch := first | omega | (simp only [List.length_set]; omega)) only [g_41_0, g_41_1, g_41_2, g_41_3, g_41_7, g_41_8, g_41_11, g_41_12, g_41_15, g_41_16, g_41_19, g_41_25, g_41_26, g_41_29, g_41_30, g_41_33, g_41_34, g_41_37, g_41_43, g_41_44, g_41_50, g_41_51, g_41_57, g_41_61, g_41_65, g_41_69, gs_nx, db_inx, gs_ldi, gs_lda, gs_ldn, List.getElem?_cons_zero, List.getElem?_cons_succ, List.set_cons_zero, List.set_cons_succ, gx5, fx_int, fx_ref, fx_null, px5, gs_lx, gs_ax, sx5, ft_int, ft_ref, ft_b0, ft_b1, c1_int, c1_ref, List.length_cons, List.length_nil, Nat.reduceAdd, Nat.reduceLT, Nat.reduceLeDiff, true_and, and_true, true_or, or_true, not_false_eq_true, Option.toList_some, Option.toList_none, List.nil_append, List.singleton_append, List.cons_append, ↓reduceIte, Bool.and_self, eq_self, z_max, z_min, nI_add, z_sub, z_dec, z_mul, z_div, z_mod, nI_clamp, z_lt, z_nlt, z_le, z_nle, z_ne, z_eq, z_in, not_true_eq_false, if_true, if_false, hs_at, hs_ne, hs_sort, hset_eq, vupp_eq, hs_over, List.length_set, vup_at, vup_ne, vup_over, vup_sort, mfs_len, n5_f, map_getD, List.length_map, gd_self, gd_ne, Nat.add_sub_cancel, p35']
  refine c_41_58 (by simp) (n5_ge (by decide)) p35 ?_
  refine f49 hl5 p35 W45 W5 lW lD p68 l68 (fun h6 r F6 p35 p68 l68 H1 H2 => ?_)
  have p35 : h6[35]? = some (owC (nI (oh V)) (nI (ok1 V)) c d) := p35
  have HA : ∀ j, j < (oA V).length → r.getD j 0 = nI ((oA V).getD j 0) := by
    intro j hj
    have H1 : ∀ j, j < oh V → r.getD j 0 = nI ((oWs V).getD j 0) := H1
    have H2 : ∀ j, j < ok1 V → r.getD (oh V + j) 0 = nI ((oWd V).getD j 0) := H2
    rw [lA] at hj
    unfold oA
    by_cases hjh : j < oh V
    · rw [H1 j hjh, List.getD_eq_getElem?_getD (l := _ ++ _), List.getElem?_append_left (by rw [List.length_take, lW]; omega), List.getElem?_take_of_lt hjh, ← List.getD_eq_getElem?_getD]
    · have := H2 (j - oh V) (by omega)
      rw [show oh V + (j - oh V) = j by omega] at this
      rw [this, List.getD_eq_getElem?_getD (l := _ ++ _), List.getElem?_append_right (by rw [List.length_take, lW]; omega), List.length_take, lW, Nat.min_eq_left (by omega), List.getElem?_take_of_lt (by omega), ← List.getD_eq_getElem?_getD]
  have W46 := cdW_fr F6 (by decide) W45
  have W56 := cdW_fr F6 (by decide) W5
  have C36 := cdS_fr F6 (by decide) C35
  have J6 := jS_fr F6 (by decide) J5
  have k65 := ar_fr F6 (by decide) k65
  have k66 := ar_fr F6 (by decide) k66
  have p67 := Fr_get F6 (by decide) p67
  have p69 := Fr_get F6 (by decide) p69
  have p70 := Fr_get F6 (by decide) p70
  have hl6 := Fr_len F6 hl5
  have T6 := cT_fr F6 (by decide) T5
  have F1 := Fr_tr F1 (Fr_mono F6 (G := FOW) (by decide))
  simp (disch := first | omega | (simp only [List.length_set]; omega)) only [g_41_0, g_41_1, g_41_2, g_41_3, g_41_7, g_41_8, g_41_11, g_41_12, g_41_15, g_41_16, g_41_19, g_41_25, g_41_26, g_41_29, g_41_30, g_41_33, g_41_34, g_41_37, g_41_43, g_41_44, g_41_50, g_41_51, g_41_57, g_41_61, g_41_65, g_41_69, gs_nx, db_inx, gs_ldi, gs_lda, gs_ldn, List.getElem?_cons_zero, List.getElem?_cons_succ, List.set_cons_zero, List.set_cons_succ, gx5, fx_int, fx_ref, fx_null, px5, gs_lx, gs_ax, sx5, ft_int, ft_ref, ft_b0, ft_b1, c1_int, c1_ref, List.length_cons, List.length_nil, Nat.reduceAdd, Nat.reduceLT, Nat.reduceLeDiff, true_and, and_true, true_or, or_true, not_false_eq_true, Option.toList_some, Option.toList_none, List.nil_append, List.singleton_append, List.cons_append, ↓reduceIte, Bool.and_self, eq_self, z_max, z_min, nI_add, z_sub, z_dec, z_mul, z_div, z_mod, nI_clamp, z_lt, z_nlt, z_le, z_nle, z_ne, z_eq, z_in, not_true_eq_false, if_true, if_false, hs_at, hs_ne, hs_sort, hset_eq, vupp_eq, hs_over, List.length_set, vup_at, vup_ne, vup_over, vup_sort, mfs_len, n5_f, map_getD, List.length_map, gd_self, gd_ne, Nat.add_sub_cancel]
  refine c_41_62 (by simp) (n5_ge (by decide)) p35 ?_
  refine f51 hl6 p35 lA.symm p67 l67 p68 l68 p69 p70 l69 l70 (by omega) HA q4 (fun h7 r f F7 p35 p67 p69 p70 OT => ?_)
  have p35 : h7[35]? = some (owC (nI (oh V)) (nI (ok1 V)) c (nI (oT V).length)) := p35
  have p67 : h7[67]? = some (.inl (0, (oCr V).map nI)) := p67
  have OT : tOK r f 316 (oT V) := OT
  have W47 := cdW_fr F7 (by decide) W46
  have W57 := cdW_fr F7 (by decide) W56
  have C37 := cdS_fr F7 (by decide) C36
  have J7 := jS_fr F7 (by decide) J6
  have k65 := ar_fr F7 (by decide) k65
  have k66 := ar_fr F7 (by decide) k66
  have p68 := Fr_get F7 (by decide) p68
  have hl7 := Fr_len F7 hl6
  have T7 := cT_fr F7 (by decide) T6
  have F1 := Fr_tr F1 (Fr_mono F7 (G := FOW) (by decide))
  simp (disch := first | omega | (simp only [List.length_set]; omega)) only [g_41_0, g_41_1, g_41_2, g_41_3, g_41_7, g_41_8, g_41_11, g_41_12, g_41_15, g_41_16, g_41_19, g_41_25, g_41_26, g_41_29, g_41_30, g_41_33, g_41_34, g_41_37, g_41_43, g_41_44, g_41_50, g_41_51, g_41_57, g_41_61, g_41_65, g_41_69, gs_nx, db_inx, gs_ldi, gs_lda, gs_ldn, List.getElem?_cons_zero, List.getElem?_cons_succ, List.set_cons_zero, List.set_cons_succ, gx5, fx_int, fx_ref, fx_null, px5, gs_lx, gs_ax, sx5, ft_int, ft_ref, ft_b0, ft_b1, c1_int, c1_ref, List.length_cons, List.length_nil, Nat.reduceAdd, Nat.reduceLT, Nat.reduceLeDiff, true_and, and_true, true_or, or_true, not_false_eq_true, Option.toList_some, Option.toList_none, List.nil_append, List.singleton_append, List.cons_append, ↓reduceIte, Bool.and_self, eq_self, z_max, z_min, nI_add, z_sub, z_dec, z_mul, z_div, z_mod, nI_clamp, z_lt, z_nlt, z_le, z_nle, z_ne, z_eq, z_in, not_true_eq_false, if_true, if_false, hs_at, hs_ne, hs_sort, hset_eq, vupp_eq, hs_over, List.length_set, vup_at, vup_ne, vup_over, vup_sort, mfs_len, n5_f, map_getD, List.length_map, gd_self, gd_ne, Nat.add_sub_cancel]
  refine c_41_66 (by simp) (n5_ge (by decide)) p35 ?_
  refine f55 hl7 T7 p35 J7 C37 lw3 p67 cntL_len (oCr_le hVl) (by have := oCr_sum hVl; omega) (fun h8 F8 J8 W8 k67 p35 => ?_)
  have p35 : h8[35]? = some (owC (nI (oh V)) (nI (ok1 V)) (nI (oc V)) (nI (oT V).length)) := p35
  have W8 : cdW h8 52 (oWr V) := W8
  have W48 := cdW_fr F8 (by decide) W47
  have W58 := cdW_fr F8 (by decide) W57
  have p68 := Fr_get F8 (by decide) p68
  have p69 := Fr_get F8 (by decide) p69
  have p70 := Fr_get F8 (by decide) p70
  have F1 := Fr_tr F1 (Fr_mono F8 (G := FOW) (by decide))
  simp (disch := first | omega | (simp only [List.length_set]; omega)) only [g_41_0, g_41_1, g_41_2, g_41_3, g_41_7, g_41_8, g_41_11, g_41_12, g_41_15, g_41_16, g_41_19, g_41_25, g_41_26, g_41_29, g_41_30, g_41_33, g_41_34, g_41_37, g_41_43, g_41_44, g_41_50, g_41_51, g_41_57, g_41_61, g_41_65, g_41_69, gs_nx, db_inx, gs_ldi, gs_lda, gs_ldn, List.getElem?_cons_zero, List.getElem?_cons_succ, List.set_cons_zero, List.set_cons_succ, gx5, fx_int, fx_ref, fx_null, px5, gs_lx, gs_ax, sx5, ft_int, ft_ref, ft_b0, ft_b1, c1_int, c1_ref, List.length_cons, List.length_nil, Nat.reduceAdd, Nat.reduceLT, Nat.reduceLeDiff, true_and, and_true, true_or, or_true, not_false_eq_true, Option.toList_some, Option.toList_none, List.nil_append, List.singleton_append, List.cons_append, ↓reduceIte, Bool.and_self, eq_self, z_max, z_min, nI_add, z_sub, z_dec, z_mul, z_div, z_mod, nI_clamp, z_lt, z_nlt, z_le, z_nle, z_ne, z_eq, z_in, not_true_eq_false, if_true, if_false, hs_at, hs_ne, hs_sort, hset_eq, vupp_eq, hs_over, List.length_set, vup_at, vup_ne, vup_over, vup_sort, mfs_len, n5_f, map_getD, List.length_map, gd_self, gd_ne, Nat.add_sub_cancel]
  exact K h8 F1 ⟨⟨_, _, _, _, p35⟩, ⟨_, cdS_W W48, lW⟩, ⟨_, cdS_W W58, lD⟩, ⟨_, cdS_W W8, oWr_len⟩, J8, ar_fr F8 (by decide) k65, ar_fr F8 (by decide) k66, k67, ⟨_, p68, l68⟩, ⟨_, p69, OT.1⟩, ⟨_, p70, OT.2.1⟩⟩ ⟨p35, W48, W58, W8, r, f, p69, p70, OT⟩
end OW3
