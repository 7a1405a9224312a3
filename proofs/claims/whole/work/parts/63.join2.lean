/-! Joining: takeLeast, joinAll, findDepths, join -/
theorem sg_ge {N : Nat → Nat} {lo x : Nat} (h1 : lo ≤ x) : ∀ {hi : Nat}, x < hi → N x ≤ sg N lo hi := by
  intro hi
  induction hi with
  | zero => intro h; omega
  | succ hi ih =>
    intro h2
    rw [sg_hi (by omega)]
    by_cases e : x = hi
    · rw [e]
      omega
    · have := ih (by omega)
      omega
theorem HI_le {L T : Nat} {N0 : Nat → Nat} {j : Nat} {S : hS} (H : HI L T N0 j S) (hj : j + 1 ≤ L) : ∀ x, x < S.2.2.2.2 → S.1 x ≤ 2 * T := by
  obtain ⟨N, Q, p, q, c⟩ := S
  obtain ⟨m, e1, e2, e3, e4, e5, e6, hN, hsj, hal, hj2, hde, hpos, hQ, hgr, hsum⟩ := H
  simp only at e1 e2 e3 e4 e5 e6 hN hsj hal hj2 hde hpos hQ hgr hsum ⊢
  have one : ∀ x, alv L p q c x → N x ≤ T := by
    intro x hx
    rcases hx with ⟨h1, h2⟩ | ⟨h1, h2⟩
    · have := sg_ge (N := N) h1 h2
      omega
    · have := sg_ge (N := N) h1 h2
      omega
  have hm : m ≤ T := by
    have a := tk_alv (N := N) (show p < L ∨ q < c by omega)
    exact Nat.le_trans (hal _ a) (one _ a)
  intro x hx
  by_cases ha : alv L p q c x
  · have := one x ha
    omega
  · have := hde x hx ha
    omega
theorem tk2_dead {N : Nat → Nat} {L p q c : Nat} (e2 : p ≤ L) (e3 : L ≤ q) (e4 : q ≤ c) (l1 : p < L ∨ q < c) (l2 : tkp N L p q c < L ∨ tkq N L p q c < c) {x : Nat} (h1 : x < c + 1) (h2 : ¬ alv L (tkp N L (tkp N L p q c) (tkq N L p q c) c) (tkq N L (tkp N L p q c) (tkq N L p q c) c) (c + 1) x) : x < c ∧ (x = tkx N L p q c ∨ x = tkx N L (tkp N L p q c) (tkq N L p q c) c ∨ ¬ alv L p q c x) := by
  have R1 := tk_rest (N := N) e3 l1
  have P1 := tk_pq (N := N) e2 e3 e4 l1
  generalize tkx N L p q c = a at *
  generalize tkp N L p q c = p1 at *
  generalize tkq N L p q c = q1 at *
  have R2 := tk_rest (N := N) P1.2.1 l2
  have P2 := tk_pq (N := N) P1.1 P1.2.1 P1.2.2.1 l2
  generalize tkx N L p1 q1 c = b at *
  generalize tkp N L p1 q1 c = p2 at *
  generalize tkq N L p1 q1 c = q2 at *
  have hxc : ¬ x = c := fun e => h2 (Or.inr ⟨by omega, by omega⟩)
  refine ⟨by omega, ?_⟩
  by_cases ea : x = a
  · exact Or.inl ea
  · by_cases eb : x = b
    · exact Or.inr (Or.inl eb)
    · refine Or.inr (Or.inr (fun h3 => h2 ?_))
      have := (R2 x).mpr ⟨(R1 x).mpr ⟨h3, ea⟩, eb⟩
      unfold alv at this ⊢
      omega
theorem agr_push {a : List Int32} {f : Nat → Nat} {c v : Nat} (hc : c < a.length) (H : agr a f c) : agr (a.set c (nI v)) (jN f c v) (c + 1) := by
  intro k hk
  by_cases e : k = c
  · rw [e, gd_self hc, jN_at]
  · rw [gd_ne (by omega), jN_ne e]
    exact H k (by omega)
section J2
variable {h : db_H} {P : Option Value → db_H → Prop}
/-- takeLeast -/
theorem m47 {N : Nat → Nat} {L p q c : Nat} {nu : List Int32} (hl : 164 < h.length) (h60 : h[60]? = some (jO (nI L) (nI c) (nI p) (nI q))) (h62 : h[62]? = some (.inl (0, nu))) (ln : nu.length = 572) (hc : c ≤ 572) (hN : agr nu N c) (hb : ∀ x, x < c → N x < 2 ^ 30) (h1 : p ≤ L) (h2 : L ≤ q) (h3 : q ≤ c) (h4 : p < L ∨ q < c) (K : P (some (.int (nI (tkx N L p q c)))) (h.set 60 (jO (nI L) (nI c) (nI (tkp N L p q c)) (nI (tkq N L p q c))))) : db_Go 47 0 [.ref 60, .retAddr 0, .retAddr 0] [] h P := by
  unfold jO at h60
  unfold tkx tkp tkq tkc at K
  by_cases a : p < L
  · have np := hN p (by omega)
    have bp := hb p (by omega)
    by_cases b : c ≤ q
    · simp only [a, b, decide_true, Bool.true_or, Bool.and_self, if_true] at K
      simp (disch := first | omega | (simp only [List.length_set]; omega)) only [g_47_0, g_47_1, g_47_4, g_47_5, g_47_8, g_47_11, g_47_12, g_47_15, g_47_16, g_47_17, g_47_18, g_47_21, g_47_22, g_47_25, g_47_28, g_47_29, g_47_32, g_47_33, g_47_34, g_47_35, g_47_38, g_47_39, g_47_42, g_47_43, g_47_46, g_47_47, g_47_50, g_47_51, g_47_52, g_47_55, g_47_56, g_47_59, g_47_60, g_47_63, g_47_64, g_47_65, g_47_68, g_47_69, g_47_70, g_47_73, g_47_74, g_47_77, g_47_78, g_47_79, g_47_80, g_47_81, g_47_84, g_47_85, g_47_86, g_47_89, g_47_90, g_47_91, g_47_94, g_47_95, g_47_98, g_47_99, g_47_100, g_47_101, g_47_102, gs_nx, db_inx, gs_ldi, gs_lda, gs_ldn, List.getElem?_cons_zero, List.getElem?_cons_succ, List.set_cons_zero, List.set_cons_succ, gx5, fx_int, fx_ref, fx_null, px5, gs_lx, gs_ax, sx5, ft_int, ft_ref, ft_b0, ft_b1, c1_int, c1_ref, List.length_cons, List.length_nil, Nat.reduceAdd, Nat.reduceLT, Nat.reduceLeDiff, true_and, and_true, true_or, or_true, not_false_eq_true, Option.toList_some, Option.toList_none, List.nil_append, List.singleton_append, List.cons_append, ↓reduceIte, z_max, z_min, nI_add, z_sub, z_dec, z_mul, z_div, z_mod, nI_clamp, z_lt, z_nlt, z_le, z_nle, z_ne, z_eq, z_in, not_true_eq_false, if_true, if_false, hs_at, hs_ne, hs_sort, hset_eq, vupp_eq, hs_over, List.length_set, vup_at, vup_ne, vup_over, vup_sort, mfs_len, n5_f, map_getD, List.length_map, gd_self, gd_ne, Nat.add_sub_cancel, h60, h62, np]
      exact K
    · have nq := hN q (by omega)
      have bq := hb q (by omega)
      by_cases d : N p ≤ N q
      · simp only [a, d, decide_true, Bool.or_true, Bool.and_self, if_true] at K
        simp (disch := first | omega | (simp only [List.length_set]; omega)) only [g_47_0, g_47_1, g_47_4, g_47_5, g_47_8, g_47_11, g_47_12, g_47_15, g_47_16, g_47_17, g_47_18, g_47_21, g_47_22, g_47_25, g_47_28, g_47_29, g_47_32, g_47_33, g_47_34, g_47_35, g_47_38, g_47_39, g_47_42, g_47_43, g_47_46, g_47_47, g_47_50, g_47_51, g_47_52, g_47_55, g_47_56, g_47_59, g_47_60, g_47_63, g_47_64, g_47_65, g_47_68, g_47_69, g_47_70, g_47_73, g_47_74, g_47_77, g_47_78, g_47_79, g_47_80, g_47_81, g_47_84, g_47_85, g_47_86, g_47_89, g_47_90, g_47_91, g_47_94, g_47_95, g_47_98, g_47_99, g_47_100, g_47_101, g_47_102, gs_nx, db_inx, gs_ldi, gs_lda, gs_ldn, List.getElem?_cons_zero, List.getElem?_cons_succ, List.set_cons_zero, List.set_cons_succ, gx5, fx_int, fx_ref, fx_null, px5, gs_lx, gs_ax, sx5, ft_int, ft_ref, ft_b0, ft_b1, c1_int, c1_ref, List.length_cons, List.length_nil, Nat.reduceAdd, Nat.reduceLT, Nat.reduceLeDiff, true_and, and_true, true_or, or_true, not_false_eq_true, Option.toList_some, Option.toList_none, List.nil_append, List.singleton_append, List.cons_append, ↓reduceIte, z_max, z_min, nI_add, z_sub, z_dec, z_mul, z_div, z_mod, nI_clamp, z_lt, z_nlt, z_le, z_nle, z_ne, z_eq, z_in, not_true_eq_false, if_true, if_false, hs_at, hs_ne, hs_sort, hset_eq, vupp_eq, hs_over, List.length_set, vup_at, vup_ne, vup_over, vup_sort, mfs_len, n5_f, map_getD, List.length_map, gd_self, gd_ne, Nat.add_sub_cancel, h60, h62, np, nq]
        exact K
      · simp only [a, b, d, decide_true, decide_false, Bool.or_self, Bool.and_false, Bool.false_eq_true, if_false] at K
        simp (disch := first | omega | (simp only [List.length_set]; omega)) only [g_47_0, g_47_1, g_47_4, g_47_5, g_47_8, g_47_11, g_47_12, g_47_15, g_47_16, g_47_17, g_47_18, g_47_21, g_47_22, g_47_25, g_47_28, g_47_29, g_47_32, g_47_33, g_47_34, g_47_35, g_47_38, g_47_39, g_47_42, g_47_43, g_47_46, g_47_47, g_47_50, g_47_51, g_47_52, g_47_55, g_47_56, g_47_59, g_47_60, g_47_63, g_47_64, g_47_65, g_47_68, g_47_69, g_47_70, g_47_73, g_47_74, g_47_77, g_47_78, g_47_79, g_47_80, g_47_81, g_47_84, g_47_85, g_47_86, g_47_89, g_47_90, g_47_91, g_47_94, g_47_95, g_47_98, g_47_99, g_47_100, g_47_101, g_47_102, gs_nx, db_inx, gs_ldi, gs_lda, gs_ldn, List.getElem?_cons_zero, List.getElem?_cons_succ, List.set_cons_zero, List.set_cons_succ, gx5, fx_int, fx_ref, fx_null, px5, gs_lx, gs_ax, sx5, ft_int, ft_ref, ft_b0, ft_b1, c1_int, c1_ref, List.length_cons, List.length_nil, Nat.reduceAdd, Nat.reduceLT, Nat.reduceLeDiff, true_and, and_true, true_or, or_true, not_false_eq_true, Option.toList_some, Option.toList_none, List.nil_append, List.singleton_append, List.cons_append, ↓reduceIte, z_max, z_min, nI_add, z_sub, z_dec, z_mul, z_div, z_mod, nI_clamp, z_lt, z_nlt, z_le, z_nle, z_ne, z_eq, z_in, not_true_eq_false, if_true, if_false, hs_at, hs_ne, hs_sort, hset_eq, vupp_eq, hs_over, List.length_set, vup_at, vup_ne, vup_over, vup_sort, mfs_len, n5_f, map_getD, List.length_map, gd_self, gd_ne, Nat.add_sub_cancel, h60, h62, np, nq]
        exact K
  · have nq := hN q (by omega)
    simp only [a, decide_false, Bool.false_and, Bool.false_eq_true, if_false] at K
    simp (disch := first | omega | (simp only [List.length_set]; omega)) only [g_47_0, g_47_1, g_47_4, g_47_5, g_47_8, g_47_11, g_47_12, g_47_15, g_47_16, g_47_17, g_47_18, g_47_21, g_47_22, g_47_25, g_47_28, g_47_29, g_47_32, g_47_33, g_47_34, g_47_35, g_47_38, g_47_39, g_47_42, g_47_43, g_47_46, g_47_47, g_47_50, g_47_51, g_47_52, g_47_55, g_47_56, g_47_59, g_47_60, g_47_63, g_47_64, g_47_65, g_47_68, g_47_69, g_47_70, g_47_73, g_47_74, g_47_77, g_47_78, g_47_79, g_47_80, g_47_81, g_47_84, g_47_85, g_47_86, g_47_89, g_47_90, g_47_91, g_47_94, g_47_95, g_47_98, g_47_99, g_47_100, g_47_101, g_47_102, gs_nx, db_inx, gs_ldi, gs_lda, gs_ldn, List.getElem?_cons_zero, List.getElem?_cons_succ, List.set_cons_zero, List.set_cons_succ, gx5, fx_int, fx_ref, fx_null, px5, gs_lx, gs_ax, sx5, ft_int, ft_ref, ft_b0, ft_b1, c1_int, c1_ref, List.length_cons, List.length_nil, Nat.reduceAdd, Nat.reduceLT, Nat.reduceLeDiff, true_and, and_true, true_or, or_true, not_false_eq_true, Option.toList_some, Option.toList_none, List.nil_append, List.singleton_append, List.cons_append, ↓reduceIte, z_max, z_min, nI_add, z_sub, z_dec, z_mul, z_div, z_mod, nI_clamp, z_lt, z_nlt, z_le, z_nle, z_ne, z_eq, z_in, not_true_eq_false, if_true, if_false, hs_at, hs_ne, hs_sort, hset_eq, vupp_eq, hs_over, List.length_set, vup_at, vup_ne, vup_over, vup_sort, mfs_len, n5_f, map_getD, List.length_map, gd_self, gd_ne, Nat.add_sub_cancel, h60, h62, nq]
    exact K
theorem m46_loop {L T n : Nat} {N0 sy : Nat → Nat} {S0 : hS} (hl : 164 < h.length) (hL : L ≤ 286) (hT : T < 2 ^ 28) (hs : ∀ x y, x < y → y < L → N0 x < N0 y ∨ (N0 x = N0 y ∧ sy x < sy y)) (hn : ∀ x, x < L → sy x < n)
    (K : ∀ nu jt, nu.length = 572 → jt.length = 572 → (∀ x, x < (hrun L S0 (L - 1)).2.2.2.2 → ¬ alv L (hrun L S0 (L - 1)).2.2.1 (hrun L S0 (L - 1)).2.2.2.1 (hrun L S0 (L - 1)).2.2.2.2 x → jt.getD x 0 = nI ((hrun L S0 (L - 1)).2.1 x)) → P none (((h.set 60 (jO (nI L) (nI (hrun L S0 (L - 1)).2.2.2.2) (nI (hrun L S0 (L - 1)).2.2.1) (nI (hrun L S0 (L - 1)).2.2.2.1))).set 62 (.inl (0, nu))).set 63 (.inl (0, jt)))) :
    ∀ (d j : Nat) (S : hS) (nu jt : List Int32) (x2 x3 : Value), j + d = L - 1 → hrun L S0 j = S → HI L T N0 j S → nu.length = 572 → jt.length = 572 → agr nu S.1 S.2.2.2.2 → (∀ x, x < S.2.2.2.2 → ¬ alv L S.2.2.1 S.2.2.2.1 S.2.2.2.2 x → jt.getD x 0 = nI (S.2.1 x)) →
    db_Go 46 23 [.ref 60, .int (nI (j + 1)), x2, x3] [] (((h.set 60 (jO (nI L) (nI S.2.2.2.2) (nI S.2.2.1) (nI S.2.2.2.1))).set 62 (.inl (0, nu))).set 63 (.inl (0, jt))) P := by
  intro d
  induction d with
  | zero =>
    intro j S nu jt x2 x3 hj hS H l1 l2 a1 a2
    have hj2 : j = L - 1 := by omega
    subst hj2
    rw [hS] at K
    have hc : S.2.2.2.2 = L + (L - 1) := H.choose_spec.1
    rw [g_46_23]
    simp (disch := first | omega | (simp only [List.length_set]; omega)) only [g_46_0, g_46_1, g_46_2, g_46_5, g_46_8, g_46_9, g_46_10, g_46_13, g_46_14, g_46_15, g_46_18, g_46_21, g_46_22, g_46_24, g_46_25, g_46_28, g_46_31, g_46_32, g_46_35, g_46_36, g_46_39, g_46_40, g_46_43, g_46_47, g_46_48, g_46_52, g_46_53, g_46_54, g_46_57, g_46_58, g_46_61, g_46_62, g_46_65, g_46_66, g_46_67, g_46_68, g_46_71, g_46_72, g_46_73, g_46_74, g_46_75, g_46_76, g_46_79, g_46_80, g_46_81, g_46_84, g_46_85, g_46_86, g_46_89, g_46_90, g_46_91, g_46_94, g_46_95, g_46_96, g_46_97, g_46_100, g_46_101, g_46_102, g_46_105, g_46_108, g_46_111, gs_nx, db_inx, gs_ldi, gs_lda, gs_ldn, List.getElem?_cons_zero, List.getElem?_cons_succ, List.set_cons_zero, List.set_cons_succ, gx5, fx_int, fx_ref, fx_null, px5, gs_lx, gs_ax, sx5, ft_int, ft_ref, ft_b0, ft_b1, c1_int, c1_ref, List.length_cons, List.length_nil, Nat.reduceAdd, Nat.reduceLT, Nat.reduceLeDiff, true_and, and_true, true_or, or_true, not_false_eq_true, Option.toList_some, Option.toList_none, List.nil_append, List.singleton_append, List.cons_append, ↓reduceIte, z_max, z_min, nI_add, z_sub, z_dec, z_mul, z_div, z_mod, nI_clamp, z_lt, z_nlt, z_le, z_nle, z_ne, z_eq, z_in, not_true_eq_false, if_true, if_false, hs_at, hs_ne, hs_sort, hset_eq, vupp_eq, hs_over, List.length_set, vup_at, vup_ne, vup_over, vup_sort, mfs_len, n5_f, map_getD, List.length_map, gd_self, gd_ne, Nat.add_sub_cancel, jO]
    exact K nu jt l1 l2 a2
  | succ d ih =>
    intro j S nu jt x2 x3 hj hS H l1 l2 a1 a2
    have H2 := HI_step hs hn H (by omega)
    have hS2 : hrun L S0 (j + 1) = hstep L S := by rw [hrun, hS]
    have hle := HI_le H (by omega)
    obtain ⟨m, e1, e2, e3, e4, e5, e6, -⟩ := id H
    have ih2 := fun nu jt x2 x3 => ih (j + 1) (hstep L S) nu jt x2 x3 (by omega) hS2 H2
    clear ih hS2 H2 hS H
    obtain ⟨N, Q, p, q, c⟩ := S
    simp only at e1 e2 e3 e4 e5 e6 hle a1 a2 ⊢
    have q1 : p < L ∨ q < c := by omega
    have P1 := tk_pq (N := N) e2 e3 e4 q1
    have q2 : tkp N L p q c < L ∨ tkq N L p q c < c := by omega
    have dead := fun x => tk2_dead (N := N) e2 e3 e4 q1 q2 (x := x)
    have A1 := tk_alv (N := N) q1
    have A2 := tk_alv (N := N) q2
    have A1c : tkx N L p q c < c := by unfold alv at A1; omega
    have A2c : tkx N L (tkp N L p q c) (tkq N L p q c) c < c := by unfold alv at A2; omega
    have na := a1 _ A1c
    have nb := a1 _ A2c
    have ba := hle _ A1c
    have bb := hle _ A2c
    have go := ih2 (nu.set c (nI (N (tkx N L p q c) + N (tkx N L (tkp N L p q c) (tkq N L p q c) c)))) ((jt.set (tkx N L p q c) (nI c)).set (tkx N L (tkp N L p q c) (tkq N L p q c) c) (nI c)) (.int (nI (tkx N L p q c))) (.int (nI (tkx N L (tkp N L p q c) (tkq N L p q c) c))) (by rw [List.length_set]; exact l1) (by rw [List.length_set, List.length_set]; exact l2) (agr_push (by omega) a1) (fun x h1 h2 => by
      obtain ⟨h3, h4⟩ := dead x h1 h2
      show _ = nI (jQ Q (tkx N L p q c) (tkx N L (tkp N L p q c) (tkq N L p q c) c) c x)
      by_cases eb : x = tkx N L (tkp N L p q c) (tkq N L p q c) c
      · rw [← eb, gd_self (by rw [List.length_set]; omega), jQ_b]
      · rw [gd_ne (fun e => eb e.symm)]
        by_cases ea : x = tkx N L p q c
        · rw [← ea, gd_self (by omega), jQ_a]
        · rw [gd_ne (fun e => ea e.symm), jQ_ne ea eb]
          refine a2 x h3 ?_
          rcases h4 with h4 | h4 | h4
          · exact absurd h4 ea
          · exact absurd h4 eb
          · exact h4)
    unfold hstep at go
    simp only [h_a, h_b, h_p, h_q] at go
    rw [g_46_23]
    simp (disch := first | omega | (simp only [List.length_set]; omega)) only [g_46_0, g_46_1, g_46_2, g_46_5, g_46_8, g_46_9, g_46_10, g_46_13, g_46_14, g_46_15, g_46_18, g_46_21, g_46_22, g_46_24, g_46_25, g_46_28, g_46_31, g_46_32, g_46_35, g_46_36, g_46_39, g_46_40, g_46_43, g_46_47, g_46_48, g_46_52, g_46_53, g_46_54, g_46_57, g_46_58, g_46_61, g_46_62, g_46_65, g_46_66, g_46_67, g_46_68, g_46_71, g_46_72, g_46_73, g_46_74, g_46_75, g_46_76, g_46_79, g_46_80, g_46_81, g_46_84, g_46_85, g_46_86, g_46_89, g_46_90, g_46_91, g_46_94, g_46_95, g_46_96, g_46_97, g_46_100, g_46_101, g_46_102, g_46_105, g_46_108, g_46_111, gs_nx, db_inx, gs_ldi, gs_lda, gs_ldn, List.getElem?_cons_zero, List.getElem?_cons_succ, List.set_cons_zero, List.set_cons_succ, gx5, fx_int, fx_ref, fx_null, px5, gs_lx, gs_ax, sx5, ft_int, ft_ref, ft_b0, ft_b1, c1_int, c1_ref, List.length_cons, List.length_nil, Nat.reduceAdd, Nat.reduceLT, Nat.reduceLeDiff, true_and, and_true, true_or, or_true, not_false_eq_true, Option.toList_some, Option.toList_none, List.nil_append, List.singleton_append, List.cons_append, ↓reduceIte, z_max, z_min, nI_add, z_sub, z_dec, z_mul, z_div, z_mod, nI_clamp, z_lt, z_nlt, z_le, z_nle, z_ne, z_eq, z_in, not_true_eq_false, if_true, if_false, hs_at, hs_ne, hs_sort, hset_eq, vupp_eq, hs_over, List.length_set, vup_at, vup_ne, vup_over, vup_sort, mfs_len, n5_f, map_getD, List.length_map, gd_self, gd_ne, Nat.add_sub_cancel, jO]
    refine c_46_44 (by simp) (n5_ge (by omega)) (by simp (disch := first | omega | (simp only [List.length_set]; omega)) only [hs_at, hs_ne, List.length_set]; rfl) ?_
    refine m47 (N := N) (by simpa using hl) (by simp (disch := first | omega | (simp only [List.length_set]; omega)) only [hs_at, hs_ne, List.length_set, jO]) (by simp (disch := first | omega | (simp only [List.length_set]; omega)) only [hs_at, hs_ne, List.length_set]) l1 (by omega) a1 (fun x hx => by have := hle x hx; omega) e2 e3 e4 q1 ?_
    simp (disch := first | omega | (simp only [List.length_set]; omega)) only [g_46_0, g_46_1, g_46_2, g_46_5, g_46_8, g_46_9, g_46_10, g_46_13, g_46_14, g_46_15, g_46_18, g_46_21, g_46_22, g_46_24, g_46_25, g_46_28, g_46_31, g_46_32, g_46_35, g_46_36, g_46_39, g_46_40, g_46_43, g_46_47, g_46_48, g_46_52, g_46_53, g_46_54, g_46_57, g_46_58, g_46_61, g_46_62, g_46_65, g_46_66, g_46_67, g_46_68, g_46_71, g_46_72, g_46_73, g_46_74, g_46_75, g_46_76, g_46_79, g_46_80, g_46_81, g_46_84, g_46_85, g_46_86, g_46_89, g_46_90, g_46_91, g_46_94, g_46_95, g_46_96, g_46_97, g_46_100, g_46_101, g_46_102, g_46_105, g_46_108, g_46_111, gs_nx, db_inx, gs_ldi, gs_lda, gs_ldn, List.getElem?_cons_zero, List.getElem?_cons_succ, List.set_cons_zero, List.set_cons_succ, gx5, fx_int, fx_ref, fx_null, px5, gs_lx, gs_ax, sx5, ft_int, ft_ref, ft_b0, ft_b1, c1_int, c1_ref, List.length_cons, List.length_nil, Nat.reduceAdd, Nat.reduceLT, Nat.reduceLeDiff, true_and, and_true, true_or, or_true, not_false_eq_true, Option.toList_some, Option.toList_none, List.nil_append, List.singleton_append, List.cons_append, ↓reduceIte, z_max, z_min, nI_add, z_sub, z_dec, z_mul, z_div, z_mod, nI_clamp, z_lt, z_nlt, z_le, z_nle, z_ne, z_eq, z_in, not_true_eq_false, if_true, if_false, hs_at, hs_ne, hs_sort, hset_eq, vupp_eq, hs_over, List.length_set, vup_at, vup_ne, vup_over, vup_sort, mfs_len, n5_f, map_getD, List.length_map, gd_self, gd_ne, Nat.add_sub_cancel, jO]
    refine c_46_49 (by simp) (n5_ge (by omega)) (by simp (disch := first | omega | (simp only [List.length_set]; omega)) only [hs_at, hs_ne, List.length_set]; rfl) ?_
    refine m47 (N := N) (by simpa using hl) (by simp (disch := first | omega | (simp only [List.length_set]; omega)) only [hs_at, hs_ne, List.length_set, jO]) (by simp (disch := first | omega | (simp only [List.length_set]; omega)) only [hs_at, hs_ne, List.length_set]) l1 (by omega) a1 (fun x hx => by have := hle x hx; omega) P1.1 P1.2.1 P1.2.2.1 q2 ?_
    simp (disch := first | omega | (simp only [List.length_set]; omega)) only [g_46_0, g_46_1, g_46_2, g_46_5, g_46_8, g_46_9, g_46_10, g_46_13, g_46_14, g_46_15, g_46_18, g_46_21, g_46_22, g_46_24, g_46_25, g_46_28, g_46_31, g_46_32, g_46_35, g_46_36, g_46_39, g_46_40, g_46_43, g_46_47, g_46_48, g_46_52, g_46_53, g_46_54, g_46_57, g_46_58, g_46_61, g_46_62, g_46_65, g_46_66, g_46_67, g_46_68, g_46_71, g_46_72, g_46_73, g_46_74, g_46_75, g_46_76, g_46_79, g_46_80, g_46_81, g_46_84, g_46_85, g_46_86, g_46_89, g_46_90, g_46_91, g_46_94, g_46_95, g_46_96, g_46_97, g_46_100, g_46_101, g_46_102, g_46_105, g_46_108, g_46_111, gs_nx, db_inx, gs_ldi, gs_lda, gs_ldn, List.getElem?_cons_zero, List.getElem?_cons_succ, List.set_cons_zero, List.set_cons_succ, gx5, fx_int, fx_ref, fx_null, px5, gs_lx, gs_ax, sx5, ft_int, ft_ref, ft_b0, ft_b1, c1_int, c1_ref, List.length_cons, List.length_nil, Nat.reduceAdd, Nat.reduceLT, Nat.reduceLeDiff, true_and, and_true, true_or, or_true, not_false_eq_true, Option.toList_some, Option.toList_none, List.nil_append, List.singleton_append, List.cons_append, ↓reduceIte, z_max, z_min, nI_add, z_sub, z_dec, z_mul, z_div, z_mod, nI_clamp, z_lt, z_nlt, z_le, z_nle, z_ne, z_eq, z_in, not_true_eq_false, if_true, if_false, hs_at, hs_ne, hs_sort, hset_eq, vupp_eq, hs_over, List.length_set, vup_at, vup_ne, vup_over, vup_sort, mfs_len, n5_f, map_getD, List.length_map, gd_self, gd_ne, Nat.add_sub_cancel, jO, na, nb]
    exact go
/-- joinAll -/
theorem m46 {L T n : Nat} {N0 sy Q0 : Nat → Nat} {nc nl nj : Int32} {nu jt : List Int32} (hl : 164 < h.length) (h60 : h[60]? = some (jO (nI L) nc nl nj)) (h62 : h[62]? = some (.inl (0, nu))) (h63 : h[63]? = some (.inl (0, jt))) (l1 : nu.length = 572) (l2 : jt.length = 572) (hN : agr nu N0 L) (hL : L ≤ 286) (hT : T < 2 ^ 28) (hs : ∀ x y, x < y → y < L → N0 x < N0 y ∨ (N0 x = N0 y ∧ sy x < sy y)) (hn : ∀ x, x < L → sy x < n) (H : HI L T N0 0 (N0, Q0, 0, L, L))
    (K : ∀ nu jt, nu.length = 572 → jt.length = 572 → (∀ x, x < (hrun L (N0, Q0, 0, L, L) (L - 1)).2.2.2.2 → ¬ alv L (hrun L (N0, Q0, 0, L, L) (L - 1)).2.2.1 (hrun L (N0, Q0, 0, L, L) (L - 1)).2.2.2.1 (hrun L (N0, Q0, 0, L, L) (L - 1)).2.2.2.2 x → jt.getD x 0 = nI ((hrun L (N0, Q0, 0, L, L) (L - 1)).2.1 x)) → P none (((h.set 60 (jO (nI L) (nI (hrun L (N0, Q0, 0, L, L) (L - 1)).2.2.2.2) (nI (hrun L (N0, Q0, 0, L, L) (L - 1)).2.2.1) (nI (hrun L (N0, Q0, 0, L, L) (L - 1)).2.2.2.1))).set 62 (.inl (0, nu))).set 63 (.inl (0, jt)))) : db_Go 46 0 [.ref 60, .retAddr 0, .retAddr 0, .retAddr 0] [] h P := by
  have := m46_loop (P := P) hl hL hT hs hn K (L - 1) 0 (N0, Q0, 0, L, L) nu jt (.retAddr 0) (.retAddr 0) (by omega) rfl H l1 l2 hN (fun x h1 h2 => by simp only [alv] at h1 h2; omega)
  simp only at this
  rw [hs_self (h := h.set 60 _) (o := 62) (by simp (disch := first | omega | (simp only [List.length_set]; omega)) only [hs_at, hs_ne, List.length_set, h62]), hs_self (h := h.set 60 _) (o := 63) (by simp (disch := first | omega | (simp only [List.length_set]; omega)) only [hs_at, hs_ne, List.length_set, h63])] at this
  unfold jO at h60
  simp (disch := first | omega | (simp only [List.length_set]; omega)) only [g_46_0, g_46_1, g_46_2, g_46_5, g_46_8, g_46_9, g_46_10, g_46_13, g_46_14, g_46_15, g_46_18, g_46_21, g_46_22, g_46_24, g_46_25, g_46_28, g_46_31, g_46_32, g_46_35, g_46_36, g_46_39, g_46_40, g_46_43, g_46_47, g_46_48, g_46_52, g_46_53, g_46_54, g_46_57, g_46_58, g_46_61, g_46_62, g_46_65, g_46_66, g_46_67, g_46_68, g_46_71, g_46_72, g_46_73, g_46_74, g_46_75, g_46_76, g_46_79, g_46_80, g_46_81, g_46_84, g_46_85, g_46_86, g_46_89, g_46_90, g_46_91, g_46_94, g_46_95, g_46_96, g_46_97, g_46_100, g_46_101, g_46_102, g_46_105, g_46_108, g_46_111, gs_nx, db_inx, gs_ldi, gs_lda, gs_ldn, List.getElem?_cons_zero, List.getElem?_cons_succ, List.set_cons_zero, List.set_cons_succ, gx5, fx_int, fx_ref, fx_null, px5, gs_lx, gs_ax, sx5, ft_int, ft_ref, ft_b0, ft_b1, c1_int, c1_ref, List.length_cons, List.length_nil, Nat.reduceAdd, Nat.reduceLT, Nat.reduceLeDiff, true_and, and_true, true_or, or_true, not_false_eq_true, Option.toList_some, Option.toList_none, List.nil_append, List.singleton_append, List.cons_append, ↓reduceIte, z_max, z_min, nI_add, z_sub, z_dec, z_mul, z_div, z_mod, nI_clamp, z_lt, z_nlt, z_le, z_nle, z_ne, z_eq, z_in, not_true_eq_false, if_true, if_false, hs_at, hs_ne, hs_sort, hset_eq, vupp_eq, hs_over, List.length_set, vup_at, vup_ne, vup_over, vup_sort, mfs_len, n5_f, map_getD, List.length_map, gd_self, gd_ne, Nat.add_sub_cancel, h60]
  exact this
end J2
