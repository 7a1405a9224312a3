/-! the class's Joining (cells 60 to 64) -/
def jO (a b c d : Int32) : db_C := .inr (4, [.ref 61, .ref 62, .ref 63, .ref 64, .int a, .int b, .int c, .int d])
def agr (a : List Int32) (f : Nat → Nat) (n : Nat) : Prop := ∀ k, k < n → a.getD k 0 = nI (f k)
def cF (cs : List Nat) : Nat → Nat := fun s => cs.getD s 0
/-- in the middle of putting one in: a place is free at i -/
def shI (a : List Int32) (f : Nat → Nat) (i n : Nat) : Prop := ∀ k, (k < i → a.getD k 0 = nI (f k)) ∧ (i ≤ k → k < n → a.getD (k + 1) 0 = nI (f k))
theorem shI_down {a : List Int32} {f : Nat → Nat} {i n : Nat} (hi : i + 1 < a.length) (hin : i < n) (H : shI a f (i + 1) n) : shI (a.set (i + 1) (a.getD i 0)) f i n := by
  intro k
  refine ⟨fun hk => ?_, fun h1 h2 => ?_⟩
  · rw [gd_ne (by omega)]
    exact (H k).1 (by omega)
  · by_cases e : k = i
    · rw [e, gd_self hi]
      exact (H i).1 (by omega)
    · rw [gd_ne (by omega)]
      exact (H k).2 (by omega) h2
section JO
variable {h : db_H} {P : Option Value → db_H → Prop} {cs : List Nat} {k : Nat} {nc nl nj : Int32}
theorem m45_in (hl : 164 < h.length) (hk : h[k]? = some (.inl (0, cs.map nI))) (hk2 : 65 ≤ k ∧ k ≤ 67) (hcs : cs.length ≤ 286) (hb : ∀ i, cs.getD i 0 < 2 ^ 20) {s : Nat} (hs : s < cs.length) {l : List Nat} (hll : l.length ≤ s) (K : ∀ la nu, la.length = 286 → nu.length = 572 → shI la (fun k => l.getD k 0) (ipos (cF cs) l (cF cs s) l.length) l.length → shI nu (fun k => cF cs (l.getD k 0)) (ipos (cF cs) l (cF cs s) l.length) l.length → db_Go 45 85 [.ref 60, .ref k, .int (nI s), .int (nI (ipos (cF cs) l (cF cs s) l.length))] [] (((h.set 60 (jO (nI l.length) nc nl nj)).set 61 (.inl (0, la))).set 62 (.inl (0, nu))) P) : ∀ (i : Nat) (la nu : List Int32), i ≤ l.length → la.length = 286 → nu.length = 572 → shI la (fun k => l.getD k 0) i l.length → shI nu (fun k => cF cs (l.getD k 0)) i l.length → ipos (cF cs) l (cF cs s) i = ipos (cF cs) l (cF cs s) l.length →
    db_Go 45 33 [.ref 60, .ref k, .int (nI s), .int (nI i)] [] (((h.set 60 (jO (nI l.length) nc nl nj)).set 61 (.inl (0, la))).set 62 (.inl (0, nu))) P := by
  intro i
  induction i with
  | zero =>
    intro la nu hi h1 h2 h3 h4 h5
    rw [ipos] at h5
    have := K la nu h1 h2 (by rw [← h5]; exact h3) (by rw [← h5]; exact h4)
    rw [← h5] at this
    rw [g_45_33]
    simp (disch := first | omega | (simp only [List.length_set]; omega)) only [g_45_0, g_45_1, g_45_2, g_45_5, g_45_6, g_45_7, g_45_8, g_45_9, g_45_10, g_45_13, g_45_14, g_45_15, g_45_18, g_45_19, g_45_22, g_45_23, g_45_24, g_45_25, g_45_28, g_45_29, g_45_32, g_45_34, g_45_37, g_45_38, g_45_41, g_45_42, g_45_43, g_45_44, g_45_45, g_45_46, g_45_47, g_45_48, g_45_51, g_45_52, g_45_55, g_45_56, g_45_57, g_45_60, g_45_61, g_45_62, g_45_63, g_45_64, g_45_65, g_45_66, g_45_69, g_45_70, g_45_71, g_45_74, g_45_75, g_45_76, g_45_77, g_45_78, g_45_79, g_45_82, g_45_86, g_45_89, g_45_90, g_45_91, g_45_92, g_45_93, g_45_96, g_45_97, g_45_98, g_45_99, g_45_100, g_45_101, g_45_102, g_45_103, g_45_106, g_45_107, g_45_108, g_45_111, g_45_114, g_45_117, gs_nx, db_inx, gs_ldi, gs_lda, gs_ldn, List.getElem?_cons_zero, List.getElem?_cons_succ, List.set_cons_zero, List.set_cons_succ, gx5, fx_int, fx_ref, fx_null, px5, gs_lx, gs_ax, sx5, ft_int, ft_ref, ft_b0, ft_b1, c1_int, c1_ref, List.length_cons, List.length_nil, Nat.reduceAdd, Nat.reduceLT, Nat.reduceLeDiff, true_and, and_true, true_or, or_true, not_false_eq_true, Option.toList_some, Option.toList_none, List.nil_append, List.singleton_append, List.cons_append, ↓reduceIte, z_max, z_min, nI_add, z_sub, z_dec, z_mul, z_div, z_mod, nI_clamp, z_lt, z_nlt, z_le, z_nle, z_ne, z_eq, z_in, not_true_eq_false, if_true, if_false, hs_at, hs_ne, hs_sort, hset_eq, vupp_eq, hs_over, List.length_set, vup_at, vup_ne, vup_over, vup_sort, mfs_len, n5_f, map_getD, List.length_map, gd_self, gd_ne, Nat.add_sub_cancel]
    exact this
  | succ i ih =>
    intro la nu hi h1 h2 h3 h4 h5
    have e1 := (h4 i).1 (by omega)
    have b1 := hb s
    have b2 := hb (l.getD i 0)
    have e2 : cF cs s = cs.getD s 0 := rfl
    have e3 : cF cs (l.getD i 0) = cs.getD (l.getD i 0) 0 := rfl
    simp only [e3] at e1
    rw [g_45_33]
    by_cases hc : cs.getD s 0 < cs.getD (l.getD i 0) 0
    · have h6 : ipos (cF cs) l (cF cs s) i = ipos (cF cs) l (cF cs s) l.length := by
        rw [ipos, if_pos (by rw [e2, e3]; exact hc)] at h5
        exact h5
      have := ih _ _ (by omega) (by rw [List.length_set]; exact h1) (by rw [List.length_set]; exact h2) (shI_down (by omega) (by omega) h3) (shI_down (by omega) (by omega) h4) h6
      simp (disch := first | omega | (simp only [List.length_set]; omega)) only [g_45_0, g_45_1, g_45_2, g_45_5, g_45_6, g_45_7, g_45_8, g_45_9, g_45_10, g_45_13, g_45_14, g_45_15, g_45_18, g_45_19, g_45_22, g_45_23, g_45_24, g_45_25, g_45_28, g_45_29, g_45_32, g_45_34, g_45_37, g_45_38, g_45_41, g_45_42, g_45_43, g_45_44, g_45_45, g_45_46, g_45_47, g_45_48, g_45_51, g_45_52, g_45_55, g_45_56, g_45_57, g_45_60, g_45_61, g_45_62, g_45_63, g_45_64, g_45_65, g_45_66, g_45_69, g_45_70, g_45_71, g_45_74, g_45_75, g_45_76, g_45_77, g_45_78, g_45_79, g_45_82, g_45_86, g_45_89, g_45_90, g_45_91, g_45_92, g_45_93, g_45_96, g_45_97, g_45_98, g_45_99, g_45_100, g_45_101, g_45_102, g_45_103, g_45_106, g_45_107, g_45_108, g_45_111, g_45_114, g_45_117, gs_nx, db_inx, gs_ldi, gs_lda, gs_ldn, List.getElem?_cons_zero, List.getElem?_cons_succ, List.set_cons_zero, List.set_cons_succ, gx5, fx_int, fx_ref, fx_null, px5, gs_lx, gs_ax, sx5, ft_int, ft_ref, ft_b0, ft_b1, c1_int, c1_ref, List.length_cons, List.length_nil, Nat.reduceAdd, Nat.reduceLT, Nat.reduceLeDiff, true_and, and_true, true_or, or_true, not_false_eq_true, Option.toList_some, Option.toList_none, List.nil_append, List.singleton_append, List.cons_append, ↓reduceIte, z_max, z_min, nI_add, z_sub, z_dec, z_mul, z_div, z_mod, nI_clamp, z_lt, z_nlt, z_le, z_nle, z_ne, z_eq, z_in, not_true_eq_false, if_true, if_false, hs_at, hs_ne, hs_sort, hset_eq, vupp_eq, hs_over, List.length_set, vup_at, vup_ne, vup_over, vup_sort, mfs_len, n5_f, map_getD, List.length_map, gd_self, gd_ne, Nat.add_sub_cancel, jO, hk, e1]
      rw [e1] at this
      exact this
    · have h6 : i + 1 = ipos (cF cs) l (cF cs s) l.length := by
        rw [ipos, if_neg (by rw [e2, e3]; exact hc)] at h5
        exact h5
      have := K la nu h1 h2 (by rw [← h6]; exact h3) (by rw [← h6]; exact h4)
      rw [← h6] at this
      simp (disch := first | omega | (simp only [List.length_set]; omega)) only [g_45_0, g_45_1, g_45_2, g_45_5, g_45_6, g_45_7, g_45_8, g_45_9, g_45_10, g_45_13, g_45_14, g_45_15, g_45_18, g_45_19, g_45_22, g_45_23, g_45_24, g_45_25, g_45_28, g_45_29, g_45_32, g_45_34, g_45_37, g_45_38, g_45_41, g_45_42, g_45_43, g_45_44, g_45_45, g_45_46, g_45_47, g_45_48, g_45_51, g_45_52, g_45_55, g_45_56, g_45_57, g_45_60, g_45_61, g_45_62, g_45_63, g_45_64, g_45_65, g_45_66, g_45_69, g_45_70, g_45_71, g_45_74, g_45_75, g_45_76, g_45_77, g_45_78, g_45_79, g_45_82, g_45_86, g_45_89, g_45_90, g_45_91, g_45_92, g_45_93, g_45_96, g_45_97, g_45_98, g_45_99, g_45_100, g_45_101, g_45_102, g_45_103, g_45_106, g_45_107, g_45_108, g_45_111, g_45_114, g_45_117, gs_nx, db_inx, gs_ldi, gs_lda, gs_ldn, List.getElem?_cons_zero, List.getElem?_cons_succ, List.set_cons_zero, List.set_cons_succ, gx5, fx_int, fx_ref, fx_null, px5, gs_lx, gs_ax, sx5, ft_int, ft_ref, ft_b0, ft_b1, c1_int, c1_ref, List.length_cons, List.length_nil, Nat.reduceAdd, Nat.reduceLT, Nat.reduceLeDiff, true_and, and_true, true_or, or_true, not_false_eq_true, Option.toList_some, Option.toList_none, List.nil_append, List.singleton_append, List.cons_append, ↓reduceIte, z_max, z_min, nI_add, z_sub, z_dec, z_mul, z_div, z_mod, nI_clamp, z_lt, z_nlt, z_le, z_nle, z_ne, z_eq, z_in, not_true_eq_false, if_true, if_false, hs_at, hs_ne, hs_sort, hset_eq, vupp_eq, hs_over, List.length_set, vup_at, vup_ne, vup_over, vup_sort, mfs_len, n5_f, map_getD, List.length_map, gd_self, gd_ne, Nat.add_sub_cancel, jO, hk, e1]
      exact this
theorem agr_ins {a : List Int32} {l : List Nat} {c f : Nat → Nat} {s : Nat} (hl : l.length < a.length) (H : shI a (fun k => f (l.getD k 0)) (ipos c l (c s) l.length) l.length) : agr (a.set (ipos c l (c s) l.length) (nI (f s))) (fun k => f ((insL c l s).getD k 0)) (insL c l s).length := by
  intro k hk
  rw [insL_len] at hk
  have hle := ipos_le c l (c s) l.length
  show _ = nI (f ((insL c l s).getD k 0))
  rw [insL_at]
  generalize ipos c l (c s) l.length = i at *
  by_cases h1 : k < i
  · rw [if_pos h1, gd_ne (by omega)]
    exact (H k).1 h1
  · by_cases h2 : k = i
    · rw [if_neg h1, if_pos h2, h2, gd_self (by omega)]
    · rw [if_neg h1, if_neg h2, gd_ne (by omega)]
      have := (H (k - 1)).2 (by omega) (by omega)
      rw [show k - 1 + 1 = k by omega] at this
      exact this
theorem m45_loop (hl : 164 < h.length) (hk : h[k]? = some (.inl (0, cs.map nI))) (hk2 : 65 ≤ k ∧ k ≤ 67) (hcs : cs.length ≤ 286) (hb : ∀ i, cs.getD i 0 < 2 ^ 20) (K : ∀ la nu, la.length = 286 → nu.length = 572 → agr la (fun k => (lvs (cF cs) cs.length).getD k 0) (lvs (cF cs) cs.length).length → agr nu (fun k => cF cs ((lvs (cF cs) cs.length).getD k 0)) (lvs (cF cs) cs.length).length → P none (((h.set 60 (jO (nI (lvs (cF cs) cs.length).length) nc nl nj)).set 61 (.inl (0, la))).set 62 (.inl (0, nu)))) : ∀ (d s : Nat) (la nu : List Int32) (x : Value), s + d = cs.length → la.length = 286 → nu.length = 572 → agr la (fun k => (lvs (cF cs) s).getD k 0) (lvs (cF cs) s).length → agr nu (fun k => cF cs ((lvs (cF cs) s).getD k 0)) (lvs (cF cs) s).length →
    db_Go 45 7 [.ref 60, .ref k, .int (nI s), x] [] (((h.set 60 (jO (nI (lvs (cF cs) s).length) nc nl nj)).set 61 (.inl (0, la))).set 62 (.inl (0, nu))) P := by
  intro d
  induction d with
  | zero =>
    intro s la nu x hs h1 h2 h3 h4
    have e : s = cs.length := by omega
    subst e
    rw [g_45_7]
    simp (disch := first | omega | (simp only [List.length_set]; omega)) only [g_45_0, g_45_1, g_45_2, g_45_5, g_45_6, g_45_8, g_45_9, g_45_10, g_45_13, g_45_14, g_45_15, g_45_18, g_45_19, g_45_22, g_45_23, g_45_24, g_45_25, g_45_28, g_45_29, g_45_32, g_45_34, g_45_37, g_45_38, g_45_41, g_45_42, g_45_43, g_45_44, g_45_45, g_45_46, g_45_47, g_45_48, g_45_51, g_45_52, g_45_55, g_45_56, g_45_57, g_45_60, g_45_61, g_45_62, g_45_63, g_45_64, g_45_65, g_45_66, g_45_69, g_45_70, g_45_71, g_45_74, g_45_75, g_45_76, g_45_77, g_45_78, g_45_79, g_45_82, g_45_85, g_45_86, g_45_89, g_45_90, g_45_91, g_45_92, g_45_93, g_45_96, g_45_97, g_45_98, g_45_99, g_45_100, g_45_101, g_45_102, g_45_103, g_45_106, g_45_107, g_45_108, g_45_111, g_45_114, g_45_117, gs_nx, db_inx, gs_ldi, gs_lda, gs_ldn, List.getElem?_cons_zero, List.getElem?_cons_succ, List.set_cons_zero, List.set_cons_succ, gx5, fx_int, fx_ref, fx_null, px5, gs_lx, gs_ax, sx5, ft_int, ft_ref, ft_b0, ft_b1, c1_int, c1_ref, List.length_cons, List.length_nil, Nat.reduceAdd, Nat.reduceLT, Nat.reduceLeDiff, true_and, and_true, true_or, or_true, not_false_eq_true, Option.toList_some, Option.toList_none, List.nil_append, List.singleton_append, List.cons_append, ↓reduceIte, z_max, z_min, nI_add, z_sub, z_dec, z_mul, z_div, z_mod, nI_clamp, z_lt, z_nlt, z_le, z_nle, z_ne, z_eq, z_in, not_true_eq_false, if_true, if_false, hs_at, hs_ne, hs_sort, hset_eq, vupp_eq, hs_over, List.length_set, vup_at, vup_ne, vup_over, vup_sort, mfs_len, n5_f, map_getD, List.length_map, gd_self, gd_ne, Nat.add_sub_cancel, jO, hk]
    exact K la nu h1 h2 h3 h4
  | succ d ih =>
    intro s la nu x hs h1 h2 h3 h4
    have hll := lvs_len (cF cs) s
    have b1 := hb s
    have hsl : s < cs.length := by omega
    have hnx : lvs (cF cs) (s + 1) = if 0 < cs.getD s 0 then insL (cF cs) (lvs (cF cs) s) s else lvs (cF cs) s := rfl
    rw [g_45_7]
    by_cases hz : 0 < cs.getD s 0
    · rw [if_pos hz] at hnx
      simp (disch := first | omega | (simp only [List.length_set]; omega)) only [g_45_0, g_45_1, g_45_2, g_45_5, g_45_6, g_45_8, g_45_9, g_45_10, g_45_13, g_45_14, g_45_15, g_45_18, g_45_19, g_45_22, g_45_23, g_45_24, g_45_25, g_45_28, g_45_29, g_45_32, g_45_34, g_45_37, g_45_38, g_45_41, g_45_42, g_45_43, g_45_44, g_45_45, g_45_46, g_45_47, g_45_48, g_45_51, g_45_52, g_45_55, g_45_56, g_45_57, g_45_60, g_45_61, g_45_62, g_45_63, g_45_64, g_45_65, g_45_66, g_45_69, g_45_70, g_45_71, g_45_74, g_45_75, g_45_76, g_45_77, g_45_78, g_45_79, g_45_82, g_45_85, g_45_86, g_45_89, g_45_90, g_45_91, g_45_92, g_45_93, g_45_96, g_45_97, g_45_98, g_45_99, g_45_100, g_45_101, g_45_102, g_45_103, g_45_106, g_45_107, g_45_108, g_45_111, g_45_114, g_45_117, gs_nx, db_inx, gs_ldi, gs_lda, gs_ldn, List.getElem?_cons_zero, List.getElem?_cons_succ, List.set_cons_zero, List.set_cons_succ, gx5, fx_int, fx_ref, fx_null, px5, gs_lx, gs_ax, sx5, ft_int, ft_ref, ft_b0, ft_b1, c1_int, c1_ref, List.length_cons, List.length_nil, Nat.reduceAdd, Nat.reduceLT, Nat.reduceLeDiff, true_and, and_true, true_or, or_true, not_false_eq_true, Option.toList_some, Option.toList_none, List.nil_append, List.singleton_append, List.cons_append, ↓reduceIte, z_max, z_min, nI_add, z_sub, z_dec, z_mul, z_div, z_mod, nI_clamp, z_lt, z_nlt, z_le, z_nle, z_ne, z_eq, z_in, not_true_eq_false, if_true, if_false, hs_at, hs_ne, hs_sort, hset_eq, vupp_eq, hs_over, List.length_set, vup_at, vup_ne, vup_over, vup_sort, mfs_len, n5_f, map_getD, List.length_map, gd_self, gd_ne, Nat.add_sub_cancel, jO, hk]
      generalize lvs (cF cs) s = l at *
      refine m45_in hl hk hk2 hcs hb hsl hll (fun la2 nu2 q1 q2 q3 q4 => ?_) l.length la nu (Nat.le_refl _) h1 h2 (fun j => ⟨fun hj => h3 j hj, fun a b => absurd a (by omega)⟩) (fun j => ⟨fun hj => h4 j hj, fun a b => absurd a (by omega)⟩) rfl
      have hle := ipos_le (cF cs) l (cF cs s) l.length
      have a1 := agr_ins (c := cF cs) (f := id) (s := s) (by omega) q3
      have a2 := agr_ins (c := cF cs) (f := cF cs) (s := s) (by omega) q4
      have := ih (s + 1) (la2.set (ipos (cF cs) l (cF cs s) l.length) (nI s)) (nu2.set (ipos (cF cs) l (cF cs s) l.length) (nI (cF cs s))) (.int (nI (ipos (cF cs) l (cF cs s) l.length))) (by omega) (by rw [List.length_set]; exact q1) (by rw [List.length_set]; exact q2) (by rw [hnx]; exact a1) (by rw [hnx]; exact a2)
      rw [hnx, insL_len] at this
      simp (disch := first | omega | (simp only [List.length_set]; omega)) only [g_45_0, g_45_1, g_45_2, g_45_5, g_45_6, g_45_8, g_45_9, g_45_10, g_45_13, g_45_14, g_45_15, g_45_18, g_45_19, g_45_22, g_45_23, g_45_24, g_45_25, g_45_28, g_45_29, g_45_32, g_45_34, g_45_37, g_45_38, g_45_41, g_45_42, g_45_43, g_45_44, g_45_45, g_45_46, g_45_47, g_45_48, g_45_51, g_45_52, g_45_55, g_45_56, g_45_57, g_45_60, g_45_61, g_45_62, g_45_63, g_45_64, g_45_65, g_45_66, g_45_69, g_45_70, g_45_71, g_45_74, g_45_75, g_45_76, g_45_77, g_45_78, g_45_79, g_45_82, g_45_85, g_45_86, g_45_89, g_45_90, g_45_91, g_45_92, g_45_93, g_45_96, g_45_97, g_45_98, g_45_99, g_45_100, g_45_101, g_45_102, g_45_103, g_45_106, g_45_107, g_45_108, g_45_111, g_45_114, g_45_117, gs_nx, db_inx, gs_ldi, gs_lda, gs_ldn, List.getElem?_cons_zero, List.getElem?_cons_succ, List.set_cons_zero, List.set_cons_succ, gx5, fx_int, fx_ref, fx_null, px5, gs_lx, gs_ax, sx5, ft_int, ft_ref, ft_b0, ft_b1, c1_int, c1_ref, List.length_cons, List.length_nil, Nat.reduceAdd, Nat.reduceLT, Nat.reduceLeDiff, true_and, and_true, true_or, or_true, not_false_eq_true, Option.toList_some, Option.toList_none, List.nil_append, List.singleton_append, List.cons_append, ↓reduceIte, z_max, z_min, nI_add, z_sub, z_dec, z_mul, z_div, z_mod, nI_clamp, z_lt, z_nlt, z_le, z_nle, z_ne, z_eq, z_in, not_true_eq_false, if_true, if_false, hs_at, hs_ne, hs_sort, hset_eq, vupp_eq, hs_over, List.length_set, vup_at, vup_ne, vup_over, vup_sort, mfs_len, n5_f, map_getD, List.length_map, gd_self, gd_ne, Nat.add_sub_cancel, jO, hk]
      exact this
    · rw [if_neg hz] at hnx
      have := ih (s + 1) la nu x (by omega) h1 h2 (by rw [hnx]; exact h3) (by rw [hnx]; exact h4)
      rw [hnx] at this
      simp (disch := first | omega | (simp only [List.length_set]; omega)) only [g_45_0, g_45_1, g_45_2, g_45_5, g_45_6, g_45_8, g_45_9, g_45_10, g_45_13, g_45_14, g_45_15, g_45_18, g_45_19, g_45_22, g_45_23, g_45_24, g_45_25, g_45_28, g_45_29, g_45_32, g_45_34, g_45_37, g_45_38, g_45_41, g_45_42, g_45_43, g_45_44, g_45_45, g_45_46, g_45_47, g_45_48, g_45_51, g_45_52, g_45_55, g_45_56, g_45_57, g_45_60, g_45_61, g_45_62, g_45_63, g_45_64, g_45_65, g_45_66, g_45_69, g_45_70, g_45_71, g_45_74, g_45_75, g_45_76, g_45_77, g_45_78, g_45_79, g_45_82, g_45_85, g_45_86, g_45_89, g_45_90, g_45_91, g_45_92, g_45_93, g_45_96, g_45_97, g_45_98, g_45_99, g_45_100, g_45_101, g_45_102, g_45_103, g_45_106, g_45_107, g_45_108, g_45_111, g_45_114, g_45_117, gs_nx, db_inx, gs_ldi, gs_lda, gs_ldn, List.getElem?_cons_zero, List.getElem?_cons_succ, List.set_cons_zero, List.set_cons_succ, gx5, fx_int, fx_ref, fx_null, px5, gs_lx, gs_ax, sx5, ft_int, ft_ref, ft_b0, ft_b1, c1_int, c1_ref, List.length_cons, List.length_nil, Nat.reduceAdd, Nat.reduceLT, Nat.reduceLeDiff, true_and, and_true, true_or, or_true, not_false_eq_true, Option.toList_some, Option.toList_none, List.nil_append, List.singleton_append, List.cons_append, ↓reduceIte, z_max, z_min, nI_add, z_sub, z_dec, z_mul, z_div, z_mod, nI_clamp, z_lt, z_nlt, z_le, z_nle, z_ne, z_eq, z_in, not_true_eq_false, if_true, if_false, hs_at, hs_ne, hs_sort, hset_eq, vupp_eq, hs_over, List.length_set, vup_at, vup_ne, vup_over, vup_sort, mfs_len, n5_f, map_getD, List.length_map, gd_self, gd_ne, Nat.add_sub_cancel, jO, hk]
      exact this
/-- sortLeaves -/
theorem m45 {lc : Int32} {la nu : List Int32} (hl : 164 < h.length) (h60 : h[60]? = some (jO lc nc nl nj)) (h61 : h[61]? = some (.inl (0, la))) (h62 : h[62]? = some (.inl (0, nu))) (l1 : la.length = 286) (l2 : nu.length = 572) (hk : h[k]? = some (.inl (0, cs.map nI))) (hk2 : 65 ≤ k ∧ k ≤ 67) (hcs : cs.length ≤ 286) (hb : ∀ i, cs.getD i 0 < 2 ^ 20) (K : ∀ la nu, la.length = 286 → nu.length = 572 → agr la (fun k => (lvs (cF cs) cs.length).getD k 0) (lvs (cF cs) cs.length).length → agr nu (fun k => cF cs ((lvs (cF cs) cs.length).getD k 0)) (lvs (cF cs) cs.length).length → P none (((h.set 60 (jO (nI (lvs (cF cs) cs.length).length) nc nl nj)).set 61 (.inl (0, la))).set 62 (.inl (0, nu)))) : db_Go 45 0 [.ref 60, .ref k, .retAddr 0, .retAddr 0] [] h P := by
  unfold jO at h60
  have := m45_loop (P := P) (nc := nc) (nl := nl) (nj := nj) hl hk hk2 hcs hb K cs.length 0 la nu (.retAddr 0) (by omega) l1 l2 (fun k hk => absurd hk (Nat.not_lt_zero k)) (fun k hk => absurd hk (Nat.not_lt_zero k))
  rw [hs_self (h := h.set 60 _) (o := 61) (by simp (disch := first | omega | (simp only [List.length_set]; omega)) only [hs_at, hs_ne, List.length_set, h61]), hs_self (h := h.set 60 _) (o := 62) (by simp (disch := first | omega | (simp only [List.length_set]; omega)) only [hs_at, hs_ne, List.length_set, h62])] at this
  simp (disch := first | omega | (simp only [List.length_set]; omega)) only [g_45_0, g_45_1, g_45_2, g_45_5, g_45_6, g_45_8, g_45_9, g_45_10, g_45_13, g_45_14, g_45_15, g_45_18, g_45_19, g_45_22, g_45_23, g_45_24, g_45_25, g_45_28, g_45_29, g_45_32, g_45_34, g_45_37, g_45_38, g_45_41, g_45_42, g_45_43, g_45_44, g_45_45, g_45_46, g_45_47, g_45_48, g_45_51, g_45_52, g_45_55, g_45_56, g_45_57, g_45_60, g_45_61, g_45_62, g_45_63, g_45_64, g_45_65, g_45_66, g_45_69, g_45_70, g_45_71, g_45_74, g_45_75, g_45_76, g_45_77, g_45_78, g_45_79, g_45_82, g_45_85, g_45_86, g_45_89, g_45_90, g_45_91, g_45_92, g_45_93, g_45_96, g_45_97, g_45_98, g_45_99, g_45_100, g_45_101, g_45_102, g_45_103, g_45_106, g_45_107, g_45_108, g_45_111, g_45_114, g_45_117, gs_nx, db_inx, gs_ldi, gs_lda, gs_ldn, List.getElem?_cons_zero, List.getElem?_cons_succ, List.set_cons_zero, List.set_cons_succ, gx5, fx_int, fx_ref, fx_null, px5, gs_lx, gs_ax, sx5, ft_int, ft_ref, ft_b0, ft_b1, c1_int, c1_ref, List.length_cons, List.length_nil, Nat.reduceAdd, Nat.reduceLT, Nat.reduceLeDiff, true_and, and_true, true_or, or_true, not_false_eq_true, Option.toList_some, Option.toList_none, List.nil_append, List.singleton_append, List.cons_append, ↓reduceIte, z_max, z_min, nI_add, z_sub, z_dec, z_mul, z_div, z_mod, nI_clamp, z_lt, z_nlt, z_le, z_nle, z_ne, z_eq, z_in, not_true_eq_false, if_true, if_false, hs_at, hs_ne, hs_sort, hset_eq, vupp_eq, hs_over, List.length_set, vup_at, vup_ne, vup_over, vup_sort, mfs_len, n5_f, map_getD, List.length_map, gd_self, gd_ne, Nat.add_sub_cancel, h60]
  exact this
end JO
