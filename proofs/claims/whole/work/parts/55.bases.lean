/-! bases and extra bits of lengths and distances; the order of row widths; rowBits -/
def LB : List Nat := [3, 4, 5, 6, 7, 8, 9, 10, 11, 13, 15, 17, 19, 23, 27, 31, 35, 43, 51, 59, 67, 83, 99, 115, 131, 163, 195, 227, 258]
def DB : List Nat := [1, 2, 3, 4, 5, 7, 9, 13, 17, 25, 33, 49, 65, 97, 129, 193, 257, 385, 513, 769, 1025, 1537, 2049, 3073, 4097, 6145, 8193, 12289, 16385, 24577]
def RO : List Nat := [16, 17, 18, 0, 8, 7, 9, 6, 10, 5, 11, 4, 12, 3, 13, 2, 14, 1, 15]
theorem tab0 : db_tab0 = LB.map nI := by decide +kernel
theorem tab1 : db_tab1 = DB.map nI := by decide +kernel
theorem tab2 : db_tab2 = RO.map nI := by decide +kernel
def lbN (i : Nat) : Nat := if i < 8 ∨ 28 ≤ i then 0 else (i - 4) / 4
def dbN (i : Nat) : Nat := if i < 2 then 0 else (i - 2) / 2
def rbN (s : Nat) : Nat := if s = 16 then 2 else if s = 17 then 3 else if s = 18 then 7 else 0
def ixB (b : List Nat) (v : Nat) : Nat → Nat
  | 0 => 0
  | i + 1 => if b.getD (i + 1) 0 ≤ v then i + 1 else ixB b v i
theorem ixB_le (b : List Nat) (v : Nat) : ∀ i, ixB b v i ≤ i
  | 0 => Nat.le_refl 0
  | i + 1 => by
    rw [ixB]
    split
    · exact Nat.le_refl _
    · exact Nat.le_succ_of_le (ixB_le b v i)
theorem ixB_base (b : List Nat) (v : Nat) (h0 : b.getD 0 0 ≤ v) : ∀ i, b.getD (ixB b v i) 0 ≤ v
  | 0 => h0
  | i + 1 => by
    rw [ixB]
    split
    · assumption
    · exact ixB_base b v h0 i
def lsum : Nat → Nat
  | 0 => 3
  | k + 1 => lsum k + 2 ^ lbN k
def dsum : Nat → Nat
  | 0 => 1
  | k + 1 => dsum k + 2 ^ dbN k
theorem lsum_eq : ∀ i, i < 29 → (if i = 28 then 258 else lsum i) = LB.getD i 0 := by decide +kernel
theorem dsum_eq : ∀ i, i < 30 → dsum i = DB.getD i 0 := by decide +kernel
theorem lsum_lt : ∀ i, i < 29 → lsum i < 1000 := by decide +kernel
theorem LB_lt : ∀ i, LB.getD i 0 < 300 := fun i => by
  rcases Nat.lt_or_ge i 29 with h | h
  · exact (by decide +kernel : ∀ i, i < 29 → LB.getD i 0 < 300) i h
  · rw [List.getD_eq_getElem?_getD, List.getElem?_eq_none (by simpa [LB] using h)]
    decide
theorem DB_lt : ∀ i, DB.getD i 0 < 30000 := fun i => by
  rcases Nat.lt_or_ge i 30 with h | h
  · exact (by decide +kernel : ∀ i, i < 30 → DB.getD i 0 < 30000) i h
  · rw [List.getD_eq_getElem?_getD, List.getElem?_eq_none (by simpa [DB] using h)]
    decide
theorem lbN_le (i : Nat) : i ≤ 28 → lbN i ≤ 5 := by unfold lbN; split <;> omega
theorem dbN_le (i : Nat) : i ≤ 29 → dbN i ≤ 13 := by unfold dbN; split <;> omega
theorem rbN_le (i : Nat) : rbN i ≤ 7 := by unfold rbN; split <;> (try split) <;> (try split) <;> omega
section BA
variable {h : db_H} {P : Option Value → db_H → Prop}
theorem m64 {i : Nat} (hi : i < 2 ^ 31) (K : P (some (.int (nI (lbN i)))) h) : db_Go 64 0 [.int (nI i)] [] h P := by
  unfold lbN at K
  by_cases h1 : i < 8
  · rw [if_pos (Or.inl h1)] at K
    simp (disch := first | omega | (simp only [List.length_set]; omega)) only [g_64_0, g_64_1, g_64_3, g_64_6, g_64_7, g_64_9, g_64_12, g_64_13, g_64_16, g_64_17, g_64_18, g_64_19, g_64_20, g_64_21, gs_nx, db_inx, gs_ldi, gs_lda, gs_ldn, List.getElem?_cons_zero, List.getElem?_cons_succ, List.set_cons_zero, List.set_cons_succ, gx5, fx_int, fx_ref, fx_null, px5, gs_lx, gs_ax, sx5, ft_int, ft_ref, ft_b0, ft_b1, c1_int, c1_ref, List.length_cons, List.length_nil, Nat.reduceAdd, Nat.reduceLT, Nat.reduceLeDiff, true_and, and_true, true_or, or_true, not_false_eq_true, Option.toList_some, Option.toList_none, List.nil_append, List.singleton_append, List.cons_append, ↓reduceIte, z_max, z_min, nI_add, z_sub, z_dec, z_mul, z_div, z_mod, nI_clamp, z_lt, z_nlt, z_le, z_nle, z_ne, z_eq, z_in, not_true_eq_false, if_true, if_false, hs_at, hs_ne, hs_sort, hset_eq, vupp_eq, hs_over, List.length_set, vup_at, vup_ne, vup_over, vup_sort, mfs_len, n5_f, map_getD, List.length_map, gd_self, gd_ne, Nat.add_sub_cancel]
    exact K
  · by_cases h2 : i < 28
    · rw [if_neg (by omega)] at K
      simp (disch := first | omega | (simp only [List.length_set]; omega)) only [g_64_0, g_64_1, g_64_3, g_64_6, g_64_7, g_64_9, g_64_12, g_64_13, g_64_16, g_64_17, g_64_18, g_64_19, g_64_20, g_64_21, gs_nx, db_inx, gs_ldi, gs_lda, gs_ldn, List.getElem?_cons_zero, List.getElem?_cons_succ, List.set_cons_zero, List.set_cons_succ, gx5, fx_int, fx_ref, fx_null, px5, gs_lx, gs_ax, sx5, ft_int, ft_ref, ft_b0, ft_b1, c1_int, c1_ref, List.length_cons, List.length_nil, Nat.reduceAdd, Nat.reduceLT, Nat.reduceLeDiff, true_and, and_true, true_or, or_true, not_false_eq_true, Option.toList_some, Option.toList_none, List.nil_append, List.singleton_append, List.cons_append, ↓reduceIte, z_max, z_min, nI_add, z_sub, z_dec, z_mul, z_div, z_mod, nI_clamp, z_lt, z_nlt, z_le, z_nle, z_ne, z_eq, z_in, not_true_eq_false, if_true, if_false, hs_at, hs_ne, hs_sort, hset_eq, vupp_eq, hs_over, List.length_set, vup_at, vup_ne, vup_over, vup_sort, mfs_len, n5_f, map_getD, List.length_map, gd_self, gd_ne, Nat.add_sub_cancel]
      exact K
    · rw [if_pos (Or.inr (by omega))] at K
      simp (disch := first | omega | (simp only [List.length_set]; omega)) only [g_64_0, g_64_1, g_64_3, g_64_6, g_64_7, g_64_9, g_64_12, g_64_13, g_64_16, g_64_17, g_64_18, g_64_19, g_64_20, g_64_21, gs_nx, db_inx, gs_ldi, gs_lda, gs_ldn, List.getElem?_cons_zero, List.getElem?_cons_succ, List.set_cons_zero, List.set_cons_succ, gx5, fx_int, fx_ref, fx_null, px5, gs_lx, gs_ax, sx5, ft_int, ft_ref, ft_b0, ft_b1, c1_int, c1_ref, List.length_cons, List.length_nil, Nat.reduceAdd, Nat.reduceLT, Nat.reduceLeDiff, true_and, and_true, true_or, or_true, not_false_eq_true, Option.toList_some, Option.toList_none, List.nil_append, List.singleton_append, List.cons_append, ↓reduceIte, z_max, z_min, nI_add, z_sub, z_dec, z_mul, z_div, z_mod, nI_clamp, z_lt, z_nlt, z_le, z_nle, z_ne, z_eq, z_in, not_true_eq_false, if_true, if_false, hs_at, hs_ne, hs_sort, hset_eq, vupp_eq, hs_over, List.length_set, vup_at, vup_ne, vup_over, vup_sort, mfs_len, n5_f, map_getD, List.length_map, gd_self, gd_ne, Nat.add_sub_cancel]
      exact K
theorem m65 {i : Nat} (hi : i < 2 ^ 31) (K : P (some (.int (nI (dbN i)))) h) : db_Go 65 0 [.int (nI i)] [] h P := by
  unfold dbN at K
  by_cases h1 : i < 2
  · rw [if_pos h1] at K
    simp (disch := first | omega | (simp only [List.length_set]; omega)) only [g_65_0, g_65_1, g_65_2, g_65_5, g_65_6, g_65_9, g_65_10, g_65_11, g_65_12, g_65_13, g_65_14, gs_nx, db_inx, gs_ldi, gs_lda, gs_ldn, List.getElem?_cons_zero, List.getElem?_cons_succ, List.set_cons_zero, List.set_cons_succ, gx5, fx_int, fx_ref, fx_null, px5, gs_lx, gs_ax, sx5, ft_int, ft_ref, ft_b0, ft_b1, c1_int, c1_ref, List.length_cons, List.length_nil, Nat.reduceAdd, Nat.reduceLT, Nat.reduceLeDiff, true_and, and_true, true_or, or_true, not_false_eq_true, Option.toList_some, Option.toList_none, List.nil_append, List.singleton_append, List.cons_append, ↓reduceIte, z_max, z_min, nI_add, z_sub, z_dec, z_mul, z_div, z_mod, nI_clamp, z_lt, z_nlt, z_le, z_nle, z_ne, z_eq, z_in, not_true_eq_false, if_true, if_false, hs_at, hs_ne, hs_sort, hset_eq, vupp_eq, hs_over, List.length_set, vup_at, vup_ne, vup_over, vup_sort, mfs_len, n5_f, map_getD, List.length_map, gd_self, gd_ne, Nat.add_sub_cancel]
    exact K
  · rw [if_neg h1] at K
    simp (disch := first | omega | (simp only [List.length_set]; omega)) only [g_65_0, g_65_1, g_65_2, g_65_5, g_65_6, g_65_9, g_65_10, g_65_11, g_65_12, g_65_13, g_65_14, gs_nx, db_inx, gs_ldi, gs_lda, gs_ldn, List.getElem?_cons_zero, List.getElem?_cons_succ, List.set_cons_zero, List.set_cons_succ, gx5, fx_int, fx_ref, fx_null, px5, gs_lx, gs_ax, sx5, ft_int, ft_ref, ft_b0, ft_b1, c1_int, c1_ref, List.length_cons, List.length_nil, Nat.reduceAdd, Nat.reduceLT, Nat.reduceLeDiff, true_and, and_true, true_or, or_true, not_false_eq_true, Option.toList_some, Option.toList_none, List.nil_append, List.singleton_append, List.cons_append, ↓reduceIte, z_max, z_min, nI_add, z_sub, z_dec, z_mul, z_div, z_mod, nI_clamp, z_lt, z_nlt, z_le, z_nle, z_ne, z_eq, z_in, not_true_eq_false, if_true, if_false, hs_at, hs_ne, hs_sort, hset_eq, vupp_eq, hs_over, List.length_set, vup_at, vup_ne, vup_over, vup_sort, mfs_len, n5_f, map_getD, List.length_map, gd_self, gd_ne, Nat.add_sub_cancel]
    exact K
theorem m140 {i : Nat} (hi : i ≤ 28) (K : P (some (.int (nI (lbN i)))) h) : db_Go 140 0 [.int (nI i)] [] h P := by
  unfold lbN at K
  by_cases h1 : i < 8
  · rw [if_pos (Or.inl h1)] at K
    simp (disch := first | omega | (simp only [List.length_set]; omega)) only [g_140_0, g_140_1, g_140_3, g_140_6, g_140_7, g_140_9, g_140_12, g_140_13, g_140_16, g_140_17, g_140_18, g_140_19, g_140_20, g_140_21, gs_nx, db_inx, gs_ldi, gs_lda, gs_ldn, List.getElem?_cons_zero, List.getElem?_cons_succ, List.set_cons_zero, List.set_cons_succ, gx5, fx_int, fx_ref, fx_null, px5, gs_lx, gs_ax, sx5, ft_int, ft_ref, ft_b0, ft_b1, c1_int, c1_ref, List.length_cons, List.length_nil, Nat.reduceAdd, Nat.reduceLT, Nat.reduceLeDiff, true_and, and_true, true_or, or_true, not_false_eq_true, Option.toList_some, Option.toList_none, List.nil_append, List.singleton_append, List.cons_append, ↓reduceIte, z_max, z_min, nI_add, z_sub, z_dec, z_mul, z_div, z_mod, nI_clamp, z_lt, z_nlt, z_le, z_nle, z_ne, z_eq, z_in, not_true_eq_false, if_true, if_false, hs_at, hs_ne, hs_sort, hset_eq, vupp_eq, hs_over, List.length_set, vup_at, vup_ne, vup_over, vup_sort, mfs_len, n5_f, map_getD, List.length_map, gd_self, gd_ne, Nat.add_sub_cancel]
    exact K
  · by_cases h2 : i < 28
    · rw [if_neg (by omega)] at K
      simp (disch := first | omega | (simp only [List.length_set]; omega)) only [g_140_0, g_140_1, g_140_3, g_140_6, g_140_7, g_140_9, g_140_12, g_140_13, g_140_16, g_140_17, g_140_18, g_140_19, g_140_20, g_140_21, gs_nx, db_inx, gs_ldi, gs_lda, gs_ldn, List.getElem?_cons_zero, List.getElem?_cons_succ, List.set_cons_zero, List.set_cons_succ, gx5, fx_int, fx_ref, fx_null, px5, gs_lx, gs_ax, sx5, ft_int, ft_ref, ft_b0, ft_b1, c1_int, c1_ref, List.length_cons, List.length_nil, Nat.reduceAdd, Nat.reduceLT, Nat.reduceLeDiff, true_and, and_true, true_or, or_true, not_false_eq_true, Option.toList_some, Option.toList_none, List.nil_append, List.singleton_append, List.cons_append, ↓reduceIte, z_max, z_min, nI_add, z_sub, z_dec, z_mul, z_div, z_mod, nI_clamp, z_lt, z_nlt, z_le, z_nle, z_ne, z_eq, z_in, not_true_eq_false, if_true, if_false, hs_at, hs_ne, hs_sort, hset_eq, vupp_eq, hs_over, List.length_set, vup_at, vup_ne, vup_over, vup_sort, mfs_len, n5_f, map_getD, List.length_map, gd_self, gd_ne, Nat.add_sub_cancel]
      exact K
    · rw [if_pos (Or.inr (by omega))] at K
      simp (disch := first | omega | (simp only [List.length_set]; omega)) only [g_140_0, g_140_1, g_140_3, g_140_6, g_140_7, g_140_9, g_140_12, g_140_13, g_140_16, g_140_17, g_140_18, g_140_19, g_140_20, g_140_21, gs_nx, db_inx, gs_ldi, gs_lda, gs_ldn, List.getElem?_cons_zero, List.getElem?_cons_succ, List.set_cons_zero, List.set_cons_succ, gx5, fx_int, fx_ref, fx_null, px5, gs_lx, gs_ax, sx5, ft_int, ft_ref, ft_b0, ft_b1, c1_int, c1_ref, List.length_cons, List.length_nil, Nat.reduceAdd, Nat.reduceLT, Nat.reduceLeDiff, true_and, and_true, true_or, or_true, not_false_eq_true, Option.toList_some, Option.toList_none, List.nil_append, List.singleton_append, List.cons_append, ↓reduceIte, z_max, z_min, nI_add, z_sub, z_dec, z_mul, z_div, z_mod, nI_clamp, z_lt, z_nlt, z_le, z_nle, z_ne, z_eq, z_in, not_true_eq_false, if_true, if_false, hs_at, hs_ne, hs_sort, hset_eq, vupp_eq, hs_over, List.length_set, vup_at, vup_ne, vup_over, vup_sort, mfs_len, n5_f, map_getD, List.length_map, gd_self, gd_ne, Nat.add_sub_cancel]
      exact K
theorem m143 {i : Nat} (hi : i < 2 ^ 31) (K : P (some (.int (nI (dbN i)))) h) : db_Go 143 0 [.int (nI i)] [] h P := by
  unfold dbN at K
  by_cases h1 : i < 2
  · rw [if_pos h1] at K
    simp (disch := first | omega | (simp only [List.length_set]; omega)) only [g_143_0, g_143_1, g_143_2, g_143_5, g_143_6, g_143_9, g_143_10, g_143_11, g_143_12, g_143_13, g_143_14, gs_nx, db_inx, gs_ldi, gs_lda, gs_ldn, List.getElem?_cons_zero, List.getElem?_cons_succ, List.set_cons_zero, List.set_cons_succ, gx5, fx_int, fx_ref, fx_null, px5, gs_lx, gs_ax, sx5, ft_int, ft_ref, ft_b0, ft_b1, c1_int, c1_ref, List.length_cons, List.length_nil, Nat.reduceAdd, Nat.reduceLT, Nat.reduceLeDiff, true_and, and_true, true_or, or_true, not_false_eq_true, Option.toList_some, Option.toList_none, List.nil_append, List.singleton_append, List.cons_append, ↓reduceIte, z_max, z_min, nI_add, z_sub, z_dec, z_mul, z_div, z_mod, nI_clamp, z_lt, z_nlt, z_le, z_nle, z_ne, z_eq, z_in, not_true_eq_false, if_true, if_false, hs_at, hs_ne, hs_sort, hset_eq, vupp_eq, hs_over, List.length_set, vup_at, vup_ne, vup_over, vup_sort, mfs_len, n5_f, map_getD, List.length_map, gd_self, gd_ne, Nat.add_sub_cancel]
    exact K
  · rw [if_neg h1] at K
    simp (disch := first | omega | (simp only [List.length_set]; omega)) only [g_143_0, g_143_1, g_143_2, g_143_5, g_143_6, g_143_9, g_143_10, g_143_11, g_143_12, g_143_13, g_143_14, gs_nx, db_inx, gs_ldi, gs_lda, gs_ldn, List.getElem?_cons_zero, List.getElem?_cons_succ, List.set_cons_zero, List.set_cons_succ, gx5, fx_int, fx_ref, fx_null, px5, gs_lx, gs_ax, sx5, ft_int, ft_ref, ft_b0, ft_b1, c1_int, c1_ref, List.length_cons, List.length_nil, Nat.reduceAdd, Nat.reduceLT, Nat.reduceLeDiff, true_and, and_true, true_or, or_true, not_false_eq_true, Option.toList_some, Option.toList_none, List.nil_append, List.singleton_append, List.cons_append, ↓reduceIte, z_max, z_min, nI_add, z_sub, z_dec, z_mul, z_div, z_mod, nI_clamp, z_lt, z_nlt, z_le, z_nle, z_ne, z_eq, z_in, not_true_eq_false, if_true, if_false, hs_at, hs_ne, hs_sort, hset_eq, vupp_eq, hs_over, List.length_set, vup_at, vup_ne, vup_over, vup_sort, mfs_len, n5_f, map_getD, List.length_map, gd_self, gd_ne, Nat.add_sub_cancel]
    exact K
theorem m43_loop {o v : Nat} {b : List Nat} (ho : h[o]? = some (.inl (0, b.map nI))) (hb : b.length ≤ 30) (hv : v < 2 ^ 31) (h3 : ∀ i, b.getD i 0 < 30000) : ∀ i, i < b.length → P (some (.int (nI (ixB b v i)))) h → db_Go 43 5 [.ref o, .int (nI v), .int (nI i)] [] h P := by
  intro i
  induction i with
  | zero =>
    intro hi K
    rw [g_43_5]
    simp (disch := first | omega | (simp only [List.length_set]; omega)) only [g_43_0, g_43_1, g_43_2, g_43_3, g_43_4, g_43_6, g_43_9, g_43_10, g_43_11, g_43_12, g_43_13, g_43_16, g_43_17, g_43_18, g_43_21, g_43_24, g_43_25, gs_nx, db_inx, gs_ldi, gs_lda, gs_ldn, List.getElem?_cons_zero, List.getElem?_cons_succ, List.set_cons_zero, List.set_cons_succ, gx5, fx_int, fx_ref, fx_null, px5, gs_lx, gs_ax, sx5, ft_int, ft_ref, ft_b0, ft_b1, c1_int, c1_ref, List.length_cons, List.length_nil, Nat.reduceAdd, Nat.reduceLT, Nat.reduceLeDiff, true_and, and_true, true_or, or_true, not_false_eq_true, Option.toList_some, Option.toList_none, List.nil_append, List.singleton_append, List.cons_append, ↓reduceIte, z_max, z_min, nI_add, z_sub, z_dec, z_mul, z_div, z_mod, nI_clamp, z_lt, z_nlt, z_le, z_nle, z_ne, z_eq, z_in, not_true_eq_false, if_true, if_false, hs_at, hs_ne, hs_sort, hset_eq, vupp_eq, hs_over, List.length_set, vup_at, vup_ne, vup_over, vup_sort, mfs_len, n5_f, map_getD, List.length_map, gd_self, gd_ne, Nat.add_sub_cancel, ho]
    exact K
  | succ i ih =>
    intro hi K
    have hb3 := h3 (i + 1)
    rw [ixB] at K
    rw [g_43_5]
    by_cases hc : b.getD (i + 1) 0 ≤ v
    · rw [if_pos hc] at K
      simp (disch := first | omega | (simp only [List.length_set]; omega)) only [g_43_0, g_43_1, g_43_2, g_43_3, g_43_4, g_43_6, g_43_9, g_43_10, g_43_11, g_43_12, g_43_13, g_43_16, g_43_17, g_43_18, g_43_21, g_43_24, g_43_25, gs_nx, db_inx, gs_ldi, gs_lda, gs_ldn, List.getElem?_cons_zero, List.getElem?_cons_succ, List.set_cons_zero, List.set_cons_succ, gx5, fx_int, fx_ref, fx_null, px5, gs_lx, gs_ax, sx5, ft_int, ft_ref, ft_b0, ft_b1, c1_int, c1_ref, List.length_cons, List.length_nil, Nat.reduceAdd, Nat.reduceLT, Nat.reduceLeDiff, true_and, and_true, true_or, or_true, not_false_eq_true, Option.toList_some, Option.toList_none, List.nil_append, List.singleton_append, List.cons_append, ↓reduceIte, z_max, z_min, nI_add, z_sub, z_dec, z_mul, z_div, z_mod, nI_clamp, z_lt, z_nlt, z_le, z_nle, z_ne, z_eq, z_in, not_true_eq_false, if_true, if_false, hs_at, hs_ne, hs_sort, hset_eq, vupp_eq, hs_over, List.length_set, vup_at, vup_ne, vup_over, vup_sort, mfs_len, n5_f, map_getD, List.length_map, gd_self, gd_ne, Nat.add_sub_cancel, ho]
      exact K
    · rw [if_neg hc] at K
      simp (disch := first | omega | (simp only [List.length_set]; omega)) only [g_43_0, g_43_1, g_43_2, g_43_3, g_43_4, g_43_6, g_43_9, g_43_10, g_43_11, g_43_12, g_43_13, g_43_16, g_43_17, g_43_18, g_43_21, g_43_24, g_43_25, gs_nx, db_inx, gs_ldi, gs_lda, gs_ldn, List.getElem?_cons_zero, List.getElem?_cons_succ, List.set_cons_zero, List.set_cons_succ, gx5, fx_int, fx_ref, fx_null, px5, gs_lx, gs_ax, sx5, ft_int, ft_ref, ft_b0, ft_b1, c1_int, c1_ref, List.length_cons, List.length_nil, Nat.reduceAdd, Nat.reduceLT, Nat.reduceLeDiff, true_and, and_true, true_or, or_true, not_false_eq_true, Option.toList_some, Option.toList_none, List.nil_append, List.singleton_append, List.cons_append, ↓reduceIte, z_max, z_min, nI_add, z_sub, z_dec, z_mul, z_div, z_mod, nI_clamp, z_lt, z_nlt, z_le, z_nle, z_ne, z_eq, z_in, not_true_eq_false, if_true, if_false, hs_at, hs_ne, hs_sort, hset_eq, vupp_eq, hs_over, List.length_set, vup_at, vup_ne, vup_over, vup_sort, mfs_len, n5_f, map_getD, List.length_map, gd_self, gd_ne, Nat.add_sub_cancel, ho]
      exact ih (by omega) K
theorem m43 {o v : Nat} {b : List Nat} (ho : h[o]? = some (.inl (0, b.map nI))) (h0 : 0 < b.length) (hb : b.length ≤ 30) (hv : v < 2 ^ 31) (h3 : ∀ i, b.getD i 0 < 30000) (K : P (some (.int (nI (ixB b v (b.length - 1))))) h) : db_Go 43 0 [.ref o, .int (nI v), .retAddr 0] [] h P := by
  simp (disch := first | omega | (simp only [List.length_set]; omega)) only [g_43_0, g_43_1, g_43_2, g_43_3, g_43_4, g_43_6, g_43_9, g_43_10, g_43_11, g_43_12, g_43_13, g_43_16, g_43_17, g_43_18, g_43_21, g_43_24, g_43_25, gs_nx, db_inx, gs_ldi, gs_lda, gs_ldn, List.getElem?_cons_zero, List.getElem?_cons_succ, List.set_cons_zero, List.set_cons_succ, gx5, fx_int, fx_ref, fx_null, px5, gs_lx, gs_ax, sx5, ft_int, ft_ref, ft_b0, ft_b1, c1_int, c1_ref, List.length_cons, List.length_nil, Nat.reduceAdd, Nat.reduceLT, Nat.reduceLeDiff, true_and, and_true, true_or, or_true, not_false_eq_true, Option.toList_some, Option.toList_none, List.nil_append, List.singleton_append, List.cons_append, ↓reduceIte, z_max, z_min, nI_add, z_sub, z_dec, z_mul, z_div, z_mod, nI_clamp, z_lt, z_nlt, z_le, z_nle, z_ne, z_eq, z_in, not_true_eq_false, if_true, if_false, hs_at, hs_ne, hs_sort, hset_eq, vupp_eq, hs_over, List.length_set, vup_at, vup_ne, vup_over, vup_sort, mfs_len, n5_f, map_getD, List.length_map, gd_self, gd_ne, Nat.add_sub_cancel, ho]
  exact m43_loop ho hb hv h3 _ (by omega) K
theorem m139_loop {i : Nat} (hi : i ≤ 28) (K : P (some (.int (nI (LB.getD i 0)))) h) : ∀ (d k : Nat), k + d = i → db_Go 139 4 [.int (nI i), .int (nI (lsum k)), .int (nI k)] [] h P := by
  have hK := lsum_eq i (by omega)
  intro d
  induction d with
  | zero =>
    intro k hk
    rw [show k = i by omega]
    rw [g_139_4]
    by_cases h28 : i = 28
    · rw [if_pos h28] at hK
      simp (disch := first | omega | (simp only [List.length_set]; omega)) only [g_139_0, g_139_1, g_139_2, g_139_3, g_139_5, g_139_6, g_139_9, g_139_10, g_139_11, g_139_15, g_139_16, g_139_17, g_139_18, g_139_21, g_139_24, g_139_25, g_139_27, g_139_30, g_139_33, g_139_36, g_139_37, gs_nx, db_inx, gs_ldi, gs_lda, gs_ldn, List.getElem?_cons_zero, List.getElem?_cons_succ, List.set_cons_zero, List.set_cons_succ, gx5, fx_int, fx_ref, fx_null, px5, gs_lx, gs_ax, sx5, ft_int, ft_ref, ft_b0, ft_b1, c1_int, c1_ref, List.length_cons, List.length_nil, Nat.reduceAdd, Nat.reduceLT, Nat.reduceLeDiff, true_and, and_true, true_or, or_true, not_false_eq_true, Option.toList_some, Option.toList_none, List.nil_append, List.singleton_append, List.cons_append, ↓reduceIte, z_max, z_min, nI_add, z_sub, z_dec, z_mul, z_div, z_mod, nI_clamp, z_lt, z_nlt, z_le, z_nle, z_ne, z_eq, z_in, not_true_eq_false, if_true, if_false, hs_at, hs_ne, hs_sort, hset_eq, vupp_eq, hs_over, List.length_set, vup_at, vup_ne, vup_over, vup_sort, mfs_len, n5_f, map_getD, List.length_map, gd_self, gd_ne, Nat.add_sub_cancel]
      rw [hK]
      exact K
    · rw [if_neg h28] at hK
      simp (disch := first | omega | (simp only [List.length_set]; omega)) only [g_139_0, g_139_1, g_139_2, g_139_3, g_139_5, g_139_6, g_139_9, g_139_10, g_139_11, g_139_15, g_139_16, g_139_17, g_139_18, g_139_21, g_139_24, g_139_25, g_139_27, g_139_30, g_139_33, g_139_36, g_139_37, gs_nx, db_inx, gs_ldi, gs_lda, gs_ldn, List.getElem?_cons_zero, List.getElem?_cons_succ, List.set_cons_zero, List.set_cons_succ, gx5, fx_int, fx_ref, fx_null, px5, gs_lx, gs_ax, sx5, ft_int, ft_ref, ft_b0, ft_b1, c1_int, c1_ref, List.length_cons, List.length_nil, Nat.reduceAdd, Nat.reduceLT, Nat.reduceLeDiff, true_and, and_true, true_or, or_true, not_false_eq_true, Option.toList_some, Option.toList_none, List.nil_append, List.singleton_append, List.cons_append, ↓reduceIte, z_max, z_min, nI_add, z_sub, z_dec, z_mul, z_div, z_mod, nI_clamp, z_lt, z_nlt, z_le, z_nle, z_ne, z_eq, z_in, not_true_eq_false, if_true, if_false, hs_at, hs_ne, hs_sort, hset_eq, vupp_eq, hs_over, List.length_set, vup_at, vup_ne, vup_over, vup_sort, mfs_len, n5_f, map_getD, List.length_map, gd_self, gd_ne, Nat.add_sub_cancel]
      rw [hK]
      exact K
  | succ d ih =>
    intro k hk
    have hl := lbN_le k (by omega)
    have := ih (k + 1) (by omega)
    rw [g_139_4]
    simp (disch := first | omega | (simp only [List.length_set]; omega)) only [g_139_0, g_139_1, g_139_2, g_139_3, g_139_5, g_139_6, g_139_9, g_139_10, g_139_11, g_139_15, g_139_16, g_139_17, g_139_18, g_139_21, g_139_24, g_139_25, g_139_27, g_139_30, g_139_33, g_139_36, g_139_37, gs_nx, db_inx, gs_ldi, gs_lda, gs_ldn, List.getElem?_cons_zero, List.getElem?_cons_succ, List.set_cons_zero, List.set_cons_succ, gx5, fx_int, fx_ref, fx_null, px5, gs_lx, gs_ax, sx5, ft_int, ft_ref, ft_b0, ft_b1, c1_int, c1_ref, List.length_cons, List.length_nil, Nat.reduceAdd, Nat.reduceLT, Nat.reduceLeDiff, true_and, and_true, true_or, or_true, not_false_eq_true, Option.toList_some, Option.toList_none, List.nil_append, List.singleton_append, List.cons_append, ↓reduceIte, z_max, z_min, nI_add, z_sub, z_dec, z_mul, z_div, z_mod, nI_clamp, z_lt, z_nlt, z_le, z_nle, z_ne, z_eq, z_in, not_true_eq_false, if_true, if_false, hs_at, hs_ne, hs_sort, hset_eq, vupp_eq, hs_over, List.length_set, vup_at, vup_ne, vup_over, vup_sort, mfs_len, n5_f, map_getD, List.length_map, gd_self, gd_ne, Nat.add_sub_cancel]
    refine c_139_12 (by simp) ?_
    refine m140 (by omega) ?_
    simp (disch := first | omega | (simp only [List.length_set]; omega)) only [g_139_0, g_139_1, g_139_2, g_139_3, g_139_5, g_139_6, g_139_9, g_139_10, g_139_11, g_139_15, g_139_16, g_139_17, g_139_18, g_139_21, g_139_24, g_139_25, g_139_27, g_139_30, g_139_33, g_139_36, g_139_37, gs_nx, db_inx, gs_ldi, gs_lda, gs_ldn, List.getElem?_cons_zero, List.getElem?_cons_succ, List.set_cons_zero, List.set_cons_succ, gx5, fx_int, fx_ref, fx_null, px5, gs_lx, gs_ax, sx5, ft_int, ft_ref, ft_b0, ft_b1, c1_int, c1_ref, List.length_cons, List.length_nil, Nat.reduceAdd, Nat.reduceLT, Nat.reduceLeDiff, true_and, and_true, true_or, or_true, not_false_eq_true, Option.toList_some, Option.toList_none, List.nil_append, List.singleton_append, List.cons_append, ↓reduceIte, z_max, z_min, nI_add, z_sub, z_dec, z_mul, z_div, z_mod, nI_clamp, z_lt, z_nlt, z_le, z_nle, z_ne, z_eq, z_in, not_true_eq_false, if_true, if_false, hs_at, hs_ne, hs_sort, hset_eq, vupp_eq, hs_over, List.length_set, vup_at, vup_ne, vup_over, vup_sort, mfs_len, n5_f, map_getD, List.length_map, gd_self, gd_ne, Nat.add_sub_cancel, shl1 (show lbN k ≤ 15 by omega)]
    exact this
theorem m139 {i : Nat} (hi : i ≤ 28) (K : P (some (.int (nI (LB.getD i 0)))) h) : db_Go 139 0 [.int (nI i), .retAddr 0, .retAddr 0] [] h P := by
  simp (disch := first | omega | (simp only [List.length_set]; omega)) only [g_139_0, g_139_1, g_139_2, g_139_3, g_139_5, g_139_6, g_139_9, g_139_10, g_139_11, g_139_15, g_139_16, g_139_17, g_139_18, g_139_21, g_139_24, g_139_25, g_139_27, g_139_30, g_139_33, g_139_36, g_139_37, gs_nx, db_inx, gs_ldi, gs_lda, gs_ldn, List.getElem?_cons_zero, List.getElem?_cons_succ, List.set_cons_zero, List.set_cons_succ, gx5, fx_int, fx_ref, fx_null, px5, gs_lx, gs_ax, sx5, ft_int, ft_ref, ft_b0, ft_b1, c1_int, c1_ref, List.length_cons, List.length_nil, Nat.reduceAdd, Nat.reduceLT, Nat.reduceLeDiff, true_and, and_true, true_or, or_true, not_false_eq_true, Option.toList_some, Option.toList_none, List.nil_append, List.singleton_append, List.cons_append, ↓reduceIte, z_max, z_min, nI_add, z_sub, z_dec, z_mul, z_div, z_mod, nI_clamp, z_lt, z_nlt, z_le, z_nle, z_ne, z_eq, z_in, not_true_eq_false, if_true, if_false, hs_at, hs_ne, hs_sort, hset_eq, vupp_eq, hs_over, List.length_set, vup_at, vup_ne, vup_over, vup_sort, mfs_len, n5_f, map_getD, List.length_map, gd_self, gd_ne, Nat.add_sub_cancel]
  exact m139_loop hi K i 0 (by omega)
theorem m142_loop {i : Nat} (hi : i ≤ 29) (K : P (some (.int (nI (DB.getD i 0)))) h) : ∀ (d k : Nat), k + d = i → db_Go 142 4 [.int (nI i), .int (nI (dsum k)), .int (nI k)] [] h P := by
  have hK := dsum_eq i (by omega)
  intro d
  induction d with
  | zero =>
    intro k hk
    rw [show k = i by omega]
    rw [g_142_4]
    simp (disch := first | omega | (simp only [List.length_set]; omega)) only [g_142_0, g_142_1, g_142_2, g_142_3, g_142_5, g_142_6, g_142_9, g_142_10, g_142_11, g_142_15, g_142_16, g_142_17, g_142_18, g_142_21, g_142_24, g_142_25, gs_nx, db_inx, gs_ldi, gs_lda, gs_ldn, List.getElem?_cons_zero, List.getElem?_cons_succ, List.set_cons_zero, List.set_cons_succ, gx5, fx_int, fx_ref, fx_null, px5, gs_lx, gs_ax, sx5, ft_int, ft_ref, ft_b0, ft_b1, c1_int, c1_ref, List.length_cons, List.length_nil, Nat.reduceAdd, Nat.reduceLT, Nat.reduceLeDiff, true_and, and_true, true_or, or_true, not_false_eq_true, Option.toList_some, Option.toList_none, List.nil_append, List.singleton_append, List.cons_append, ↓reduceIte, z_max, z_min, nI_add, z_sub, z_dec, z_mul, z_div, z_mod, nI_clamp, z_lt, z_nlt, z_le, z_nle, z_ne, z_eq, z_in, not_true_eq_false, if_true, if_false, hs_at, hs_ne, hs_sort, hset_eq, vupp_eq, hs_over, List.length_set, vup_at, vup_ne, vup_over, vup_sort, mfs_len, n5_f, map_getD, List.length_map, gd_self, gd_ne, Nat.add_sub_cancel]
    rw [hK]
    exact K
  | succ d ih =>
    intro k hk
    have hl := dbN_le k (by omega)
    have := ih (k + 1) (by omega)
    rw [g_142_4]
    simp (disch := first | omega | (simp only [List.length_set]; omega)) only [g_142_0, g_142_1, g_142_2, g_142_3, g_142_5, g_142_6, g_142_9, g_142_10, g_142_11, g_142_15, g_142_16, g_142_17, g_142_18, g_142_21, g_142_24, g_142_25, gs_nx, db_inx, gs_ldi, gs_lda, gs_ldn, List.getElem?_cons_zero, List.getElem?_cons_succ, List.set_cons_zero, List.set_cons_succ, gx5, fx_int, fx_ref, fx_null, px5, gs_lx, gs_ax, sx5, ft_int, ft_ref, ft_b0, ft_b1, c1_int, c1_ref, List.length_cons, List.length_nil, Nat.reduceAdd, Nat.reduceLT, Nat.reduceLeDiff, true_and, and_true, true_or, or_true, not_false_eq_true, Option.toList_some, Option.toList_none, List.nil_append, List.singleton_append, List.cons_append, ↓reduceIte, z_max, z_min, nI_add, z_sub, z_dec, z_mul, z_div, z_mod, nI_clamp, z_lt, z_nlt, z_le, z_nle, z_ne, z_eq, z_in, not_true_eq_false, if_true, if_false, hs_at, hs_ne, hs_sort, hset_eq, vupp_eq, hs_over, List.length_set, vup_at, vup_ne, vup_over, vup_sort, mfs_len, n5_f, map_getD, List.length_map, gd_self, gd_ne, Nat.add_sub_cancel]
    refine c_142_12 (by simp) ?_
    refine m143 (by omega) ?_
    simp (disch := first | omega | (simp only [List.length_set]; omega)) only [g_142_0, g_142_1, g_142_2, g_142_3, g_142_5, g_142_6, g_142_9, g_142_10, g_142_11, g_142_15, g_142_16, g_142_17, g_142_18, g_142_21, g_142_24, g_142_25, gs_nx, db_inx, gs_ldi, gs_lda, gs_ldn, List.getElem?_cons_zero, List.getElem?_cons_succ, List.set_cons_zero, List.set_cons_succ, gx5, fx_int, fx_ref, fx_null, px5, gs_lx, gs_ax, sx5, ft_int, ft_ref, ft_b0, ft_b1, c1_int, c1_ref, List.length_cons, List.length_nil, Nat.reduceAdd, Nat.reduceLT, Nat.reduceLeDiff, true_and, and_true, true_or, or_true, not_false_eq_true, Option.toList_some, Option.toList_none, List.nil_append, List.singleton_append, List.cons_append, ↓reduceIte, z_max, z_min, nI_add, z_sub, z_dec, z_mul, z_div, z_mod, nI_clamp, z_lt, z_nlt, z_le, z_nle, z_ne, z_eq, z_in, not_true_eq_false, if_true, if_false, hs_at, hs_ne, hs_sort, hset_eq, vupp_eq, hs_over, List.length_set, vup_at, vup_ne, vup_over, vup_sort, mfs_len, n5_f, map_getD, List.length_map, gd_self, gd_ne, Nat.add_sub_cancel, shl1 (show dbN k ≤ 15 by omega)]
    exact this
theorem m142 {i : Nat} (hi : i ≤ 29) (K : P (some (.int (nI (DB.getD i 0)))) h) : db_Go 142 0 [.int (nI i), .retAddr 0, .retAddr 0] [] h P := by
  simp (disch := first | omega | (simp only [List.length_set]; omega)) only [g_142_0, g_142_1, g_142_2, g_142_3, g_142_5, g_142_6, g_142_9, g_142_10, g_142_11, g_142_15, g_142_16, g_142_17, g_142_18, g_142_21, g_142_24, g_142_25, gs_nx, db_inx, gs_ldi, gs_lda, gs_ldn, List.getElem?_cons_zero, List.getElem?_cons_succ, List.set_cons_zero, List.set_cons_succ, gx5, fx_int, fx_ref, fx_null, px5, gs_lx, gs_ax, sx5, ft_int, ft_ref, ft_b0, ft_b1, c1_int, c1_ref, List.length_cons, List.length_nil, Nat.reduceAdd, Nat.reduceLT, Nat.reduceLeDiff, true_and, and_true, true_or, or_true, not_false_eq_true, Option.toList_some, Option.toList_none, List.nil_append, List.singleton_append, List.cons_append, ↓reduceIte, z_max, z_min, nI_add, z_sub, z_dec, z_mul, z_div, z_mod, nI_clamp, z_lt, z_nlt, z_le, z_nle, z_ne, z_eq, z_in, not_true_eq_false, if_true, if_false, hs_at, hs_ne, hs_sort, hset_eq, vupp_eq, hs_over, List.length_set, vup_at, vup_ne, vup_over, vup_sort, mfs_len, n5_f, map_getD, List.length_map, gd_self, gd_ne, Nat.add_sub_cancel]
  exact m142_loop hi K i 0 (by omega)
theorem m138_loop {v : Nat} (hv : v < 2 ^ 31) (h0 : 3 ≤ v) : ∀ i, i ≤ 28 → P (some (.int (nI (ixB LB v i)))) h → db_Go 138 3 [.int (nI v), .int (nI i)] [] h P := by
  intro i
  induction i with
  | zero =>
    intro hi K
    rw [g_138_3]
    simp (disch := first | omega | (simp only [List.length_set]; omega)) only [g_138_0, g_138_2, g_138_7, g_138_8, g_138_11, g_138_14, g_138_17, g_138_18, gs_nx, db_inx, gs_ldi, gs_lda, gs_ldn, List.getElem?_cons_zero, List.getElem?_cons_succ, List.set_cons_zero, List.set_cons_succ, gx5, fx_int, fx_ref, fx_null, px5, gs_lx, gs_ax, sx5, ft_int, ft_ref, ft_b0, ft_b1, c1_int, c1_ref, List.length_cons, List.length_nil, Nat.reduceAdd, Nat.reduceLT, Nat.reduceLeDiff, true_and, and_true, true_or, or_true, not_false_eq_true, Option.toList_some, Option.toList_none, List.nil_append, List.singleton_append, List.cons_append, ↓reduceIte, z_max, z_min, nI_add, z_sub, z_dec, z_mul, z_div, z_mod, nI_clamp, z_lt, z_nlt, z_le, z_nle, z_ne, z_eq, z_in, not_true_eq_false, if_true, if_false, hs_at, hs_ne, hs_sort, hset_eq, vupp_eq, hs_over, List.length_set, vup_at, vup_ne, vup_over, vup_sort, mfs_len, n5_f, map_getD, List.length_map, gd_self, gd_ne, Nat.add_sub_cancel]
    refine c_138_4 (by simp) ?_
    refine m139 hi ?_
    rw [show LB.getD 0 0 = 3 from rfl]
    simp (disch := first | omega | (simp only [List.length_set]; omega)) only [g_138_0, g_138_2, g_138_7, g_138_8, g_138_11, g_138_14, g_138_17, g_138_18, gs_nx, db_inx, gs_ldi, gs_lda, gs_ldn, List.getElem?_cons_zero, List.getElem?_cons_succ, List.set_cons_zero, List.set_cons_succ, gx5, fx_int, fx_ref, fx_null, px5, gs_lx, gs_ax, sx5, ft_int, ft_ref, ft_b0, ft_b1, c1_int, c1_ref, List.length_cons, List.length_nil, Nat.reduceAdd, Nat.reduceLT, Nat.reduceLeDiff, true_and, and_true, true_or, or_true, not_false_eq_true, Option.toList_some, Option.toList_none, List.nil_append, List.singleton_append, List.cons_append, ↓reduceIte, z_max, z_min, nI_add, z_sub, z_dec, z_mul, z_div, z_mod, nI_clamp, z_lt, z_nlt, z_le, z_nle, z_ne, z_eq, z_in, not_true_eq_false, if_true, if_false, hs_at, hs_ne, hs_sort, hset_eq, vupp_eq, hs_over, List.length_set, vup_at, vup_ne, vup_over, vup_sort, mfs_len, n5_f, map_getD, List.length_map, gd_self, gd_ne, Nat.add_sub_cancel]
    exact K
  | succ i ih =>
    intro hi K
    have hb3 := LB_lt (i + 1)
    rw [ixB] at K
    rw [g_138_3]
    simp (disch := first | omega | (simp only [List.length_set]; omega)) only [g_138_0, g_138_2, g_138_7, g_138_8, g_138_11, g_138_14, g_138_17, g_138_18, gs_nx, db_inx, gs_ldi, gs_lda, gs_ldn, List.getElem?_cons_zero, List.getElem?_cons_succ, List.set_cons_zero, List.set_cons_succ, gx5, fx_int, fx_ref, fx_null, px5, gs_lx, gs_ax, sx5, ft_int, ft_ref, ft_b0, ft_b1, c1_int, c1_ref, List.length_cons, List.length_nil, Nat.reduceAdd, Nat.reduceLT, Nat.reduceLeDiff, true_and, and_true, true_or, or_true, not_false_eq_true, Option.toList_some, Option.toList_none, List.nil_append, List.singleton_append, List.cons_append, ↓reduceIte, z_max, z_min, nI_add, z_sub, z_dec, z_mul, z_div, z_mod, nI_clamp, z_lt, z_nlt, z_le, z_nle, z_ne, z_eq, z_in, not_true_eq_false, if_true, if_false, hs_at, hs_ne, hs_sort, hset_eq, vupp_eq, hs_over, List.length_set, vup_at, vup_ne, vup_over, vup_sort, mfs_len, n5_f, map_getD, List.length_map, gd_self, gd_ne, Nat.add_sub_cancel]
    refine c_138_4 (by simp) ?_
    refine m139 hi ?_
    by_cases hc : LB.getD (i + 1) 0 ≤ v
    · rw [if_pos hc] at K
      simp (disch := first | omega | (simp only [List.length_set]; omega)) only [g_138_0, g_138_2, g_138_7, g_138_8, g_138_11, g_138_14, g_138_17, g_138_18, gs_nx, db_inx, gs_ldi, gs_lda, gs_ldn, List.getElem?_cons_zero, List.getElem?_cons_succ, List.set_cons_zero, List.set_cons_succ, gx5, fx_int, fx_ref, fx_null, px5, gs_lx, gs_ax, sx5, ft_int, ft_ref, ft_b0, ft_b1, c1_int, c1_ref, List.length_cons, List.length_nil, Nat.reduceAdd, Nat.reduceLT, Nat.reduceLeDiff, true_and, and_true, true_or, or_true, not_false_eq_true, Option.toList_some, Option.toList_none, List.nil_append, List.singleton_append, List.cons_append, ↓reduceIte, z_max, z_min, nI_add, z_sub, z_dec, z_mul, z_div, z_mod, nI_clamp, z_lt, z_nlt, z_le, z_nle, z_ne, z_eq, z_in, not_true_eq_false, if_true, if_false, hs_at, hs_ne, hs_sort, hset_eq, vupp_eq, hs_over, List.length_set, vup_at, vup_ne, vup_over, vup_sort, mfs_len, n5_f, map_getD, List.length_map, gd_self, gd_ne, Nat.add_sub_cancel]
      exact K
    · rw [if_neg hc] at K
      simp (disch := first | omega | (simp only [List.length_set]; omega)) only [g_138_0, g_138_2, g_138_7, g_138_8, g_138_11, g_138_14, g_138_17, g_138_18, gs_nx, db_inx, gs_ldi, gs_lda, gs_ldn, List.getElem?_cons_zero, List.getElem?_cons_succ, List.set_cons_zero, List.set_cons_succ, gx5, fx_int, fx_ref, fx_null, px5, gs_lx, gs_ax, sx5, ft_int, ft_ref, ft_b0, ft_b1, c1_int, c1_ref, List.length_cons, List.length_nil, Nat.reduceAdd, Nat.reduceLT, Nat.reduceLeDiff, true_and, and_true, true_or, or_true, not_false_eq_true, Option.toList_some, Option.toList_none, List.nil_append, List.singleton_append, List.cons_append, ↓reduceIte, z_max, z_min, nI_add, z_sub, z_dec, z_mul, z_div, z_mod, nI_clamp, z_lt, z_nlt, z_le, z_nle, z_ne, z_eq, z_in, not_true_eq_false, if_true, if_false, hs_at, hs_ne, hs_sort, hset_eq, vupp_eq, hs_over, List.length_set, vup_at, vup_ne, vup_over, vup_sort, mfs_len, n5_f, map_getD, List.length_map, gd_self, gd_ne, Nat.add_sub_cancel]
      exact ih (by omega) K
theorem m138 {v : Nat} (hv : v < 2 ^ 31) (h0 : 3 ≤ v) (K : P (some (.int (nI (ixB LB v 28)))) h) : db_Go 138 0 [.int (nI v), .retAddr 0] [] h P := by
  simp (disch := first | omega | (simp only [List.length_set]; omega)) only [g_138_0, g_138_2, g_138_7, g_138_8, g_138_11, g_138_14, g_138_17, g_138_18, gs_nx, db_inx, gs_ldi, gs_lda, gs_ldn, List.getElem?_cons_zero, List.getElem?_cons_succ, List.set_cons_zero, List.set_cons_succ, gx5, fx_int, fx_ref, fx_null, px5, gs_lx, gs_ax, sx5, ft_int, ft_ref, ft_b0, ft_b1, c1_int, c1_ref, List.length_cons, List.length_nil, Nat.reduceAdd, Nat.reduceLT, Nat.reduceLeDiff, true_and, and_true, true_or, or_true, not_false_eq_true, Option.toList_some, Option.toList_none, List.nil_append, List.singleton_append, List.cons_append, ↓reduceIte, z_max, z_min, nI_add, z_sub, z_dec, z_mul, z_div, z_mod, nI_clamp, z_lt, z_nlt, z_le, z_nle, z_ne, z_eq, z_in, not_true_eq_false, if_true, if_false, hs_at, hs_ne, hs_sort, hset_eq, vupp_eq, hs_over, List.length_set, vup_at, vup_ne, vup_over, vup_sort, mfs_len, n5_f, map_getD, List.length_map, gd_self, gd_ne, Nat.add_sub_cancel]
  exact m138_loop hv h0 28 (by omega) K
theorem m141_loop {v : Nat} (hv : v < 2 ^ 31) (h0 : 1 ≤ v) : ∀ i, i ≤ 29 → P (some (.int (nI (ixB DB v i)))) h → db_Go 141 3 [.int (nI v), .int (nI i)] [] h P := by
  intro i
  induction i with
  | zero =>
    intro hi K
    rw [g_141_3]
    simp (disch := first | omega | (simp only [List.length_set]; omega)) only [g_141_0, g_141_2, g_141_7, g_141_8, g_141_11, g_141_14, g_141_17, g_141_18, gs_nx, db_inx, gs_ldi, gs_lda, gs_ldn, List.getElem?_cons_zero, List.getElem?_cons_succ, List.set_cons_zero, List.set_cons_succ, gx5, fx_int, fx_ref, fx_null, px5, gs_lx, gs_ax, sx5, ft_int, ft_ref, ft_b0, ft_b1, c1_int, c1_ref, List.length_cons, List.length_nil, Nat.reduceAdd, Nat.reduceLT, Nat.reduceLeDiff, true_and, and_true, true_or, or_true, not_false_eq_true, Option.toList_some, Option.toList_none, List.nil_append, List.singleton_append, List.cons_append, ↓reduceIte, z_max, z_min, nI_add, z_sub, z_dec, z_mul, z_div, z_mod, nI_clamp, z_lt, z_nlt, z_le, z_nle, z_ne, z_eq, z_in, not_true_eq_false, if_true, if_false, hs_at, hs_ne, hs_sort, hset_eq, vupp_eq, hs_over, List.length_set, vup_at, vup_ne, vup_over, vup_sort, mfs_len, n5_f, map_getD, List.length_map, gd_self, gd_ne, Nat.add_sub_cancel]
    refine c_141_4 (by simp) ?_
    refine m142 hi ?_
    rw [show DB.getD 0 0 = 1 from rfl]
    simp (disch := first | omega | (simp only [List.length_set]; omega)) only [g_141_0, g_141_2, g_141_7, g_141_8, g_141_11, g_141_14, g_141_17, g_141_18, gs_nx, db_inx, gs_ldi, gs_lda, gs_ldn, List.getElem?_cons_zero, List.getElem?_cons_succ, List.set_cons_zero, List.set_cons_succ, gx5, fx_int, fx_ref, fx_null, px5, gs_lx, gs_ax, sx5, ft_int, ft_ref, ft_b0, ft_b1, c1_int, c1_ref, List.length_cons, List.length_nil, Nat.reduceAdd, Nat.reduceLT, Nat.reduceLeDiff, true_and, and_true, true_or, or_true, not_false_eq_true, Option.toList_some, Option.toList_none, List.nil_append, List.singleton_append, List.cons_append, ↓reduceIte, z_max, z_min, nI_add, z_sub, z_dec, z_mul, z_div, z_mod, nI_clamp, z_lt, z_nlt, z_le, z_nle, z_ne, z_eq, z_in, not_true_eq_false, if_true, if_false, hs_at, hs_ne, hs_sort, hset_eq, vupp_eq, hs_over, List.length_set, vup_at, vup_ne, vup_over, vup_sort, mfs_len, n5_f, map_getD, List.length_map, gd_self, gd_ne, Nat.add_sub_cancel]
    exact K
  | succ i ih =>
    intro hi K
    have hb3 := DB_lt (i + 1)
    rw [ixB] at K
    rw [g_141_3]
    simp (disch := first | omega | (simp only [List.length_set]; omega)) only [g_141_0, g_141_2, g_141_7, g_141_8, g_141_11, g_141_14, g_141_17, g_141_18, gs_nx, db_inx, gs_ldi, gs_lda, gs_ldn, List.getElem?_cons_zero, List.getElem?_cons_succ, List.set_cons_zero, List.set_cons_succ, gx5, fx_int, fx_ref, fx_null, px5, gs_lx, gs_ax, sx5, ft_int, ft_ref, ft_b0, ft_b1, c1_int, c1_ref, List.length_cons, List.length_nil, Nat.reduceAdd, Nat.reduceLT, Nat.reduceLeDiff, true_and, and_true, true_or, or_true, not_false_eq_true, Option.toList_some, Option.toList_none, List.nil_append, List.singleton_append, List.cons_append, ↓reduceIte, z_max, z_min, nI_add, z_sub, z_dec, z_mul, z_div, z_mod, nI_clamp, z_lt, z_nlt, z_le, z_nle, z_ne, z_eq, z_in, not_true_eq_false, if_true, if_false, hs_at, hs_ne, hs_sort, hset_eq, vupp_eq, hs_over, List.length_set, vup_at, vup_ne, vup_over, vup_sort, mfs_len, n5_f, map_getD, List.length_map, gd_self, gd_ne, Nat.add_sub_cancel]
    refine c_141_4 (by simp) ?_
    refine m142 hi ?_
    by_cases hc : DB.getD (i + 1) 0 ≤ v
    · rw [if_pos hc] at K
      simp (disch := first | omega | (simp only [List.length_set]; omega)) only [g_141_0, g_141_2, g_141_7, g_141_8, g_141_11, g_141_14, g_141_17, g_141_18, gs_nx, db_inx, gs_ldi, gs_lda, gs_ldn, List.getElem?_cons_zero, List.getElem?_cons_succ, List.set_cons_zero, List.set_cons_succ, gx5, fx_int, fx_ref, fx_null, px5, gs_lx, gs_ax, sx5, ft_int, ft_ref, ft_b0, ft_b1, c1_int, c1_ref, List.length_cons, List.length_nil, Nat.reduceAdd, Nat.reduceLT, Nat.reduceLeDiff, true_and, and_true, true_or, or_true, not_false_eq_true, Option.toList_some, Option.toList_none, List.nil_append, List.singleton_append, List.cons_append, ↓reduceIte, z_max, z_min, nI_add, z_sub, z_dec, z_mul, z_div, z_mod, nI_clamp, z_lt, z_nlt, z_le, z_nle, z_ne, z_eq, z_in, not_true_eq_false, if_true, if_false, hs_at, hs_ne, hs_sort, hset_eq, vupp_eq, hs_over, List.length_set, vup_at, vup_ne, vup_over, vup_sort, mfs_len, n5_f, map_getD, List.length_map, gd_self, gd_ne, Nat.add_sub_cancel]
      exact K
    · rw [if_neg hc] at K
      simp (disch := first | omega | (simp only [List.length_set]; omega)) only [g_141_0, g_141_2, g_141_7, g_141_8, g_141_11, g_141_14, g_141_17, g_141_18, gs_nx, db_inx, gs_ldi, gs_lda, gs_ldn, List.getElem?_cons_zero, List.getElem?_cons_succ, List.set_cons_zero, List.set_cons_succ, gx5, fx_int, fx_ref, fx_null, px5, gs_lx, gs_ax, sx5, ft_int, ft_ref, ft_b0, ft_b1, c1_int, c1_ref, List.length_cons, List.length_nil, Nat.reduceAdd, Nat.reduceLT, Nat.reduceLeDiff, true_and, and_true, true_or, or_true, not_false_eq_true, Option.toList_some, Option.toList_none, List.nil_append, List.singleton_append, List.cons_append, ↓reduceIte, z_max, z_min, nI_add, z_sub, z_dec, z_mul, z_div, z_mod, nI_clamp, z_lt, z_nlt, z_le, z_nle, z_ne, z_eq, z_in, not_true_eq_false, if_true, if_false, hs_at, hs_ne, hs_sort, hset_eq, vupp_eq, hs_over, List.length_set, vup_at, vup_ne, vup_over, vup_sort, mfs_len, n5_f, map_getD, List.length_map, gd_self, gd_ne, Nat.add_sub_cancel]
      exact ih (by omega) K
theorem m141 {v : Nat} (hv : v < 2 ^ 31) (h0 : 1 ≤ v) (K : P (some (.int (nI (ixB DB v 29)))) h) : db_Go 141 0 [.int (nI v), .retAddr 0] [] h P := by
  simp (disch := first | omega | (simp only [List.length_set]; omega)) only [g_141_0, g_141_2, g_141_7, g_141_8, g_141_11, g_141_14, g_141_17, g_141_18, gs_nx, db_inx, gs_ldi, gs_lda, gs_ldn, List.getElem?_cons_zero, List.getElem?_cons_succ, List.set_cons_zero, List.set_cons_succ, gx5, fx_int, fx_ref, fx_null, px5, gs_lx, gs_ax, sx5, ft_int, ft_ref, ft_b0, ft_b1, c1_int, c1_ref, List.length_cons, List.length_nil, Nat.reduceAdd, Nat.reduceLT, Nat.reduceLeDiff, true_and, and_true, true_or, or_true, not_false_eq_true, Option.toList_some, Option.toList_none, List.nil_append, List.singleton_append, List.cons_append, ↓reduceIte, z_max, z_min, nI_add, z_sub, z_dec, z_mul, z_div, z_mod, nI_clamp, z_lt, z_nlt, z_le, z_nle, z_ne, z_eq, z_in, not_true_eq_false, if_true, if_false, hs_at, hs_ne, hs_sort, hset_eq, vupp_eq, hs_over, List.length_set, vup_at, vup_ne, vup_over, vup_sort, mfs_len, n5_f, map_getD, List.length_map, gd_self, gd_ne, Nat.add_sub_cancel]
  exact m141_loop hv h0 29 (by omega) K
theorem RO_eq : ∀ k, k < 19 → (if k < 3 then 16 + k else if k = 3 then 0 else if k % 2 = 0 then 8 + (k - 4) / 2 else 7 - (k - 5) / 2) = RO.getD k 0 := by decide +kernel
theorem m150 {k : Nat} (hk : k < 19) (K : P (some (.int (nI (RO.getD k 0)))) h) : db_Go 150 0 [.int (nI k)] [] h P := by
  rw [← RO_eq k hk] at K
  by_cases h1 : k < 3
  · rw [if_pos h1] at K
    simp (disch := first | omega | (simp only [List.length_set]; omega)) only [g_150_0, g_150_1, g_150_2, g_150_5, g_150_7, g_150_8, g_150_9, g_150_12, g_150_13, g_150_14, g_150_17, g_150_18, g_150_21, g_150_22, g_150_23, g_150_24, g_150_27, g_150_29, g_150_30, g_150_31, g_150_32, g_150_33, g_150_34, g_150_35, g_150_38, g_150_40, g_150_41, g_150_42, g_150_43, g_150_44, g_150_45, g_150_46, gs_nx, db_inx, gs_ldi, gs_lda, gs_ldn, List.getElem?_cons_zero, List.getElem?_cons_succ, List.set_cons_zero, List.set_cons_succ, gx5, fx_int, fx_ref, fx_null, px5, gs_lx, gs_ax, sx5, ft_int, ft_ref, ft_b0, ft_b1, c1_int, c1_ref, List.length_cons, List.length_nil, Nat.reduceAdd, Nat.reduceLT, Nat.reduceLeDiff, true_and, and_true, true_or, or_true, not_false_eq_true, Option.toList_some, Option.toList_none, List.nil_append, List.singleton_append, List.cons_append, ↓reduceIte, z_max, z_min, nI_add, z_sub, z_dec, z_mul, z_div, z_mod, nI_clamp, z_lt, z_nlt, z_le, z_nle, z_ne, z_eq, z_in, not_true_eq_false, if_true, if_false, hs_at, hs_ne, hs_sort, hset_eq, vupp_eq, hs_over, List.length_set, vup_at, vup_ne, vup_over, vup_sort, mfs_len, n5_f, map_getD, List.length_map, gd_self, gd_ne, Nat.add_sub_cancel]
    exact K
  · by_cases h2 : k = 3
    · rw [if_neg h1, if_pos h2] at K
      simp (disch := first | omega | (simp only [List.length_set]; omega)) only [g_150_0, g_150_1, g_150_2, g_150_5, g_150_7, g_150_8, g_150_9, g_150_12, g_150_13, g_150_14, g_150_17, g_150_18, g_150_21, g_150_22, g_150_23, g_150_24, g_150_27, g_150_29, g_150_30, g_150_31, g_150_32, g_150_33, g_150_34, g_150_35, g_150_38, g_150_40, g_150_41, g_150_42, g_150_43, g_150_44, g_150_45, g_150_46, gs_nx, db_inx, gs_ldi, gs_lda, gs_ldn, List.getElem?_cons_zero, List.getElem?_cons_succ, List.set_cons_zero, List.set_cons_succ, gx5, fx_int, fx_ref, fx_null, px5, gs_lx, gs_ax, sx5, ft_int, ft_ref, ft_b0, ft_b1, c1_int, c1_ref, List.length_cons, List.length_nil, Nat.reduceAdd, Nat.reduceLT, Nat.reduceLeDiff, true_and, and_true, true_or, or_true, not_false_eq_true, Option.toList_some, Option.toList_none, List.nil_append, List.singleton_append, List.cons_append, ↓reduceIte, z_max, z_min, nI_add, z_sub, z_dec, z_mul, z_div, z_mod, nI_clamp, z_lt, z_nlt, z_le, z_nle, z_ne, z_eq, z_in, not_true_eq_false, if_true, if_false, hs_at, hs_ne, hs_sort, hset_eq, vupp_eq, hs_over, List.length_set, vup_at, vup_ne, vup_over, vup_sort, mfs_len, n5_f, map_getD, List.length_map, gd_self, gd_ne, Nat.add_sub_cancel]
      exact K
    · rw [if_neg h1, if_neg h2] at K
      by_cases h3 : k % 2 = 0
      · rw [if_pos h3] at K
        simp (disch := first | omega | (simp only [List.length_set]; omega)) only [g_150_0, g_150_1, g_150_2, g_150_5, g_150_7, g_150_8, g_150_9, g_150_12, g_150_13, g_150_14, g_150_17, g_150_18, g_150_21, g_150_22, g_150_23, g_150_24, g_150_27, g_150_29, g_150_30, g_150_31, g_150_32, g_150_33, g_150_34, g_150_35, g_150_38, g_150_40, g_150_41, g_150_42, g_150_43, g_150_44, g_150_45, g_150_46, gs_nx, db_inx, gs_ldi, gs_lda, gs_ldn, List.getElem?_cons_zero, List.getElem?_cons_succ, List.set_cons_zero, List.set_cons_succ, gx5, fx_int, fx_ref, fx_null, px5, gs_lx, gs_ax, sx5, ft_int, ft_ref, ft_b0, ft_b1, c1_int, c1_ref, List.length_cons, List.length_nil, Nat.reduceAdd, Nat.reduceLT, Nat.reduceLeDiff, true_and, and_true, true_or, or_true, not_false_eq_true, Option.toList_some, Option.toList_none, List.nil_append, List.singleton_append, List.cons_append, ↓reduceIte, z_max, z_min, nI_add, z_sub, z_dec, z_mul, z_div, z_mod, nI_clamp, z_lt, z_nlt, z_le, z_nle, z_ne, z_eq, z_in, not_true_eq_false, if_true, if_false, hs_at, hs_ne, hs_sort, hset_eq, vupp_eq, hs_over, List.length_set, vup_at, vup_ne, vup_over, vup_sort, mfs_len, n5_f, map_getD, List.length_map, gd_self, gd_ne, Nat.add_sub_cancel]
        exact K
      · rw [if_neg h3] at K
        simp (disch := first | omega | (simp only [List.length_set]; omega)) only [g_150_0, g_150_1, g_150_2, g_150_5, g_150_7, g_150_8, g_150_9, g_150_12, g_150_13, g_150_14, g_150_17, g_150_18, g_150_21, g_150_22, g_150_23, g_150_24, g_150_27, g_150_29, g_150_30, g_150_31, g_150_32, g_150_33, g_150_34, g_150_35, g_150_38, g_150_40, g_150_41, g_150_42, g_150_43, g_150_44, g_150_45, g_150_46, gs_nx, db_inx, gs_ldi, gs_lda, gs_ldn, List.getElem?_cons_zero, List.getElem?_cons_succ, List.set_cons_zero, List.set_cons_succ, gx5, fx_int, fx_ref, fx_null, px5, gs_lx, gs_ax, sx5, ft_int, ft_ref, ft_b0, ft_b1, c1_int, c1_ref, List.length_cons, List.length_nil, Nat.reduceAdd, Nat.reduceLT, Nat.reduceLeDiff, true_and, and_true, true_or, or_true, not_false_eq_true, Option.toList_some, Option.toList_none, List.nil_append, List.singleton_append, List.cons_append, ↓reduceIte, z_max, z_min, nI_add, z_sub, z_dec, z_mul, z_div, z_mod, nI_clamp, z_lt, z_nlt, z_le, z_nle, z_ne, z_eq, z_in, not_true_eq_false, if_true, if_false, hs_at, hs_ne, hs_sort, hset_eq, vupp_eq, hs_over, List.length_set, vup_at, vup_ne, vup_over, vup_sort, mfs_len, n5_f, map_getD, List.length_map, gd_self, gd_ne, Nat.add_sub_cancel]
        exact K
theorem m151 {s : Nat} (hs : s < 2 ^ 31) (K : P (some (.int (nI (rbN s)))) h) : db_Go 151 0 [.int (nI s)] [] h P := by
  unfold rbN at K
  by_cases h1 : s = 16
  · rw [if_pos h1] at K
    simp (disch := first | omega | (simp only [List.length_set]; omega)) only [g_151_0, g_151_1, g_151_3, g_151_6, g_151_7, g_151_10, g_151_11, g_151_13, g_151_16, g_151_17, g_151_20, g_151_21, g_151_23, g_151_26, g_151_28, g_151_31, g_151_32, gs_nx, db_inx, gs_ldi, gs_lda, gs_ldn, List.getElem?_cons_zero, List.getElem?_cons_succ, List.set_cons_zero, List.set_cons_succ, gx5, fx_int, fx_ref, fx_null, px5, gs_lx, gs_ax, sx5, ft_int, ft_ref, ft_b0, ft_b1, c1_int, c1_ref, List.length_cons, List.length_nil, Nat.reduceAdd, Nat.reduceLT, Nat.reduceLeDiff, true_and, and_true, true_or, or_true, not_false_eq_true, Option.toList_some, Option.toList_none, List.nil_append, List.singleton_append, List.cons_append, ↓reduceIte, z_max, z_min, nI_add, z_sub, z_dec, z_mul, z_div, z_mod, nI_clamp, z_lt, z_nlt, z_le, z_nle, z_ne, z_eq, z_in, not_true_eq_false, if_true, if_false, hs_at, hs_ne, hs_sort, hset_eq, vupp_eq, hs_over, List.length_set, vup_at, vup_ne, vup_over, vup_sort, mfs_len, n5_f, map_getD, List.length_map, gd_self, gd_ne, Nat.add_sub_cancel]
    exact K
  · by_cases h2 : s = 17
    · rw [if_neg h1, if_pos h2] at K
      simp (disch := first | omega | (simp only [List.length_set]; omega)) only [g_151_0, g_151_1, g_151_3, g_151_6, g_151_7, g_151_10, g_151_11, g_151_13, g_151_16, g_151_17, g_151_20, g_151_21, g_151_23, g_151_26, g_151_28, g_151_31, g_151_32, gs_nx, db_inx, gs_ldi, gs_lda, gs_ldn, List.getElem?_cons_zero, List.getElem?_cons_succ, List.set_cons_zero, List.set_cons_succ, gx5, fx_int, fx_ref, fx_null, px5, gs_lx, gs_ax, sx5, ft_int, ft_ref, ft_b0, ft_b1, c1_int, c1_ref, List.length_cons, List.length_nil, Nat.reduceAdd, Nat.reduceLT, Nat.reduceLeDiff, true_and, and_true, true_or, or_true, not_false_eq_true, Option.toList_some, Option.toList_none, List.nil_append, List.singleton_append, List.cons_append, ↓reduceIte, z_max, z_min, nI_add, z_sub, z_dec, z_mul, z_div, z_mod, nI_clamp, z_lt, z_nlt, z_le, z_nle, z_ne, z_eq, z_in, not_true_eq_false, if_true, if_false, hs_at, hs_ne, hs_sort, hset_eq, vupp_eq, hs_over, List.length_set, vup_at, vup_ne, vup_over, vup_sort, mfs_len, n5_f, map_getD, List.length_map, gd_self, gd_ne, Nat.add_sub_cancel]
      exact K
    · by_cases h3 : s = 18
      · rw [if_neg h1, if_neg h2, if_pos h3] at K
        simp (disch := first | omega | (simp only [List.length_set]; omega)) only [g_151_0, g_151_1, g_151_3, g_151_6, g_151_7, g_151_10, g_151_11, g_151_13, g_151_16, g_151_17, g_151_20, g_151_21, g_151_23, g_151_26, g_151_28, g_151_31, g_151_32, gs_nx, db_inx, gs_ldi, gs_lda, gs_ldn, List.getElem?_cons_zero, List.getElem?_cons_succ, List.set_cons_zero, List.set_cons_succ, gx5, fx_int, fx_ref, fx_null, px5, gs_lx, gs_ax, sx5, ft_int, ft_ref, ft_b0, ft_b1, c1_int, c1_ref, List.length_cons, List.length_nil, Nat.reduceAdd, Nat.reduceLT, Nat.reduceLeDiff, true_and, and_true, true_or, or_true, not_false_eq_true, Option.toList_some, Option.toList_none, List.nil_append, List.singleton_append, List.cons_append, ↓reduceIte, z_max, z_min, nI_add, z_sub, z_dec, z_mul, z_div, z_mod, nI_clamp, z_lt, z_nlt, z_le, z_nle, z_ne, z_eq, z_in, not_true_eq_false, if_true, if_false, hs_at, hs_ne, hs_sort, hset_eq, vupp_eq, hs_over, List.length_set, vup_at, vup_ne, vup_over, vup_sort, mfs_len, n5_f, map_getD, List.length_map, gd_self, gd_ne, Nat.add_sub_cancel]
        exact K
      · rw [if_neg h1, if_neg h2, if_neg h3] at K
        simp (disch := first | omega | (simp only [List.length_set]; omega)) only [g_151_0, g_151_1, g_151_3, g_151_6, g_151_7, g_151_10, g_151_11, g_151_13, g_151_16, g_151_17, g_151_20, g_151_21, g_151_23, g_151_26, g_151_28, g_151_31, g_151_32, gs_nx, db_inx, gs_ldi, gs_lda, gs_ldn, List.getElem?_cons_zero, List.getElem?_cons_succ, List.set_cons_zero, List.set_cons_succ, gx5, fx_int, fx_ref, fx_null, px5, gs_lx, gs_ax, sx5, ft_int, ft_ref, ft_b0, ft_b1, c1_int, c1_ref, List.length_cons, List.length_nil, Nat.reduceAdd, Nat.reduceLT, Nat.reduceLeDiff, true_and, and_true, true_or, or_true, not_false_eq_true, Option.toList_some, Option.toList_none, List.nil_append, List.singleton_append, List.cons_append, ↓reduceIte, z_max, z_min, nI_add, z_sub, z_dec, z_mul, z_div, z_mod, nI_clamp, z_lt, z_nlt, z_le, z_nle, z_ne, z_eq, z_in, not_true_eq_false, if_true, if_false, hs_at, hs_ne, hs_sort, hset_eq, vupp_eq, hs_over, List.length_set, vup_at, vup_ne, vup_over, vup_sort, mfs_len, n5_f, map_getD, List.length_map, gd_self, gd_ne, Nat.add_sub_cancel]
        exact K
end BA
