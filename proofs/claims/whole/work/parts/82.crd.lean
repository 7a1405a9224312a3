/-! the class's Reader -/
section CR
variable {P : Option Value → db_H → Prop} {B : List Bool} {h : db_H} {s : Rd}
theorem b_nat (n i : Nat) (hi : i < 32) : bt (nI n) i = n.testBit i := by
  unfold bt
  show (BitVec.ofNat 32 n).getLsbD i = _
  rw [BitVec.getLsbD_ofNat, decide_eq_true hi, Bool.true_and]
theorem b_val {x : Int32} {k : Nat} (hk : k < 8) : x >>> (nI k &&& 31) &&& nI 1 = nI (if bt x k = true then 1 else 0) := by
  refine b_ext (fun i hi => ?_)
  rw [b_and, b_sshr k (by omega) x hi, b_1, b_nat _ _ hi]
  by_cases h0 : i = 0
  · rw [h0, decide_eq_true rfl, Bool.and_true, Nat.add_zero, if_pos (by omega)]
    cases bt x k <;> rfl
  · rw [decide_eq_false h0, Bool.and_false]
    have : ∀ b : Nat, b ≤ 1 → Nat.testBit b i = false := by
      intro b hb
      refine Nat.testBit_lt_two_pow ?_
      have : 2 ^ 1 ≤ 2 ^ i := Nat.pow_le_pow_right (by decide) (by omega)
      omega
    rw [this _ (by split <;> omega)]
theorem or_shl {v b k : Nat} (hv : v < 2 ^ k) (hb : b ≤ 1) (hk : k < 32) : nI v ||| nI b <<< (nI k &&& 31) = nI (v + b * 2 ^ k) := by
  refine b_ext (fun i hi => ?_)
  rw [b_or, b_shl k hk _ hi, b_nat _ _ hi, b_nat _ _ hi, b_nat _ _ (by omega : i - k < 32)]
  have e : v + b * 2 ^ k = 2 ^ k * b ||| v := by
    rw [← Nat.two_pow_add_eq_or_of_lt hv b, Nat.mul_comm b]
    omega
  rw [e, Nat.testBit_or, Nat.testBit_two_pow_mul, Bool.or_comm]
/-- Reader at s -/
def cRd (h : db_H) (B : List Bool) (s : Rd) : Prop := 164 < h.length ∧ h[72]? = some (.inr (8, [.ref 9, .int (nI (B.length / 8)), .int (nI s.1), .int (nI s.2)])) ∧ (∃ row, h[9]? = some (.inl (0, row)) ∧ wOK row B) ∧ B.length % 8 = 0 ∧ B.length ≤ 3200 ∧ okR B s
theorem cRd_fr {h2 : db_H} {F : List Nat} (f : Fr F h h2) (hF : 72 ∉ F ∧ 9 ∉ F) (A : cRd h B s) : cRd h2 B s := by
  obtain ⟨a1, a2, ⟨row, a3, a4⟩, r⟩ := A
  exact ⟨Fr_len f a1, Fr_get f hF.1 a2, ⟨row, Fr_get f hF.2 a3, a4⟩, r⟩
theorem cRd_o (A : cRd h B s) : h[72]? = some (.inr (8, [.ref 9, .int (nI (B.length / 8)), .int (nI s.1), .int (nI s.2)])) := A.2.1
theorem cRd_set {s2 : Rd} (A : cRd h B s) (hs : okR B s2) : cRd (h.set 72 (.inr (8, [.ref 9, .int (nI (B.length / 8)), .int (nI s2.1), .int (nI s2.2)]))) B s2 := by
  obtain ⟨a1, a2, ⟨row, a3, a4⟩, a5, a6, a7⟩ := A
  exact ⟨by rw [List.length_set]; exact a1, hs_at (by omega), ⟨row, by rw [hs_ne (by decide)]; exact a3, a4⟩, a5, a6, hs⟩
theorem F72 {z : db_C} : Fr [72] h (h.set 72 z) := Fr_set (by decide)
/-- bit -/
theorem f84 (A : cRd h B s) (K : ∀ h2, Fr [72] h h2 → cRd h2 B (rb B s).2 → P (some (.int (nI (rb B s).1))) h2) : db_Go 84 0 [.ref 72, .retAddr 0, .retAddr 0] [] h P := by
  obtain ⟨a1, a2, ⟨row, a3, a4⟩, a5, a6, a7⟩ := id A
  have a8 := a7.1
  have a9 := a7.2
  have l9 := a4.1
  have s3 := fun (q : s.1 < 2 ^ 31) => nI_s3 q
  have s7 := fun (q : s.1 < 2 ^ 31) => nI_a7 q
  have s3 := s3 (by omega)
  have s7 := s7 (by omega)
  by_cases q : s.2 = 0
  · rw [q] at a2
    by_cases q2 : s.1 < B.length
    · have e : rb B s = ((if B.getD s.1 false = true then 1 else 0), (s.1 + 1, 0)) := by
        unfold rb
        rw [if_pos q, if_pos q2]
      have hb : B[s.1]? = some (B.getD s.1 false) := by rw [List.getD_eq_getElem?_getD, List.getElem?_eq_getElem q2]; rfl
      have w := a4.2.2 s.1 _ hb (by omega)
      have v := @b_val (row.getD (s.1 / 8) 0) (s.1 % 8) (by omega)
      rw [w] at v
      rw [e] at K
      have R2 := cRd_set (s2 := (s.1 + 1, 0)) A ⟨by show s.1 + 1 ≤ _; omega, by show (0 : Nat) ≤ 15; decide⟩
      have K := K _ F72 R2
      simp (disch := first | omega | (simp only [List.length_set]; omega)) only [g_84_0, g_84_1, g_84_4, g_84_5, g_84_6, g_84_7, g_84_8, g_84_11, g_84_14, g_84_15, g_84_16, g_84_17, g_84_20, g_84_21, g_84_22, g_84_25, g_84_28, g_84_29, g_84_30, g_84_33, g_84_34, g_84_37, g_84_38, g_84_39, g_84_42, g_84_43, g_84_44, g_84_45, g_84_48, g_84_49, g_84_50, g_84_51, g_84_54, g_84_56, g_84_57, g_84_58, g_84_59, g_84_60, g_84_61, g_84_62, g_84_63, g_84_66, g_84_67, g_84_68, g_84_71, g_84_72, gs_nx, db_inx, gs_ldi, gs_lda, gs_ldn, List.getElem?_cons_zero, List.getElem?_cons_succ, List.set_cons_zero, List.set_cons_succ, gx5, fx_int, fx_ref, fx_null, px5, gs_lx, gs_ax, sx5, ft_int, ft_ref, ft_b0, ft_b1, c1_int, c1_ref, List.length_cons, List.length_nil, Nat.reduceAdd, Nat.reduceLT, Nat.reduceLeDiff, true_and, and_true, true_or, or_true, not_false_eq_true, Option.toList_some, Option.toList_none, List.nil_append, List.singleton_append, List.cons_append, ↓reduceIte, Bool.and_self, eq_self, z_max, z_min, nI_add, z_sub, z_dec, z_mul, z_div, z_mod, nI_clamp, z_lt, z_nlt, z_le, z_nle, z_ne, z_eq, z_in, not_true_eq_false, if_true, if_false, hs_at, hs_ne, hs_sort, hset_eq, vupp_eq, hs_over, List.length_set, vup_at, vup_ne, vup_over, vup_sort, mfs_len, n5_f, map_getD, List.length_map, gd_self, gd_ne, Nat.add_sub_cancel, a2, a3, s3, s7, l9, v]
      exact K
    · have e : rb B s = (0, (s.1, 1)) := by
        unfold rb
        rw [if_pos q, if_neg q2]
      rw [e] at K
      have R2 := cRd_set (s2 := (s.1, 1)) A ⟨a8, by show (1 : Nat) ≤ 15; decide⟩
      have K := K _ F72 R2
      simp (disch := first | omega | (simp only [List.length_set]; omega)) only [g_84_0, g_84_1, g_84_4, g_84_5, g_84_6, g_84_7, g_84_8, g_84_11, g_84_14, g_84_15, g_84_16, g_84_17, g_84_20, g_84_21, g_84_22, g_84_25, g_84_28, g_84_29, g_84_30, g_84_33, g_84_34, g_84_37, g_84_38, g_84_39, g_84_42, g_84_43, g_84_44, g_84_45, g_84_48, g_84_49, g_84_50, g_84_51, g_84_54, g_84_56, g_84_57, g_84_58, g_84_59, g_84_60, g_84_61, g_84_62, g_84_63, g_84_66, g_84_67, g_84_68, g_84_71, g_84_72, gs_nx, db_inx, gs_ldi, gs_lda, gs_ldn, List.getElem?_cons_zero, List.getElem?_cons_succ, List.set_cons_zero, List.set_cons_succ, gx5, fx_int, fx_ref, fx_null, px5, gs_lx, gs_ax, sx5, ft_int, ft_ref, ft_b0, ft_b1, c1_int, c1_ref, List.length_cons, List.length_nil, Nat.reduceAdd, Nat.reduceLT, Nat.reduceLeDiff, true_and, and_true, true_or, or_true, not_false_eq_true, Option.toList_some, Option.toList_none, List.nil_append, List.singleton_append, List.cons_append, ↓reduceIte, Bool.and_self, eq_self, z_max, z_min, nI_add, z_sub, z_dec, z_mul, z_div, z_mod, nI_clamp, z_lt, z_nlt, z_le, z_nle, z_ne, z_eq, z_in, not_true_eq_false, if_true, if_false, hs_at, hs_ne, hs_sort, hset_eq, vupp_eq, hs_over, List.length_set, vup_at, vup_ne, vup_over, vup_sort, mfs_len, n5_f, map_getD, List.length_map, gd_self, gd_ne, Nat.add_sub_cancel, a2, a3, s3, s7, l9]
      exact K
  · rw [rb_f q] at K
    simp (disch := first | omega | (simp only [List.length_set]; omega)) only [g_84_0, g_84_1, g_84_4, g_84_5, g_84_6, g_84_7, g_84_8, g_84_11, g_84_14, g_84_15, g_84_16, g_84_17, g_84_20, g_84_21, g_84_22, g_84_25, g_84_28, g_84_29, g_84_30, g_84_33, g_84_34, g_84_37, g_84_38, g_84_39, g_84_42, g_84_43, g_84_44, g_84_45, g_84_48, g_84_49, g_84_50, g_84_51, g_84_54, g_84_56, g_84_57, g_84_58, g_84_59, g_84_60, g_84_61, g_84_62, g_84_63, g_84_66, g_84_67, g_84_68, g_84_71, g_84_72, gs_nx, db_inx, gs_ldi, gs_lda, gs_ldn, List.getElem?_cons_zero, List.getElem?_cons_succ, List.set_cons_zero, List.set_cons_succ, gx5, fx_int, fx_ref, fx_null, px5, gs_lx, gs_ax, sx5, ft_int, ft_ref, ft_b0, ft_b1, c1_int, c1_ref, List.length_cons, List.length_nil, Nat.reduceAdd, Nat.reduceLT, Nat.reduceLeDiff, true_and, and_true, true_or, or_true, not_false_eq_true, Option.toList_some, Option.toList_none, List.nil_append, List.singleton_append, List.cons_append, ↓reduceIte, Bool.and_self, eq_self, z_max, z_min, nI_add, z_sub, z_dec, z_mul, z_div, z_mod, nI_clamp, z_lt, z_nlt, z_le, z_nle, z_ne, z_eq, z_in, not_true_eq_false, if_true, if_false, hs_at, hs_ne, hs_sort, hset_eq, vupp_eq, hs_over, List.length_set, vup_at, vup_ne, vup_over, vup_sort, mfs_len, n5_f, map_getD, List.length_map, gd_self, gd_ne, Nat.add_sub_cancel, a2, a3, s3]
    exact K h Fr_refl A
theorem m83_loop {w : Nat} (hw : w ≤ 32) : ∀ (d k v : Nat) (s : Rd) (h : db_H), k + d = w → v < 2 ^ k → cRd h B s → (∀ h2, Fr [72] h h2 → cRd h2 B (rf B d k v s).2 → P (some (.int (nI (rf B d k v s).1))) h2) → db_Go 83 4 [.ref 72, .int (nI w), .int (nI v), .int (nI k)] [] h P := by
  intro d
  induction d with
  | zero =>
    intro k v s h hk hv A K
    rw [g_83_4]
    simp (disch := first | omega | (simp only [List.length_set]; omega)) only [g_83_0, g_83_1, g_83_2, g_83_3, g_83_5, g_83_6, g_83_9, g_83_10, g_83_14, g_83_15, g_83_16, g_83_17, g_83_18, g_83_21, g_83_24, g_83_25, gs_nx, db_inx, gs_ldi, gs_lda, gs_ldn, List.getElem?_cons_zero, List.getElem?_cons_succ, List.set_cons_zero, List.set_cons_succ, gx5, fx_int, fx_ref, fx_null, px5, gs_lx, gs_ax, sx5, ft_int, ft_ref, ft_b0, ft_b1, c1_int, c1_ref, List.length_cons, List.length_nil, Nat.reduceAdd, Nat.reduceLT, Nat.reduceLeDiff, true_and, and_true, true_or, or_true, not_false_eq_true, Option.toList_some, Option.toList_none, List.nil_append, List.singleton_append, List.cons_append, ↓reduceIte, Bool.and_self, eq_self, z_max, z_min, nI_add, z_sub, z_dec, z_mul, z_div, z_mod, nI_clamp, z_lt, z_nlt, z_le, z_nle, z_ne, z_eq, z_in, not_true_eq_false, if_true, if_false, hs_at, hs_ne, hs_sort, hset_eq, vupp_eq, hs_over, List.length_set, vup_at, vup_ne, vup_over, vup_sort, mfs_len, n5_f, map_getD, List.length_map, gd_self, gd_ne, Nat.add_sub_cancel]
    exact K h Fr_refl A
  | succ d ih =>
    intro k v s h hk hv A K
    have b1 := @rb_b B s
    have os := or_shl hv b1 (by omega : k < 32)
    rw [rf] at K
    rw [g_83_4]
    simp (disch := first | omega | (simp only [List.length_set]; omega)) only [g_83_0, g_83_1, g_83_2, g_83_3, g_83_5, g_83_6, g_83_9, g_83_10, g_83_14, g_83_15, g_83_16, g_83_17, g_83_18, g_83_21, g_83_24, g_83_25, gs_nx, db_inx, gs_ldi, gs_lda, gs_ldn, List.getElem?_cons_zero, List.getElem?_cons_succ, List.set_cons_zero, List.set_cons_succ, gx5, fx_int, fx_ref, fx_null, px5, gs_lx, gs_ax, sx5, ft_int, ft_ref, ft_b0, ft_b1, c1_int, c1_ref, List.length_cons, List.length_nil, Nat.reduceAdd, Nat.reduceLT, Nat.reduceLeDiff, true_and, and_true, true_or, or_true, not_false_eq_true, Option.toList_some, Option.toList_none, List.nil_append, List.singleton_append, List.cons_append, ↓reduceIte, Bool.and_self, eq_self, z_max, z_min, nI_add, z_sub, z_dec, z_mul, z_div, z_mod, nI_clamp, z_lt, z_nlt, z_le, z_nle, z_ne, z_eq, z_in, not_true_eq_false, if_true, if_false, hs_at, hs_ne, hs_sort, hset_eq, vupp_eq, hs_over, List.length_set, vup_at, vup_ne, vup_over, vup_sort, mfs_len, n5_f, map_getD, List.length_map, gd_self, gd_ne, Nat.add_sub_cancel]
    refine c_83_11 (by simp) (n5_ge (by decide)) (cRd_o A) ?_
    refine f84 A (fun h2 F2 A2 => ?_)
    simp (disch := first | omega | (simp only [List.length_set]; omega)) only [g_83_0, g_83_1, g_83_2, g_83_3, g_83_5, g_83_6, g_83_9, g_83_10, g_83_14, g_83_15, g_83_16, g_83_17, g_83_18, g_83_21, g_83_24, g_83_25, gs_nx, db_inx, gs_ldi, gs_lda, gs_ldn, List.getElem?_cons_zero, List.getElem?_cons_succ, List.set_cons_zero, List.set_cons_succ, gx5, fx_int, fx_ref, fx_null, px5, gs_lx, gs_ax, sx5, ft_int, ft_ref, ft_b0, ft_b1, c1_int, c1_ref, List.length_cons, List.length_nil, Nat.reduceAdd, Nat.reduceLT, Nat.reduceLeDiff, true_and, and_true, true_or, or_true, not_false_eq_true, Option.toList_some, Option.toList_none, List.nil_append, List.singleton_append, List.cons_append, ↓reduceIte, Bool.and_self, eq_self, z_max, z_min, nI_add, z_sub, z_dec, z_mul, z_div, z_mod, nI_clamp, z_lt, z_nlt, z_le, z_nle, z_ne, z_eq, z_in, not_true_eq_false, if_true, if_false, hs_at, hs_ne, hs_sort, hset_eq, vupp_eq, hs_over, List.length_set, vup_at, vup_ne, vup_over, vup_sort, mfs_len, n5_f, map_getD, List.length_map, gd_self, gd_ne, Nat.add_sub_cancel, os]
    refine ih (k + 1) _ _ h2 (by omega) ?_ A2 (fun h3 F3 A3 => K h3 (Fr_tr F2 F3) A3)
    have : (rb B s).1 * 2 ^ k ≤ 1 * 2 ^ k := Nat.mul_le_mul_right _ b1
    rw [Nat.pow_succ]
    omega
/-- field -/
theorem f83 {w : Nat} (hw : w ≤ 32) (A : cRd h B s) (K : ∀ h2, Fr [72] h h2 → cRd h2 B (rdF B w s).2 → P (some (.int (nI (rdF B w s).1))) h2) : db_Go 83 0 [.ref 72, .int (nI w), .retAddr 0, .retAddr 0] [] h P := by
  simp (disch := first | omega | (simp only [List.length_set]; omega)) only [g_83_0, g_83_1, g_83_2, g_83_3, g_83_5, g_83_6, g_83_9, g_83_10, g_83_14, g_83_15, g_83_16, g_83_17, g_83_18, g_83_21, g_83_24, g_83_25, gs_nx, db_inx, gs_ldi, gs_lda, gs_ldn, List.getElem?_cons_zero, List.getElem?_cons_succ, List.set_cons_zero, List.set_cons_succ, gx5, fx_int, fx_ref, fx_null, px5, gs_lx, gs_ax, sx5, ft_int, ft_ref, ft_b0, ft_b1, c1_int, c1_ref, List.length_cons, List.length_nil, Nat.reduceAdd, Nat.reduceLT, Nat.reduceLeDiff, true_and, and_true, true_or, or_true, not_false_eq_true, Option.toList_some, Option.toList_none, List.nil_append, List.singleton_append, List.cons_append, ↓reduceIte, Bool.and_self, eq_self, z_max, z_min, nI_add, z_sub, z_dec, z_mul, z_div, z_mod, nI_clamp, z_lt, z_nlt, z_le, z_nle, z_ne, z_eq, z_in, not_true_eq_false, if_true, if_false, hs_at, hs_ne, hs_sort, hset_eq, vupp_eq, hs_over, List.length_set, vup_at, vup_ne, vup_over, vup_sort, mfs_len, n5_f, map_getD, List.length_map, gd_self, gd_ne, Nat.add_sub_cancel]
  exact m83_loop hw w 0 0 s h (by omega) (by decide) A K
/-- fail -/
theorem f85 {n : Nat} (hn : n ≤ 15) (A : cRd h B s) (K : ∀ h2, Fr [72] h h2 → cRd h2 B (fl n s) → P none h2) : db_Go 85 0 [.ref 72, .int (nI n)] [] h P := by
  have a2 := cRd_o A
  have a1 := A.1
  have a9 := A.2.2.2.2.2.2
  by_cases q : s.2 = 0
  · rw [fl_0 q] at K
    have R2 := cRd_set (s2 := (s.1, n)) A ⟨A.2.2.2.2.2.1, hn⟩
    have K := K _ F72 R2
    rw [q] at a2
    simp (disch := first | omega | (simp only [List.length_set]; omega)) only [g_85_0, g_85_1, g_85_4, g_85_7, g_85_8, g_85_9, g_85_12, gs_nx, db_inx, gs_ldi, gs_lda, gs_ldn, List.getElem?_cons_zero, List.getElem?_cons_succ, List.set_cons_zero, List.set_cons_succ, gx5, fx_int, fx_ref, fx_null, px5, gs_lx, gs_ax, sx5, ft_int, ft_ref, ft_b0, ft_b1, c1_int, c1_ref, List.length_cons, List.length_nil, Nat.reduceAdd, Nat.reduceLT, Nat.reduceLeDiff, true_and, and_true, true_or, or_true, not_false_eq_true, Option.toList_some, Option.toList_none, List.nil_append, List.singleton_append, List.cons_append, ↓reduceIte, Bool.and_self, eq_self, z_max, z_min, nI_add, z_sub, z_dec, z_mul, z_div, z_mod, nI_clamp, z_lt, z_nlt, z_le, z_nle, z_ne, z_eq, z_in, not_true_eq_false, if_true, if_false, hs_at, hs_ne, hs_sort, hset_eq, vupp_eq, hs_over, List.length_set, vup_at, vup_ne, vup_over, vup_sort, mfs_len, n5_f, map_getD, List.length_map, gd_self, gd_ne, Nat.add_sub_cancel, a2]
    exact K
  · rw [fl_f q] at K
    simp (disch := first | omega | (simp only [List.length_set]; omega)) only [g_85_0, g_85_1, g_85_4, g_85_7, g_85_8, g_85_9, g_85_12, gs_nx, db_inx, gs_ldi, gs_lda, gs_ldn, List.getElem?_cons_zero, List.getElem?_cons_succ, List.set_cons_zero, List.set_cons_succ, gx5, fx_int, fx_ref, fx_null, px5, gs_lx, gs_ax, sx5, ft_int, ft_ref, ft_b0, ft_b1, c1_int, c1_ref, List.length_cons, List.length_nil, Nat.reduceAdd, Nat.reduceLT, Nat.reduceLeDiff, true_and, and_true, true_or, or_true, not_false_eq_true, Option.toList_some, Option.toList_none, List.nil_append, List.singleton_append, List.cons_append, ↓reduceIte, Bool.and_self, eq_self, z_max, z_min, nI_add, z_sub, z_dec, z_mul, z_div, z_mod, nI_clamp, z_lt, z_nlt, z_le, z_nle, z_ne, z_eq, z_in, not_true_eq_false, if_true, if_false, hs_at, hs_ne, hs_sort, hset_eq, vupp_eq, hs_over, List.length_set, vup_at, vup_ne, vup_over, vup_sort, mfs_len, n5_f, map_getD, List.length_map, gd_self, gd_ne, Nat.add_sub_cancel, a2]
    exact K h Fr_refl A
theorem pad_B {p n : Nat} (hp : p ≤ n) (hn : n % 8 = 0) : p + pad p ≤ n := by
  unfold pad
  omega
theorem alg_ok (h8 : B.length % 8 = 0) (hs : okR B s) : okR B (alg s) ∧ s.1 ≤ (alg s).1 := by
  unfold alg
  have := pad_B hs.1 h8
  split
  · exact ⟨⟨this, hs.2⟩, by simp⟩
  · exact ⟨hs, Nat.le_refl _⟩
/-- toByte -/
theorem f88 (A : cRd h B s) (K : ∀ h2, Fr [72] h h2 → cRd h2 B (alg s) → P none h2) : db_Go 88 0 [.ref 72] [] h P := by
  have a2 := cRd_o A
  have a1 := A.1
  have a8 := A.2.2.2.2.2.1
  have a9 := A.2.2.2.2.2.2
  have a6 := A.2.2.2.2.1
  have ok := (alg_ok A.2.2.2.1 A.2.2.2.2.2).1
  unfold alg at K ok
  by_cases q : s.2 = 0
  · rw [if_pos q] at K ok
    have R2 := cRd_set A ok
    have K := K _ F72 R2
    have n7 := neg_a7 (n := s.1) (by omega)
    rw [q] at a2 K
    simp (disch := first | omega | (simp only [List.length_set]; omega)) only [g_88_0, g_88_1, g_88_4, g_88_7, g_88_8, g_88_9, g_88_12, g_88_13, g_88_16, g_88_17, g_88_19, g_88_20, g_88_21, g_88_24, gs_nx, db_inx, gs_ldi, gs_lda, gs_ldn, List.getElem?_cons_zero, List.getElem?_cons_succ, List.set_cons_zero, List.set_cons_succ, gx5, fx_int, fx_ref, fx_null, px5, gs_lx, gs_ax, sx5, ft_int, ft_ref, ft_b0, ft_b1, c1_int, c1_ref, List.length_cons, List.length_nil, Nat.reduceAdd, Nat.reduceLT, Nat.reduceLeDiff, true_and, and_true, true_or, or_true, not_false_eq_true, Option.toList_some, Option.toList_none, List.nil_append, List.singleton_append, List.cons_append, ↓reduceIte, Bool.and_self, eq_self, z_max, z_min, nI_add, z_sub, z_dec, z_mul, z_div, z_mod, nI_clamp, z_lt, z_nlt, z_le, z_nle, z_ne, z_eq, z_in, not_true_eq_false, if_true, if_false, hs_at, hs_ne, hs_sort, hset_eq, vupp_eq, hs_over, List.length_set, vup_at, vup_ne, vup_over, vup_sort, mfs_len, n5_f, map_getD, List.length_map, gd_self, gd_ne, Nat.add_sub_cancel, a2, n7]
    exact K
  · rw [if_neg q] at K
    simp (disch := first | omega | (simp only [List.length_set]; omega)) only [g_88_0, g_88_1, g_88_4, g_88_7, g_88_8, g_88_9, g_88_12, g_88_13, g_88_16, g_88_17, g_88_19, g_88_20, g_88_21, g_88_24, gs_nx, db_inx, gs_ldi, gs_lda, gs_ldn, List.getElem?_cons_zero, List.getElem?_cons_succ, List.set_cons_zero, List.set_cons_succ, gx5, fx_int, fx_ref, fx_null, px5, gs_lx, gs_ax, sx5, ft_int, ft_ref, ft_b0, ft_b1, c1_int, c1_ref, List.length_cons, List.length_nil, Nat.reduceAdd, Nat.reduceLT, Nat.reduceLeDiff, true_and, and_true, true_or, or_true, not_false_eq_true, Option.toList_some, Option.toList_none, List.nil_append, List.singleton_append, List.cons_append, ↓reduceIte, Bool.and_self, eq_self, z_max, z_min, nI_add, z_sub, z_dec, z_mul, z_div, z_mod, nI_clamp, z_lt, z_nlt, z_le, z_nle, z_ne, z_eq, z_in, not_true_eq_false, if_true, if_false, hs_at, hs_ne, hs_sort, hset_eq, vupp_eq, hs_over, List.length_set, vup_at, vup_ne, vup_over, vup_sort, mfs_len, n5_f, map_getD, List.length_map, gd_self, gd_ne, Nat.add_sub_cancel, a2]
    exact K h Fr_refl A
/-- hasBit -/
theorem f103 (A : cRd h B s) (K : P (some (.int (if s.1 < B.length then nI 1 else nI 0))) h) : db_Go 103 0 [.ref 72] [] h P := by
  have a2 := cRd_o A
  have a8 := A.2.2.2.2.2.1
  have a6 := A.2.2.2.2.1
  have a5 := A.2.2.2.1
  have s3 := nI_s3 (n := s.1) (by omega)
  by_cases q : s.1 < B.length
  · rw [if_pos q] at K
    simp (disch := first | omega | (simp only [List.length_set]; omega)) only [g_103_0, g_103_1, g_103_4, g_103_5, g_103_6, g_103_7, g_103_10, g_103_13, g_103_14, g_103_17, g_103_18, gs_nx, db_inx, gs_ldi, gs_lda, gs_ldn, List.getElem?_cons_zero, List.getElem?_cons_succ, List.set_cons_zero, List.set_cons_succ, gx5, fx_int, fx_ref, fx_null, px5, gs_lx, gs_ax, sx5, ft_int, ft_ref, ft_b0, ft_b1, c1_int, c1_ref, List.length_cons, List.length_nil, Nat.reduceAdd, Nat.reduceLT, Nat.reduceLeDiff, true_and, and_true, true_or, or_true, not_false_eq_true, Option.toList_some, Option.toList_none, List.nil_append, List.singleton_append, List.cons_append, ↓reduceIte, Bool.and_self, eq_self, z_max, z_min, nI_add, z_sub, z_dec, z_mul, z_div, z_mod, nI_clamp, z_lt, z_nlt, z_le, z_nle, z_ne, z_eq, z_in, not_true_eq_false, if_true, if_false, hs_at, hs_ne, hs_sort, hset_eq, vupp_eq, hs_over, List.length_set, vup_at, vup_ne, vup_over, vup_sort, mfs_len, n5_f, map_getD, List.length_map, gd_self, gd_ne, Nat.add_sub_cancel, a2, s3]
    exact K
  · rw [if_neg q] at K
    simp (disch := first | omega | (simp only [List.length_set]; omega)) only [g_103_0, g_103_1, g_103_4, g_103_5, g_103_6, g_103_7, g_103_10, g_103_13, g_103_14, g_103_17, g_103_18, gs_nx, db_inx, gs_ldi, gs_lda, gs_ldn, List.getElem?_cons_zero, List.getElem?_cons_succ, List.set_cons_zero, List.set_cons_succ, gx5, fx_int, fx_ref, fx_null, px5, gs_lx, gs_ax, sx5, ft_int, ft_ref, ft_b0, ft_b1, c1_int, c1_ref, List.length_cons, List.length_nil, Nat.reduceAdd, Nat.reduceLT, Nat.reduceLeDiff, true_and, and_true, true_or, or_true, not_false_eq_true, Option.toList_some, Option.toList_none, List.nil_append, List.singleton_append, List.cons_append, ↓reduceIte, Bool.and_self, eq_self, z_max, z_min, nI_add, z_sub, z_dec, z_mul, z_div, z_mod, nI_clamp, z_lt, z_nlt, z_le, z_nle, z_ne, z_eq, z_in, not_true_eq_false, if_true, if_false, hs_at, hs_ne, hs_sort, hset_eq, vupp_eq, hs_over, List.length_set, vup_at, vup_ne, vup_over, vup_sort, mfs_len, n5_f, map_getD, List.length_map, gd_self, gd_ne, Nat.add_sub_cancel, a2, s3]
    exact K
def hv8 (a b c d : Nat) : Int32 := (((nI 0 <<< (nI 8 &&& 31) ||| nI a) <<< (nI 8 &&& 31) ||| nI b) <<< (nI 8 &&& 31) ||| nI c) <<< (nI 8 &&& 31) ||| nI d
def hfR (B : List Bool) (s : Rd) : Int32 × Rd := (hv8 (rdF B 8 s).1 (rdF B 8 (rdF B 8 s).2).1 (rdF B 8 (rdF B 8 (rdF B 8 s).2).2).1 (rdF B 8 (rdF B 8 (rdF B 8 (rdF B 8 s).2).2).2).1, (rdF B 8 (rdF B 8 (rdF B 8 (rdF B 8 s).2).2).2).2)
/-- highestFirst -/
theorem f102 (A : cRd h B s) (K : ∀ h2, Fr [72] h h2 → cRd h2 B (hfR B s).2 → P (some (.int (hfR B s).1)) h2) : db_Go 102 0 [.ref 72, .retAddr 0, .retAddr 0] [] h P := by
  unfold hfR at K
  simp (disch := first | omega | (simp only [List.length_set]; omega)) only [g_102_0, g_102_1, g_102_2, g_102_3, g_102_5, g_102_6, g_102_9, g_102_10, g_102_12, g_102_13, g_102_14, g_102_19, g_102_20, g_102_21, g_102_24, g_102_27, g_102_28, gs_nx, db_inx, gs_ldi, gs_lda, gs_ldn, List.getElem?_cons_zero, List.getElem?_cons_succ, List.set_cons_zero, List.set_cons_succ, gx5, fx_int, fx_ref, fx_null, px5, gs_lx, gs_ax, sx5, ft_int, ft_ref, ft_b0, ft_b1, c1_int, c1_ref, List.length_cons, List.length_nil, Nat.reduceAdd, Nat.reduceLT, Nat.reduceLeDiff, true_and, and_true, true_or, or_true, not_false_eq_true, Option.toList_some, Option.toList_none, List.nil_append, List.singleton_append, List.cons_append, ↓reduceIte, Bool.and_self, eq_self, z_max, z_min, nI_add, z_sub, z_dec, z_mul, z_div, z_mod, nI_clamp, z_lt, z_nlt, z_le, z_nle, z_ne, z_eq, z_in, not_true_eq_false, if_true, if_false, hs_at, hs_ne, hs_sort, hset_eq, vupp_eq, hs_over, List.length_set, vup_at, vup_ne, vup_over, vup_sort, mfs_len, n5_f, map_getD, List.length_map, gd_self, gd_ne, Nat.add_sub_cancel]
  rw [g_102_4]
  simp (disch := first | omega | (simp only [List.length_set]; omega)) only [g_102_0, g_102_1, g_102_2, g_102_3, g_102_5, g_102_6, g_102_9, g_102_10, g_102_12, g_102_13, g_102_14, g_102_19, g_102_20, g_102_21, g_102_24, g_102_27, g_102_28, gs_nx, db_inx, gs_ldi, gs_lda, gs_ldn, List.getElem?_cons_zero, List.getElem?_cons_succ, List.set_cons_zero, List.set_cons_succ, gx5, fx_int, fx_ref, fx_null, px5, gs_lx, gs_ax, sx5, ft_int, ft_ref, ft_b0, ft_b1, c1_int, c1_ref, List.length_cons, List.length_nil, Nat.reduceAdd, Nat.reduceLT, Nat.reduceLeDiff, true_and, and_true, true_or, or_true, not_false_eq_true, Option.toList_some, Option.toList_none, List.nil_append, List.singleton_append, List.cons_append, ↓reduceIte, Bool.and_self, eq_self, z_max, z_min, nI_add, z_sub, z_dec, z_mul, z_div, z_mod, nI_clamp, z_lt, z_nlt, z_le, z_nle, z_ne, z_eq, z_in, not_true_eq_false, if_true, if_false, hs_at, hs_ne, hs_sort, hset_eq, vupp_eq, hs_over, List.length_set, vup_at, vup_ne, vup_over, vup_sort, mfs_len, n5_f, map_getD, List.length_map, gd_self, gd_ne, Nat.add_sub_cancel]
  refine c_102_16 (by simp) (n5_ge (by decide)) (cRd_o A) ?_
  refine f83 (by decide) A (fun h2 F2 A2 => ?_)
  generalize rdF B 8 s = r2 at *
  simp (disch := first | omega | (simp only [List.length_set]; omega)) only [g_102_0, g_102_1, g_102_2, g_102_3, g_102_5, g_102_6, g_102_9, g_102_10, g_102_12, g_102_13, g_102_14, g_102_19, g_102_20, g_102_21, g_102_24, g_102_27, g_102_28, gs_nx, db_inx, gs_ldi, gs_lda, gs_ldn, List.getElem?_cons_zero, List.getElem?_cons_succ, List.set_cons_zero, List.set_cons_succ, gx5, fx_int, fx_ref, fx_null, px5, gs_lx, gs_ax, sx5, ft_int, ft_ref, ft_b0, ft_b1, c1_int, c1_ref, List.length_cons, List.length_nil, Nat.reduceAdd, Nat.reduceLT, Nat.reduceLeDiff, true_and, and_true, true_or, or_true, not_false_eq_true, Option.toList_some, Option.toList_none, List.nil_append, List.singleton_append, List.cons_append, ↓reduceIte, Bool.and_self, eq_self, z_max, z_min, nI_add, z_sub, z_dec, z_mul, z_div, z_mod, nI_clamp, z_lt, z_nlt, z_le, z_nle, z_ne, z_eq, z_in, not_true_eq_false, if_true, if_false, hs_at, hs_ne, hs_sort, hset_eq, vupp_eq, hs_over, List.length_set, vup_at, vup_ne, vup_over, vup_sort, mfs_len, n5_f, map_getD, List.length_map, gd_self, gd_ne, Nat.add_sub_cancel]
  rw [g_102_4]
  simp (disch := first | omega | (simp only [List.length_set]; omega)) only [g_102_0, g_102_1, g_102_2, g_102_3, g_102_5, g_102_6, g_102_9, g_102_10, g_102_12, g_102_13, g_102_14, g_102_19, g_102_20, g_102_21, g_102_24, g_102_27, g_102_28, gs_nx, db_inx, gs_ldi, gs_lda, gs_ldn, List.getElem?_cons_zero, List.getElem?_cons_succ, List.set_cons_zero, List.set_cons_succ, gx5, fx_int, fx_ref, fx_null, px5, gs_lx, gs_ax, sx5, ft_int, ft_ref, ft_b0, ft_b1, c1_int, c1_ref, List.length_cons, List.length_nil, Nat.reduceAdd, Nat.reduceLT, Nat.reduceLeDiff, true_and, and_true, true_or, or_true, not_false_eq_true, Option.toList_some, Option.toList_none, List.nil_append, List.singleton_append, List.cons_append, ↓reduceIte, Bool.and_self, eq_self, z_max, z_min, nI_add, z_sub, z_dec, z_mul, z_div, z_mod, nI_clamp, z_lt, z_nlt, z_le, z_nle, z_ne, z_eq, z_in, not_true_eq_false, if_true, if_false, hs_at, hs_ne, hs_sort, hset_eq, vupp_eq, hs_over, List.length_set, vup_at, vup_ne, vup_over, vup_sort, mfs_len, n5_f, map_getD, List.length_map, gd_self, gd_ne, Nat.add_sub_cancel]
  refine c_102_16 (by simp) (n5_ge (by decide)) (cRd_o A2) ?_
  refine f83 (by decide) A2 (fun h3 F3 A3 => ?_)
  generalize rdF B 8 r2.2 = r3 at *
  simp (disch := first | omega | (simp only [List.length_set]; omega)) only [g_102_0, g_102_1, g_102_2, g_102_3, g_102_5, g_102_6, g_102_9, g_102_10, g_102_12, g_102_13, g_102_14, g_102_19, g_102_20, g_102_21, g_102_24, g_102_27, g_102_28, gs_nx, db_inx, gs_ldi, gs_lda, gs_ldn, List.getElem?_cons_zero, List.getElem?_cons_succ, List.set_cons_zero, List.set_cons_succ, gx5, fx_int, fx_ref, fx_null, px5, gs_lx, gs_ax, sx5, ft_int, ft_ref, ft_b0, ft_b1, c1_int, c1_ref, List.length_cons, List.length_nil, Nat.reduceAdd, Nat.reduceLT, Nat.reduceLeDiff, true_and, and_true, true_or, or_true, not_false_eq_true, Option.toList_some, Option.toList_none, List.nil_append, List.singleton_append, List.cons_append, ↓reduceIte, Bool.and_self, eq_self, z_max, z_min, nI_add, z_sub, z_dec, z_mul, z_div, z_mod, nI_clamp, z_lt, z_nlt, z_le, z_nle, z_ne, z_eq, z_in, not_true_eq_false, if_true, if_false, hs_at, hs_ne, hs_sort, hset_eq, vupp_eq, hs_over, List.length_set, vup_at, vup_ne, vup_over, vup_sort, mfs_len, n5_f, map_getD, List.length_map, gd_self, gd_ne, Nat.add_sub_cancel]
  rw [g_102_4]
  simp (disch := first | omega | (simp only [List.length_set]; omega)) only [g_102_0, g_102_1, g_102_2, g_102_3, g_102_5, g_102_6, g_102_9, g_102_10, g_102_12, g_102_13, g_102_14, g_102_19, g_102_20, g_102_21, g_102_24, g_102_27, g_102_28, gs_nx, db_inx, gs_ldi, gs_lda, gs_ldn, List.getElem?_cons_zero, List.getElem?_cons_succ, List.set_cons_zero, List.set_cons_succ, gx5, fx_int, fx_ref, fx_null, px5, gs_lx, gs_ax, sx5, ft_int, ft_ref, ft_b0, ft_b1, c1_int, c1_ref, List.length_cons, List.length_nil, Nat.reduceAdd, Nat.reduceLT, Nat.reduceLeDiff, true_and, and_true, true_or, or_true, not_false_eq_true, Option.toList_some, Option.toList_none, List.nil_append, List.singleton_append, List.cons_append, ↓reduceIte, Bool.and_self, eq_self, z_max, z_min, nI_add, z_sub, z_dec, z_mul, z_div, z_mod, nI_clamp, z_lt, z_nlt, z_le, z_nle, z_ne, z_eq, z_in, not_true_eq_false, if_true, if_false, hs_at, hs_ne, hs_sort, hset_eq, vupp_eq, hs_over, List.length_set, vup_at, vup_ne, vup_over, vup_sort, mfs_len, n5_f, map_getD, List.length_map, gd_self, gd_ne, Nat.add_sub_cancel]
  refine c_102_16 (by simp) (n5_ge (by decide)) (cRd_o A3) ?_
  refine f83 (by decide) A3 (fun h4 F4 A4 => ?_)
  generalize rdF B 8 r3.2 = r4 at *
  simp (disch := first | omega | (simp only [List.length_set]; omega)) only [g_102_0, g_102_1, g_102_2, g_102_3, g_102_5, g_102_6, g_102_9, g_102_10, g_102_12, g_102_13, g_102_14, g_102_19, g_102_20, g_102_21, g_102_24, g_102_27, g_102_28, gs_nx, db_inx, gs_ldi, gs_lda, gs_ldn, List.getElem?_cons_zero, List.getElem?_cons_succ, List.set_cons_zero, List.set_cons_succ, gx5, fx_int, fx_ref, fx_null, px5, gs_lx, gs_ax, sx5, ft_int, ft_ref, ft_b0, ft_b1, c1_int, c1_ref, List.length_cons, List.length_nil, Nat.reduceAdd, Nat.reduceLT, Nat.reduceLeDiff, true_and, and_true, true_or, or_true, not_false_eq_true, Option.toList_some, Option.toList_none, List.nil_append, List.singleton_append, List.cons_append, ↓reduceIte, Bool.and_self, eq_self, z_max, z_min, nI_add, z_sub, z_dec, z_mul, z_div, z_mod, nI_clamp, z_lt, z_nlt, z_le, z_nle, z_ne, z_eq, z_in, not_true_eq_false, if_true, if_false, hs_at, hs_ne, hs_sort, hset_eq, vupp_eq, hs_over, List.length_set, vup_at, vup_ne, vup_over, vup_sort, mfs_len, n5_f, map_getD, List.length_map, gd_self, gd_ne, Nat.add_sub_cancel]
  rw [g_102_4]
  simp (disch := first | omega | (simp only [List.length_set]; omega)) only [g_102_0, g_102_1, g_102_2, g_102_3, g_102_5, g_102_6, g_102_9, g_102_10, g_102_12, g_102_13, g_102_14, g_102_19, g_102_20, g_102_21, g_102_24, g_102_27, g_102_28, gs_nx, db_inx, gs_ldi, gs_lda, gs_ldn, List.getElem?_cons_zero, List.getElem?_cons_succ, List.set_cons_zero, List.set_cons_succ, gx5, fx_int, fx_ref, fx_null, px5, gs_lx, gs_ax, sx5, ft_int, ft_ref, ft_b0, ft_b1, c1_int, c1_ref, List.length_cons, List.length_nil, Nat.reduceAdd, Nat.reduceLT, Nat.reduceLeDiff, true_and, and_true, true_or, or_true, not_false_eq_true, Option.toList_some, Option.toList_none, List.nil_append, List.singleton_append, List.cons_append, ↓reduceIte, Bool.and_self, eq_self, z_max, z_min, nI_add, z_sub, z_dec, z_mul, z_div, z_mod, nI_clamp, z_lt, z_nlt, z_le, z_nle, z_ne, z_eq, z_in, not_true_eq_false, if_true, if_false, hs_at, hs_ne, hs_sort, hset_eq, vupp_eq, hs_over, List.length_set, vup_at, vup_ne, vup_over, vup_sort, mfs_len, n5_f, map_getD, List.length_map, gd_self, gd_ne, Nat.add_sub_cancel]
  refine c_102_16 (by simp) (n5_ge (by decide)) (cRd_o A4) ?_
  refine f83 (by decide) A4 (fun h5 F5 A5 => ?_)
  generalize rdF B 8 r4.2 = r5 at *
  simp (disch := first | omega | (simp only [List.length_set]; omega)) only [g_102_0, g_102_1, g_102_2, g_102_3, g_102_5, g_102_6, g_102_9, g_102_10, g_102_12, g_102_13, g_102_14, g_102_19, g_102_20, g_102_21, g_102_24, g_102_27, g_102_28, gs_nx, db_inx, gs_ldi, gs_lda, gs_ldn, List.getElem?_cons_zero, List.getElem?_cons_succ, List.set_cons_zero, List.set_cons_succ, gx5, fx_int, fx_ref, fx_null, px5, gs_lx, gs_ax, sx5, ft_int, ft_ref, ft_b0, ft_b1, c1_int, c1_ref, List.length_cons, List.length_nil, Nat.reduceAdd, Nat.reduceLT, Nat.reduceLeDiff, true_and, and_true, true_or, or_true, not_false_eq_true, Option.toList_some, Option.toList_none, List.nil_append, List.singleton_append, List.cons_append, ↓reduceIte, Bool.and_self, eq_self, z_max, z_min, nI_add, z_sub, z_dec, z_mul, z_div, z_mod, nI_clamp, z_lt, z_nlt, z_le, z_nle, z_ne, z_eq, z_in, not_true_eq_false, if_true, if_false, hs_at, hs_ne, hs_sort, hset_eq, vupp_eq, hs_over, List.length_set, vup_at, vup_ne, vup_over, vup_sort, mfs_len, n5_f, map_getD, List.length_map, gd_self, gd_ne, Nat.add_sub_cancel]
  rw [g_102_4]
  simp (disch := first | omega | (simp only [List.length_set]; omega)) only [g_102_0, g_102_1, g_102_2, g_102_3, g_102_5, g_102_6, g_102_9, g_102_10, g_102_12, g_102_13, g_102_14, g_102_19, g_102_20, g_102_21, g_102_24, g_102_27, g_102_28, gs_nx, db_inx, gs_ldi, gs_lda, gs_ldn, List.getElem?_cons_zero, List.getElem?_cons_succ, List.set_cons_zero, List.set_cons_succ, gx5, fx_int, fx_ref, fx_null, px5, gs_lx, gs_ax, sx5, ft_int, ft_ref, ft_b0, ft_b1, c1_int, c1_ref, List.length_cons, List.length_nil, Nat.reduceAdd, Nat.reduceLT, Nat.reduceLeDiff, true_and, and_true, true_or, or_true, not_false_eq_true, Option.toList_some, Option.toList_none, List.nil_append, List.singleton_append, List.cons_append, ↓reduceIte, Bool.and_self, eq_self, z_max, z_min, nI_add, z_sub, z_dec, z_mul, z_div, z_mod, nI_clamp, z_lt, z_nlt, z_le, z_nle, z_ne, z_eq, z_in, not_true_eq_false, if_true, if_false, hs_at, hs_ne, hs_sort, hset_eq, vupp_eq, hs_over, List.length_set, vup_at, vup_ne, vup_over, vup_sort, mfs_len, n5_f, map_getD, List.length_map, gd_self, gd_ne, Nat.add_sub_cancel]
  exact K h5 (Fr_tr F2 (Fr_tr F3 (Fr_tr F4 F5))) A5
end CR
