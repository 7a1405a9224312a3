/-! the model: bits, numbers, bytes that come -/
section MRD
variable {P : Option Value → db_H → Prop} {M : Nat → Int32} {B : List Bool}
def mV (M : Nat → Int32) (x : List Nat × Rd) : Nat → Int32 := vup (vup (vup M 47 (nI x.2.1)) 48 (nI x.2.2)) 50 (nI x.1.length)
def mX (h : db_H) (M : Nat → Int32) (B : List Bool) (x : List Nat × Rd) : Prop := 164 < h.length ∧ h[127]? = some (.inr (12, mfs (mV M x))) ∧ mTp h M B ∧ okR B x.2 ∧ ar h 142 16 ∧ ∃ l, h[164]? = some (.inl (0, l)) ∧ l.length = 300 ∧ x.1.length ≤ 300 ∧ l.take x.1.length = x.1.map nI ∧ ∀ v ∈ x.1, v < 256
theorem mX_fr {h h2 : db_H} {x : List Nat × Rd} {F : List Nat} (f : Fr F h h2) (hF : 127 ∉ F ∧ 130 ∉ F ∧ 142 ∉ F ∧ 164 ∉ F) (A : mX h M B x) : mX h2 M B x := by
  obtain ⟨a1, a2, a3, a4, a5, l, a6, r⟩ := A
  exact ⟨Fr_len f a1, Fr_get f hF.1 a2, mTp_fr f hF.2.1 rfl a3, a4, ar_fr f hF.2.2.1 a5, l, Fr_get f hF.2.2.2 a6, r⟩
/-- another state, the same bytes -/
theorem mX_s {h : db_H} {E : List Nat} {s t : Rd} (A : mX h M B (E, s)) (ht : okR B t) : mX (h.set 127 (.inr (12, mfs (mV M (E, t))))) M B (E, t) := by
  obtain ⟨a1, a2, a3, a4, a5, l, a6, r⟩ := A
  have F : Fr [127] h (h.set 127 (.inr (12, mfs (mV M (E, t))))) := Fr_set (by decide)
  exact ⟨Fr_len F a1, hs_at (by omega), mTp_fr F (by decide) rfl a3, ht, ar_fr F (by decide) a5, l, Fr_get F (by decide) a6, r⟩
theorem F127 {h : db_H} {z : db_C} : Fr [127] h (h.set 127 z) := Fr_set (by decide)
/-- fail -/
theorem f159 {h : db_H} {E : List Nat} {s : Rd} {n : Nat} (hn : n ≤ 15) (A : mX h M B (E, s)) (K : ∀ h2, Fr [127] h h2 → mX h2 M B (E, fl n s) → P none h2) : db_Go 159 0 [.ref 127, .int (nI n)] [] h P := by
  have hM := A.2.1
  have hl := A.1
  have s9 : s.2 ≤ 15 := A.2.2.2.1.2
  have ok := (fl_ok (n := n) A.2.2.2.1 hn).1
  have K := K _ F127 (mX_s A ok)
  unfold mV at hM K
  simp only at hM K
  by_cases q : s.2 = 0
  · rw [fl_0 q] at K
    rw [q] at hM
    simp (disch := first | omega | (simp only [List.length_set]; omega)) only [g_159_0, g_159_1, g_159_2, g_159_5, g_159_8, g_159_9, g_159_12, g_159_13, g_159_16, g_159_19, gs_nx, db_inx, gs_ldi, gs_lda, gs_ldn, List.getElem?_cons_zero, List.getElem?_cons_succ, List.set_cons_zero, List.set_cons_succ, gx5, fx_int, fx_ref, fx_null, px5, gs_lx, gs_ax, sx5, ft_int, ft_ref, ft_b0, ft_b1, c1_int, c1_ref, List.length_cons, List.length_nil, Nat.reduceAdd, Nat.reduceLT, Nat.reduceLeDiff, true_and, and_true, true_or, or_true, not_false_eq_true, Option.toList_some, Option.toList_none, List.nil_append, List.singleton_append, List.cons_append, ↓reduceIte, Bool.and_self, eq_self, z_max, z_min, nI_add, z_sub, z_dec, z_mul, z_div, z_mod, nI_clamp, z_lt, z_nlt, z_le, z_nle, z_ne, z_eq, z_in, not_true_eq_false, if_true, if_false, hs_at, hs_ne, hs_sort, hset_eq, vupp_eq, hs_over, List.length_set, vup_at, vup_ne, vup_over, vup_sort, mfs_len, n5_f, map_getD, List.length_map, gd_self, gd_ne, Nat.add_sub_cancel, mg_48, ms_48, hM]
    exact K
  · rw [fl_f q] at K
    simp (disch := first | omega | (simp only [List.length_set]; omega)) only [g_159_0, g_159_1, g_159_2, g_159_5, g_159_8, g_159_9, g_159_12, g_159_13, g_159_16, g_159_19, gs_nx, db_inx, gs_ldi, gs_lda, gs_ldn, List.getElem?_cons_zero, List.getElem?_cons_succ, List.set_cons_zero, List.set_cons_succ, gx5, fx_int, fx_ref, fx_null, px5, gs_lx, gs_ax, sx5, ft_int, ft_ref, ft_b0, ft_b1, c1_int, c1_ref, List.length_cons, List.length_nil, Nat.reduceAdd, Nat.reduceLT, Nat.reduceLeDiff, true_and, and_true, true_or, or_true, not_false_eq_true, Option.toList_some, Option.toList_none, List.nil_append, List.singleton_append, List.cons_append, ↓reduceIte, Bool.and_self, eq_self, z_max, z_min, nI_add, z_sub, z_dec, z_mul, z_div, z_mod, nI_clamp, z_lt, z_nlt, z_le, z_nle, z_ne, z_eq, z_in, not_true_eq_false, if_true, if_false, hs_at, hs_ne, hs_sort, hset_eq, vupp_eq, hs_over, List.length_set, vup_at, vup_ne, vup_over, vup_sort, mfs_len, n5_f, map_getD, List.length_map, gd_self, gd_ne, Nat.add_sub_cancel, mg_48, ms_48, hM]
    exact K
/-- bit -/
theorem f158 {h : db_H} {E : List Nat} {s : Rd} (A : mX h M B (E, s)) (K : ∀ h2, Fr [127] h h2 → mX h2 M B (E, (rb B s).2) → P (some (.int (nI (rb B s).1))) h2) : db_Go 158 0 [.ref 127] [] h P := by
  have hM := A.2.1
  have hl := A.1
  have s9 : s.2 ≤ 15 := A.2.2.2.1.2
  have s1 : s.1 ≤ B.length := A.2.2.2.1.1
  obtain ⟨ta, t1, t2, t3, t4, t5, t6⟩ := A.2.2.1
  have hM' := hM
  unfold mV at hM'
  simp only at hM'
  by_cases q : s.2 = 0
  · rw [q] at hM'
    by_cases q2 : s.1 < B.length
    · have e : rb B s = ((if B.getD s.1 false = true then 1 else 0), (s.1 + 1, 0)) := by
        unfold rb
        rw [if_pos q, if_pos q2]
      have ok : okR B (s.1 + 1, 0) := ⟨by show s.1 + 1 ≤ _; omega, by show (0 : Nat) ≤ 15; decide⟩
      have K := K _ F127 (by rw [e]; exact mX_s A ok)
      rw [e] at K
      have hb : B[s.1]? = some (B.getD s.1 false) := by rw [List.getD_eq_getElem?_getD, List.getElem?_eq_getElem q2]; rfl
      have tb := t6 s.1 _ hb
      unfold mV at K
      simp only at K
      cases hv : B.getD s.1 false with
      | true =>
        rw [hv] at tb K
        have tb : ta.getD s.1 0 = nI 1 := tb
        rw [if_pos rfl] at K
        simp (disch := first | omega | (simp only [List.length_set]; omega)) only [g_158_0, g_158_1, g_158_4, g_158_7, g_158_8, g_158_11, g_158_13, g_158_14, g_158_17, g_158_18, g_158_21, g_158_22, g_158_26, g_158_27, g_158_30, g_158_33, g_158_34, g_158_35, g_158_36, g_158_37, g_158_40, g_158_41, g_158_42, g_158_45, g_158_46, g_158_49, g_158_50, g_158_53, g_158_54, g_158_55, g_158_56, g_158_59, g_158_60, g_158_63, g_158_64, gs_nx, db_inx, gs_ldi, gs_lda, gs_ldn, List.getElem?_cons_zero, List.getElem?_cons_succ, List.set_cons_zero, List.set_cons_succ, gx5, fx_int, fx_ref, fx_null, px5, gs_lx, gs_ax, sx5, ft_int, ft_ref, ft_b0, ft_b1, c1_int, c1_ref, List.length_cons, List.length_nil, Nat.reduceAdd, Nat.reduceLT, Nat.reduceLeDiff, true_and, and_true, true_or, or_true, not_false_eq_true, Option.toList_some, Option.toList_none, List.nil_append, List.singleton_append, List.cons_append, ↓reduceIte, Bool.and_self, eq_self, z_max, z_min, nI_add, z_sub, z_dec, z_mul, z_div, z_mod, nI_clamp, z_lt, z_nlt, z_le, z_nle, z_ne, z_eq, z_in, not_true_eq_false, if_true, if_false, hs_at, hs_ne, hs_sort, hset_eq, vupp_eq, hs_over, List.length_set, vup_at, vup_ne, vup_over, vup_sort, mfs_len, n5_f, map_getD, List.length_map, gd_self, gd_ne, Nat.add_sub_cancel, mg_4, mg_47, mg_48, mg_5, ms_47, hM', t1, t3, tb]
        exact K
      | false =>
        rw [hv] at tb K
        have tb : ta.getD s.1 0 = nI 0 := tb
        rw [if_neg (by decide)] at K
        simp (disch := first | omega | (simp only [List.length_set]; omega)) only [g_158_0, g_158_1, g_158_4, g_158_7, g_158_8, g_158_11, g_158_13, g_158_14, g_158_17, g_158_18, g_158_21, g_158_22, g_158_26, g_158_27, g_158_30, g_158_33, g_158_34, g_158_35, g_158_36, g_158_37, g_158_40, g_158_41, g_158_42, g_158_45, g_158_46, g_158_49, g_158_50, g_158_53, g_158_54, g_158_55, g_158_56, g_158_59, g_158_60, g_158_63, g_158_64, gs_nx, db_inx, gs_ldi, gs_lda, gs_ldn, List.getElem?_cons_zero, List.getElem?_cons_succ, List.set_cons_zero, List.set_cons_succ, gx5, fx_int, fx_ref, fx_null, px5, gs_lx, gs_ax, sx5, ft_int, ft_ref, ft_b0, ft_b1, c1_int, c1_ref, List.length_cons, List.length_nil, Nat.reduceAdd, Nat.reduceLT, Nat.reduceLeDiff, true_and, and_true, true_or, or_true, not_false_eq_true, Option.toList_some, Option.toList_none, List.nil_append, List.singleton_append, List.cons_append, ↓reduceIte, Bool.and_self, eq_self, z_max, z_min, nI_add, z_sub, z_dec, z_mul, z_div, z_mod, nI_clamp, z_lt, z_nlt, z_le, z_nle, z_ne, z_eq, z_in, not_true_eq_false, if_true, if_false, hs_at, hs_ne, hs_sort, hset_eq, vupp_eq, hs_over, List.length_set, vup_at, vup_ne, vup_over, vup_sort, mfs_len, n5_f, map_getD, List.length_map, gd_self, gd_ne, Nat.add_sub_cancel, mg_4, mg_47, mg_48, mg_5, ms_47, hM', t1, t3, tb]
        exact K
    · have e : rb B s = (0, (s.1, 1)) := by
        unfold rb
        rw [if_pos q, if_neg q2]
      rw [e] at K
      have ef : fl 1 s = (s.1, 1) := fl_0 q
      simp (disch := first | omega | (simp only [List.length_set]; omega)) only [g_158_0, g_158_1, g_158_4, g_158_7, g_158_8, g_158_11, g_158_13, g_158_14, g_158_17, g_158_18, g_158_21, g_158_22, g_158_27, g_158_30, g_158_33, g_158_34, g_158_35, g_158_36, g_158_37, g_158_40, g_158_41, g_158_42, g_158_45, g_158_46, g_158_49, g_158_50, g_158_53, g_158_54, g_158_55, g_158_56, g_158_59, g_158_60, g_158_63, g_158_64, gs_nx, db_inx, gs_ldi, gs_lda, gs_ldn, List.getElem?_cons_zero, List.getElem?_cons_succ, List.set_cons_zero, List.set_cons_succ, gx5, fx_int, fx_ref, fx_null, px5, gs_lx, gs_ax, sx5, ft_int, ft_ref, ft_b0, ft_b1, c1_int, c1_ref, List.length_cons, List.length_nil, Nat.reduceAdd, Nat.reduceLT, Nat.reduceLeDiff, true_and, and_true, true_or, or_true, not_false_eq_true, Option.toList_some, Option.toList_none, List.nil_append, List.singleton_append, List.cons_append, ↓reduceIte, Bool.and_self, eq_self, z_max, z_min, nI_add, z_sub, z_dec, z_mul, z_div, z_mod, nI_clamp, z_lt, z_nlt, z_le, z_nle, z_ne, z_eq, z_in, not_true_eq_false, if_true, if_false, hs_at, hs_ne, hs_sort, hset_eq, vupp_eq, hs_over, List.length_set, vup_at, vup_ne, vup_over, vup_sort, mfs_len, n5_f, map_getD, List.length_map, gd_self, gd_ne, Nat.add_sub_cancel, mg_4, mg_47, mg_48, mg_5, ms_47, hM', t3]
      refine c_158_23 (by simp) (n5_ge (by decide)) hM ?_
      refine f159 (by decide) A (fun h2 F2 A2 => ?_)
      rw [ef] at A2
      have hM2 := A2.2.1
      unfold mV at hM2
      simp only at hM2
      simp (disch := first | omega | (simp only [List.length_set]; omega)) only [g_158_0, g_158_1, g_158_4, g_158_7, g_158_8, g_158_11, g_158_13, g_158_14, g_158_17, g_158_18, g_158_21, g_158_22, g_158_26, g_158_27, g_158_30, g_158_33, g_158_34, g_158_35, g_158_36, g_158_37, g_158_40, g_158_41, g_158_42, g_158_45, g_158_46, g_158_49, g_158_50, g_158_53, g_158_54, g_158_55, g_158_56, g_158_59, g_158_60, g_158_63, g_158_64, gs_nx, db_inx, gs_ldi, gs_lda, gs_ldn, List.getElem?_cons_zero, List.getElem?_cons_succ, List.set_cons_zero, List.set_cons_succ, gx5, fx_int, fx_ref, fx_null, px5, gs_lx, gs_ax, sx5, ft_int, ft_ref, ft_b0, ft_b1, c1_int, c1_ref, List.length_cons, List.length_nil, Nat.reduceAdd, Nat.reduceLT, Nat.reduceLeDiff, true_and, and_true, true_or, or_true, not_false_eq_true, Option.toList_some, Option.toList_none, List.nil_append, List.singleton_append, List.cons_append, ↓reduceIte, Bool.and_self, eq_self, z_max, z_min, nI_add, z_sub, z_dec, z_mul, z_div, z_mod, nI_clamp, z_lt, z_nlt, z_le, z_nle, z_ne, z_eq, z_in, not_true_eq_false, if_true, if_false, hs_at, hs_ne, hs_sort, hset_eq, vupp_eq, hs_over, List.length_set, vup_at, vup_ne, vup_over, vup_sort, mfs_len, n5_f, map_getD, List.length_map, gd_self, gd_ne, Nat.add_sub_cancel, mg_4, mg_47, mg_48, mg_5, ms_47, hM2]
      exact K h2 F2 A2
  · rw [rb_f q] at K
    simp (disch := first | omega | (simp only [List.length_set]; omega)) only [g_158_0, g_158_1, g_158_4, g_158_7, g_158_8, g_158_11, g_158_13, g_158_14, g_158_17, g_158_18, g_158_21, g_158_22, g_158_26, g_158_27, g_158_30, g_158_33, g_158_34, g_158_35, g_158_36, g_158_37, g_158_40, g_158_41, g_158_42, g_158_45, g_158_46, g_158_49, g_158_50, g_158_53, g_158_54, g_158_55, g_158_56, g_158_59, g_158_60, g_158_63, g_158_64, gs_nx, db_inx, gs_ldi, gs_lda, gs_ldn, List.getElem?_cons_zero, List.getElem?_cons_succ, List.set_cons_zero, List.set_cons_succ, gx5, fx_int, fx_ref, fx_null, px5, gs_lx, gs_ax, sx5, ft_int, ft_ref, ft_b0, ft_b1, c1_int, c1_ref, List.length_cons, List.length_nil, Nat.reduceAdd, Nat.reduceLT, Nat.reduceLeDiff, true_and, and_true, true_or, or_true, not_false_eq_true, Option.toList_some, Option.toList_none, List.nil_append, List.singleton_append, List.cons_append, ↓reduceIte, Bool.and_self, eq_self, z_max, z_min, nI_add, z_sub, z_dec, z_mul, z_div, z_mod, nI_clamp, z_lt, z_nlt, z_le, z_nle, z_ne, z_eq, z_in, not_true_eq_false, if_true, if_false, hs_at, hs_ne, hs_sort, hset_eq, vupp_eq, hs_over, List.length_set, vup_at, vup_ne, vup_over, vup_sort, mfs_len, n5_f, map_getD, List.length_map, gd_self, gd_ne, Nat.add_sub_cancel, mg_4, mg_47, mg_48, mg_5, ms_47, hM']
    exact K h Fr_refl A
theorem m157_loop {w : Nat} {E : List Nat} (hw : w ≤ 32) : ∀ (d k v : Nat) (s : Rd) (h : db_H), k + d = w → v < 2 ^ k → mX h M B (E, s) → (∀ h2, Fr [127] h h2 → mX h2 M B (E, (rf B d k v s).2) → P (some (.int (nI (rf B d k v s).1))) h2) → db_Go 157 4 [.ref 127, .int (nI w), .int (nI v), .int (nI k)] [] h P := by
  intro d
  induction d with
  | zero =>
    intro k v s h hk hv A K
    rw [g_157_4]
    simp (disch := first | omega | (simp only [List.length_set]; omega)) only [g_157_0, g_157_1, g_157_2, g_157_3, g_157_5, g_157_6, g_157_9, g_157_10, g_157_14, g_157_15, g_157_16, g_157_17, g_157_18, g_157_21, g_157_24, g_157_25, gs_nx, db_inx, gs_ldi, gs_lda, gs_ldn, List.getElem?_cons_zero, List.getElem?_cons_succ, List.set_cons_zero, List.set_cons_succ, gx5, fx_int, fx_ref, fx_null, px5, gs_lx, gs_ax, sx5, ft_int, ft_ref, ft_b0, ft_b1, c1_int, c1_ref, List.length_cons, List.length_nil, Nat.reduceAdd, Nat.reduceLT, Nat.reduceLeDiff, true_and, and_true, true_or, or_true, not_false_eq_true, Option.toList_some, Option.toList_none, List.nil_append, List.singleton_append, List.cons_append, ↓reduceIte, Bool.and_self, eq_self, z_max, z_min, nI_add, z_sub, z_dec, z_mul, z_div, z_mod, nI_clamp, z_lt, z_nlt, z_le, z_nle, z_ne, z_eq, z_in, not_true_eq_false, if_true, if_false, hs_at, hs_ne, hs_sort, hset_eq, vupp_eq, hs_over, List.length_set, vup_at, vup_ne, vup_over, vup_sort, mfs_len, n5_f, map_getD, List.length_map, gd_self, gd_ne, Nat.add_sub_cancel]
    exact K h Fr_refl A
  | succ d ih =>
    intro k v s h hk hv A K
    have b1 := @rb_b B s
    have os := or_shl hv b1 (by omega : k < 32)
    rw [rf] at K
    rw [g_157_4]
    simp (disch := first | omega | (simp only [List.length_set]; omega)) only [g_157_0, g_157_1, g_157_2, g_157_3, g_157_5, g_157_6, g_157_9, g_157_10, g_157_14, g_157_15, g_157_16, g_157_17, g_157_18, g_157_21, g_157_24, g_157_25, gs_nx, db_inx, gs_ldi, gs_lda, gs_ldn, List.getElem?_cons_zero, List.getElem?_cons_succ, List.set_cons_zero, List.set_cons_succ, gx5, fx_int, fx_ref, fx_null, px5, gs_lx, gs_ax, sx5, ft_int, ft_ref, ft_b0, ft_b1, c1_int, c1_ref, List.length_cons, List.length_nil, Nat.reduceAdd, Nat.reduceLT, Nat.reduceLeDiff, true_and, and_true, true_or, or_true, not_false_eq_true, Option.toList_some, Option.toList_none, List.nil_append, List.singleton_append, List.cons_append, ↓reduceIte, Bool.and_self, eq_self, z_max, z_min, nI_add, z_sub, z_dec, z_mul, z_div, z_mod, nI_clamp, z_lt, z_nlt, z_le, z_nle, z_ne, z_eq, z_in, not_true_eq_false, if_true, if_false, hs_at, hs_ne, hs_sort, hset_eq, vupp_eq, hs_over, List.length_set, vup_at, vup_ne, vup_over, vup_sort, mfs_len, n5_f, map_getD, List.length_map, gd_self, gd_ne, Nat.add_sub_cancel]
    refine c_157_11 (by simp) (n5_ge (by decide)) A.2.1 ?_
    refine f158 A (fun h2 F2 A2 => ?_)
    simp (disch := first | omega | (simp only [List.length_set]; omega)) only [g_157_0, g_157_1, g_157_2, g_157_3, g_157_5, g_157_6, g_157_9, g_157_10, g_157_14, g_157_15, g_157_16, g_157_17, g_157_18, g_157_21, g_157_24, g_157_25, gs_nx, db_inx, gs_ldi, gs_lda, gs_ldn, List.getElem?_cons_zero, List.getElem?_cons_succ, List.set_cons_zero, List.set_cons_succ, gx5, fx_int, fx_ref, fx_null, px5, gs_lx, gs_ax, sx5, ft_int, ft_ref, ft_b0, ft_b1, c1_int, c1_ref, List.length_cons, List.length_nil, Nat.reduceAdd, Nat.reduceLT, Nat.reduceLeDiff, true_and, and_true, true_or, or_true, not_false_eq_true, Option.toList_some, Option.toList_none, List.nil_append, List.singleton_append, List.cons_append, ↓reduceIte, Bool.and_self, eq_self, z_max, z_min, nI_add, z_sub, z_dec, z_mul, z_div, z_mod, nI_clamp, z_lt, z_nlt, z_le, z_nle, z_ne, z_eq, z_in, not_true_eq_false, if_true, if_false, hs_at, hs_ne, hs_sort, hset_eq, vupp_eq, hs_over, List.length_set, vup_at, vup_ne, vup_over, vup_sort, mfs_len, n5_f, map_getD, List.length_map, gd_self, gd_ne, Nat.add_sub_cancel, os]
    refine ih (k + 1) _ _ h2 (by omega) ?_ A2 (fun h3 F3 A3 => K h3 (Fr_tr F2 F3) A3)
    have : (rb B s).1 * 2 ^ k ≤ 1 * 2 ^ k := Nat.mul_le_mul_right _ b1
    rw [Nat.pow_succ]
    omega
/-- number -/
theorem f157 {h : db_H} {E : List Nat} {s : Rd} {w : Nat} (hw : w ≤ 32) (A : mX h M B (E, s)) (K : ∀ h2, Fr [127] h h2 → mX h2 M B (E, (rdF B w s).2) → P (some (.int (nI (rdF B w s).1))) h2) : db_Go 157 0 [.ref 127, .int (nI w), .retAddr 0, .retAddr 0] [] h P := by
  simp (disch := first | omega | (simp only [List.length_set]; omega)) only [g_157_0, g_157_1, g_157_2, g_157_3, g_157_5, g_157_6, g_157_9, g_157_10, g_157_14, g_157_15, g_157_16, g_157_17, g_157_18, g_157_21, g_157_24, g_157_25, gs_nx, db_inx, gs_ldi, gs_lda, gs_ldn, List.getElem?_cons_zero, List.getElem?_cons_succ, List.set_cons_zero, List.set_cons_succ, gx5, fx_int, fx_ref, fx_null, px5, gs_lx, gs_ax, sx5, ft_int, ft_ref, ft_b0, ft_b1, c1_int, c1_ref, List.length_cons, List.length_nil, Nat.reduceAdd, Nat.reduceLT, Nat.reduceLeDiff, true_and, and_true, true_or, or_true, not_false_eq_true, Option.toList_some, Option.toList_none, List.nil_append, List.singleton_append, List.cons_append, ↓reduceIte, Bool.and_self, eq_self, z_max, z_min, nI_add, z_sub, z_dec, z_mul, z_div, z_mod, nI_clamp, z_lt, z_nlt, z_le, z_nle, z_ne, z_eq, z_in, not_true_eq_false, if_true, if_false, hs_at, hs_ne, hs_sort, hset_eq, vupp_eq, hs_over, List.length_set, vup_at, vup_ne, vup_over, vup_sort, mfs_len, n5_f, map_getD, List.length_map, gd_self, gd_ne, Nat.add_sub_cancel]
  exact m157_loop hw w 0 0 s h (by omega) (by decide) A K
def FQ : List Nat := [127, 164]
/-- come -/
theorem f161 {h : db_H} {x : List Nat × Rd} {v : Nat} (hv : v < 256) (A : mX h M B x) (K : ∀ h2, Fr FQ h h2 → mX h2 M B (cm v x) → P none h2) : db_Go 161 0 [.ref 127, .int (nI v)] [] h P := by
  obtain ⟨E, s⟩ := x
  have hM := A.2.1
  have hl := A.1
  have s9 : s.2 ≤ 15 := A.2.2.2.1.2
  obtain ⟨l, e1, e3, e4, e5, e6⟩ := A.2.2.2.2.2
  simp only at e4 e5 e6
  have hM' := hM
  unfold mV at hM'
  simp only at hM'
  unfold cm at K
  simp only at K
  by_cases q : s.2 = 0
  · rw [if_pos q] at K
    rw [q] at hM'
    by_cases q2 : E.length = 300
    · rw [if_pos q2] at K
      simp (disch := first | omega | (simp only [List.length_set]; omega)) only [g_161_0, g_161_1, g_161_4, g_161_7, g_161_8, g_161_11, g_161_14, g_161_17, g_161_18, g_161_24, g_161_27, g_161_30, g_161_31, g_161_34, g_161_35, g_161_38, g_161_39, g_161_40, g_161_41, g_161_42, g_161_45, g_161_46, g_161_47, g_161_50, gs_nx, db_inx, gs_ldi, gs_lda, gs_ldn, List.getElem?_cons_zero, List.getElem?_cons_succ, List.set_cons_zero, List.set_cons_succ, gx5, fx_int, fx_ref, fx_null, px5, gs_lx, gs_ax, sx5, ft_int, ft_ref, ft_b0, ft_b1, c1_int, c1_ref, List.length_cons, List.length_nil, Nat.reduceAdd, Nat.reduceLT, Nat.reduceLeDiff, true_and, and_true, true_or, or_true, not_false_eq_true, Option.toList_some, Option.toList_none, List.nil_append, List.singleton_append, List.cons_append, ↓reduceIte, Bool.and_self, eq_self, z_max, z_min, nI_add, z_sub, z_dec, z_mul, z_div, z_mod, nI_clamp, z_lt, z_nlt, z_le, z_nle, z_ne, z_eq, z_in, not_true_eq_false, if_true, if_false, hs_at, hs_ne, hs_sort, hset_eq, vupp_eq, hs_over, List.length_set, vup_at, vup_ne, vup_over, vup_sort, mfs_len, n5_f, map_getD, List.length_map, gd_self, gd_ne, Nat.add_sub_cancel, mg_48, mg_49, mg_50, ms_50, hM']
      refine c_161_20 (by simp) (n5_ge (by decide)) hM ?_
      refine f159 (by decide) A (fun h2 F2 A2 => ?_)
      have hM2 := A2.2.1
      have n2 : ¬ (fl 11 s).2 = 0 := fl_ne (by decide)
      have b2 : (fl 11 s).2 ≤ 15 := A2.2.2.2.1.2
      unfold mV at hM2
      simp only at hM2
      simp (disch := first | omega | (simp only [List.length_set]; omega)) only [g_161_0, g_161_1, g_161_4, g_161_7, g_161_8, g_161_11, g_161_14, g_161_17, g_161_18, g_161_23, g_161_24, g_161_27, g_161_30, g_161_31, g_161_34, g_161_35, g_161_38, g_161_39, g_161_40, g_161_41, g_161_42, g_161_45, g_161_46, g_161_47, g_161_50, gs_nx, db_inx, gs_ldi, gs_lda, gs_ldn, List.getElem?_cons_zero, List.getElem?_cons_succ, List.set_cons_zero, List.set_cons_succ, gx5, fx_int, fx_ref, fx_null, px5, gs_lx, gs_ax, sx5, ft_int, ft_ref, ft_b0, ft_b1, c1_int, c1_ref, List.length_cons, List.length_nil, Nat.reduceAdd, Nat.reduceLT, Nat.reduceLeDiff, true_and, and_true, true_or, or_true, not_false_eq_true, Option.toList_some, Option.toList_none, List.nil_append, List.singleton_append, List.cons_append, ↓reduceIte, Bool.and_self, eq_self, z_max, z_min, nI_add, z_sub, z_dec, z_mul, z_div, z_mod, nI_clamp, z_lt, z_nlt, z_le, z_nle, z_ne, z_eq, z_in, not_true_eq_false, if_true, if_false, hs_at, hs_ne, hs_sort, hset_eq, vupp_eq, hs_over, List.length_set, vup_at, vup_ne, vup_over, vup_sort, mfs_len, n5_f, map_getD, List.length_map, gd_self, gd_ne, Nat.add_sub_cancel, mg_48, mg_49, mg_50, ms_50, hM2]
      exact K h2 (Fr_mono F2 (by decide)) A2
    · rw [if_neg q2] at K
      simp (disch := first | omega | (simp only [List.length_set]; omega)) only [g_161_0, g_161_1, g_161_4, g_161_7, g_161_8, g_161_11, g_161_14, g_161_17, g_161_18, g_161_23, g_161_24, g_161_27, g_161_30, g_161_31, g_161_34, g_161_35, g_161_38, g_161_39, g_161_40, g_161_41, g_161_42, g_161_45, g_161_46, g_161_47, g_161_50, gs_nx, db_inx, gs_ldi, gs_lda, gs_ldn, List.getElem?_cons_zero, List.getElem?_cons_succ, List.set_cons_zero, List.set_cons_succ, gx5, fx_int, fx_ref, fx_null, px5, gs_lx, gs_ax, sx5, ft_int, ft_ref, ft_b0, ft_b1, c1_int, c1_ref, List.length_cons, List.length_nil, Nat.reduceAdd, Nat.reduceLT, Nat.reduceLeDiff, true_and, and_true, true_or, or_true, not_false_eq_true, Option.toList_some, Option.toList_none, List.nil_append, List.singleton_append, List.cons_append, ↓reduceIte, Bool.and_self, eq_self, z_max, z_min, nI_add, z_sub, z_dec, z_mul, z_div, z_mod, nI_clamp, z_lt, z_nlt, z_le, z_nle, z_ne, z_eq, z_in, not_true_eq_false, if_true, if_false, hs_at, hs_ne, hs_sort, hset_eq, vupp_eq, hs_over, List.length_set, vup_at, vup_ne, vup_over, vup_sort, mfs_len, n5_f, map_getD, List.length_map, gd_self, gd_ne, Nat.add_sub_cancel, mg_48, mg_49, mg_50, ms_50, hM', e1]
      have F1 : Fr FQ h ((h.set 127 (.inr (12, mfs (vup (vup (vup M 47 (nI s.1)) 48 (nI 0)) 50 (nI (E.length + 1)))))).set 164 (.inl (0, l.set E.length (nI v)))) := Fr_s (Fr_set (by decide)) (by decide)
      refine K _ F1 ⟨Fr_len F1 hl, ?_, mTp_fr F1 (by decide) rfl A.2.2.1, A.2.2.2.1, ar_fr F1 (by decide) A.2.2.2.2.1, l.set E.length (nI v), ?_, by rw [List.length_set]; exact e3, ?_, E_push e5 (by omega), ?_⟩
      · unfold mV
        simp only [List.length_append, List.length_singleton, q]
        simp (disch := first | omega | (simp only [List.length_set]; omega)) only [hs_at, hs_ne, List.length_set]
      · simp (disch := first | omega | (simp only [List.length_set]; omega)) only [hs_at, hs_ne, List.length_set]
      · simp only [List.length_append, List.length_singleton]
        omega
      · intro u hu
        rcases List.mem_append.mp hu with hu | hu
        · exact e6 u hu
        · rw [List.mem_singleton.mp hu]
          exact hv
  · rw [if_neg q] at K
    simp (disch := first | omega | (simp only [List.length_set]; omega)) only [g_161_0, g_161_1, g_161_4, g_161_7, g_161_8, g_161_11, g_161_14, g_161_17, g_161_18, g_161_23, g_161_24, g_161_27, g_161_30, g_161_31, g_161_34, g_161_35, g_161_38, g_161_39, g_161_40, g_161_41, g_161_42, g_161_45, g_161_46, g_161_47, g_161_50, gs_nx, db_inx, gs_ldi, gs_lda, gs_ldn, List.getElem?_cons_zero, List.getElem?_cons_succ, List.set_cons_zero, List.set_cons_succ, gx5, fx_int, fx_ref, fx_null, px5, gs_lx, gs_ax, sx5, ft_int, ft_ref, ft_b0, ft_b1, c1_int, c1_ref, List.length_cons, List.length_nil, Nat.reduceAdd, Nat.reduceLT, Nat.reduceLeDiff, true_and, and_true, true_or, or_true, not_false_eq_true, Option.toList_some, Option.toList_none, List.nil_append, List.singleton_append, List.cons_append, ↓reduceIte, Bool.and_self, eq_self, z_max, z_min, nI_add, z_sub, z_dec, z_mul, z_div, z_mod, nI_clamp, z_lt, z_nlt, z_le, z_nle, z_ne, z_eq, z_in, not_true_eq_false, if_true, if_false, hs_at, hs_ne, hs_sort, hset_eq, vupp_eq, hs_over, List.length_set, vup_at, vup_ne, vup_over, vup_sort, mfs_len, n5_f, map_getD, List.length_map, gd_self, gd_ne, Nat.add_sub_cancel, mg_48, mg_49, mg_50, ms_50, hM']
    exact K h Fr_refl A
theorem m160_al {E : List Nat} {x1 x2 x3 : Value} : ∀ (d p : Nat) (h : db_H), pad p = d → mX h M B (E, (p, 0)) → (p + d ≤ B.length) → (∀ h2, Fr [127] h h2 → mX h2 M B (E, (p + d, 0)) → db_Go 160 23 [.ref 127, x1, x2, x3] [] h2 P) → db_Go 160 0 [.ref 127, x1, x2, x3] [] h P := by
  intro d
  induction d with
  | zero =>
    intro p h hp A hb K
    have hM := A.2.1
    unfold mV at hM
    simp only at hM
    have bl := A.2.2.1.choose_spec.2.2.2.2.1
    have p8 : p % 8 = 0 := by unfold pad at hp; omega
    rw [g_160_0]
    simp (disch := first | omega | (simp only [List.length_set]; omega)) only [g_160_1, g_160_4, g_160_6, g_160_7, g_160_10, g_160_11, g_160_12, g_160_15, g_160_16, g_160_17, g_160_20, g_160_24, g_160_29, g_160_30, g_160_31, g_160_36, g_160_37, g_160_38, g_160_41, g_160_44, g_160_45, g_160_46, g_160_47, g_160_49, g_160_52, g_160_53, g_160_57, g_160_58, g_160_60, g_160_61, g_160_64, g_160_65, g_160_68, g_160_71, g_160_72, g_160_73, g_160_81, g_160_84, g_160_87, gs_nx, db_inx, gs_ldi, gs_lda, gs_ldn, List.getElem?_cons_zero, List.getElem?_cons_succ, List.set_cons_zero, List.set_cons_succ, gx5, fx_int, fx_ref, fx_null, px5, gs_lx, gs_ax, sx5, ft_int, ft_ref, ft_b0, ft_b1, c1_int, c1_ref, List.length_cons, List.length_nil, Nat.reduceAdd, Nat.reduceLT, Nat.reduceLeDiff, true_and, and_true, true_or, or_true, not_false_eq_true, Option.toList_some, Option.toList_none, List.nil_append, List.singleton_append, List.cons_append, ↓reduceIte, Bool.and_self, eq_self, z_max, z_min, nI_add, z_sub, z_dec, z_mul, z_div, z_mod, nI_clamp, z_lt, z_nlt, z_le, z_nle, z_ne, z_eq, z_in, not_true_eq_false, if_true, if_false, hs_at, hs_ne, hs_sort, hset_eq, vupp_eq, hs_over, List.length_set, vup_at, vup_ne, vup_over, vup_sort, mfs_len, n5_f, map_getD, List.length_map, gd_self, gd_ne, Nat.add_sub_cancel, mg_47, mg_48, ms_47, hM, p8]
    exact K h Fr_refl A
  | succ d ih =>
    intro p h hp A hb K
    have hM := A.2.1
    unfold mV at hM
    simp only at hM
    have hl := A.1
    have bl := A.2.2.1.choose_spec.2.2.2.2.1
    have p8 : ¬ p % 8 = 0 := by unfold pad at hp; omega
    have A2 := mX_s (t := (p + 1, 0)) A ⟨by show p + 1 ≤ _; omega, by show (0 : Nat) ≤ 15; decide⟩
    have nx := ih (p + 1) _ (by unfold pad at hp ⊢; omega) A2 (by omega) (fun h2 F2 X2 => K h2 (Fr_tr F127 F2) (by rw [show p + (d + 1) = p + 1 + d by omega]; exact X2))
    unfold mV at nx
    simp only at nx
    rw [g_160_0]
    simp (disch := first | omega | (simp only [List.length_set]; omega)) only [g_160_1, g_160_4, g_160_6, g_160_7, g_160_10, g_160_11, g_160_12, g_160_15, g_160_16, g_160_17, g_160_20, g_160_24, g_160_29, g_160_30, g_160_31, g_160_36, g_160_37, g_160_38, g_160_41, g_160_44, g_160_45, g_160_46, g_160_47, g_160_49, g_160_52, g_160_53, g_160_57, g_160_58, g_160_60, g_160_61, g_160_64, g_160_65, g_160_68, g_160_71, g_160_72, g_160_73, g_160_81, g_160_84, g_160_87, gs_nx, db_inx, gs_ldi, gs_lda, gs_ldn, List.getElem?_cons_zero, List.getElem?_cons_succ, List.set_cons_zero, List.set_cons_succ, gx5, fx_int, fx_ref, fx_null, px5, gs_lx, gs_ax, sx5, ft_int, ft_ref, ft_b0, ft_b1, c1_int, c1_ref, List.length_cons, List.length_nil, Nat.reduceAdd, Nat.reduceLT, Nat.reduceLeDiff, true_and, and_true, true_or, or_true, not_false_eq_true, Option.toList_some, Option.toList_none, List.nil_append, List.singleton_append, List.cons_append, ↓reduceIte, Bool.and_self, eq_self, z_max, z_min, nI_add, z_sub, z_dec, z_mul, z_div, z_mod, nI_clamp, z_lt, z_nlt, z_le, z_nle, z_ne, z_eq, z_in, not_true_eq_false, if_true, if_false, hs_at, hs_ne, hs_sort, hset_eq, vupp_eq, hs_over, List.length_set, vup_at, vup_ne, vup_over, vup_sort, mfs_len, n5_f, map_getD, List.length_map, gd_self, gd_ne, Nat.add_sub_cancel, mg_47, mg_48, ms_47, hM]
    exact nx
theorem m160_loop {n : Nat} {x2 : Value} (hn : n < 2 ^ 20) : ∀ (d k : Nat) (x : List Nat × Rd) (h : db_H), k + d = n → mX h M B x → (∀ h2, Fr FQ h h2 → mX h2 M B (plF B d x) → P none h2) → db_Go 160 59 [.ref 127, .int (nI n), x2, .int (nI k)] [] h P := by
  intro d
  induction d with
  | zero =>
    intro k x h hk A K
    rw [plF] at K
    rw [g_160_59]
    simp (disch := first | omega | (simp only [List.length_set]; omega)) only [g_160_1, g_160_4, g_160_6, g_160_7, g_160_10, g_160_11, g_160_12, g_160_15, g_160_16, g_160_17, g_160_20, g_160_23, g_160_24, g_160_29, g_160_30, g_160_31, g_160_36, g_160_37, g_160_38, g_160_41, g_160_44, g_160_45, g_160_46, g_160_47, g_160_49, g_160_52, g_160_53, g_160_57, g_160_58, g_160_60, g_160_61, g_160_64, g_160_65, g_160_68, g_160_71, g_160_72, g_160_73, g_160_81, g_160_84, g_160_87, gs_nx, db_inx, gs_ldi, gs_lda, gs_ldn, List.getElem?_cons_zero, List.getElem?_cons_succ, List.set_cons_zero, List.set_cons_succ, gx5, fx_int, fx_ref, fx_null, px5, gs_lx, gs_ax, sx5, ft_int, ft_ref, ft_b0, ft_b1, c1_int, c1_ref, List.length_cons, List.length_nil, Nat.reduceAdd, Nat.reduceLT, Nat.reduceLeDiff, true_and, and_true, true_or, or_true, not_false_eq_true, Option.toList_some, Option.toList_none, List.nil_append, List.singleton_append, List.cons_append, ↓reduceIte, Bool.and_self, eq_self, z_max, z_min, nI_add, z_sub, z_dec, z_mul, z_div, z_mod, nI_clamp, z_lt, z_nlt, z_le, z_nle, z_ne, z_eq, z_in, not_true_eq_false, if_true, if_false, hs_at, hs_ne, hs_sort, hset_eq, vupp_eq, hs_over, List.length_set, vup_at, vup_ne, vup_over, vup_sort, mfs_len, n5_f, map_getD, List.length_map, gd_self, gd_ne, Nat.add_sub_cancel, mg_47, mg_48, ms_47]
    exact K h Fr_refl A
  | succ d ih =>
    intro k x h hk A K
    obtain ⟨E, s⟩ := x
    have hM := A.2.1
    have s9 : s.2 ≤ 15 := A.2.2.2.1.2
    unfold mV at hM
    simp only at hM
    rw [plF] at K
    simp only at K
    rw [g_160_59]
    by_cases q : s.2 = 0
    · rw [if_pos q] at K
      rw [q] at hM
      simp (disch := first | omega | (simp only [List.length_set]; omega)) only [g_160_1, g_160_4, g_160_6, g_160_7, g_160_10, g_160_11, g_160_12, g_160_15, g_160_16, g_160_17, g_160_20, g_160_23, g_160_24, g_160_29, g_160_30, g_160_31, g_160_36, g_160_37, g_160_38, g_160_41, g_160_44, g_160_45, g_160_46, g_160_47, g_160_49, g_160_52, g_160_53, g_160_57, g_160_58, g_160_60, g_160_61, g_160_64, g_160_65, g_160_68, g_160_71, g_160_72, g_160_73, g_160_81, g_160_84, g_160_87, gs_nx, db_inx, gs_ldi, gs_lda, gs_ldn, List.getElem?_cons_zero, List.getElem?_cons_succ, List.set_cons_zero, List.set_cons_succ, gx5, fx_int, fx_ref, fx_null, px5, gs_lx, gs_ax, sx5, ft_int, ft_ref, ft_b0, ft_b1, c1_int, c1_ref, List.length_cons, List.length_nil, Nat.reduceAdd, Nat.reduceLT, Nat.reduceLeDiff, true_and, and_true, true_or, or_true, not_false_eq_true, Option.toList_some, Option.toList_none, List.nil_append, List.singleton_append, List.cons_append, ↓reduceIte, Bool.and_self, eq_self, z_max, z_min, nI_add, z_sub, z_dec, z_mul, z_div, z_mod, nI_clamp, z_lt, z_nlt, z_le, z_nle, z_ne, z_eq, z_in, not_true_eq_false, if_true, if_false, hs_at, hs_ne, hs_sort, hset_eq, vupp_eq, hs_over, List.length_set, vup_at, vup_ne, vup_over, vup_sort, mfs_len, n5_f, map_getD, List.length_map, gd_self, gd_ne, Nat.add_sub_cancel, mg_47, mg_48, ms_47, hM]
      refine c_160_75 (by simp) (n5_ge (by decide)) A.2.1 ?_
      refine f157 (by decide) A (fun h2 F2 A2 => ?_)
      have v8 := @rd8 B 8 s (Nat.le_refl _)
      generalize rdF B 8 s = t at *
      simp (disch := first | omega | (simp only [List.length_set]; omega)) only [g_160_1, g_160_4, g_160_6, g_160_7, g_160_10, g_160_11, g_160_12, g_160_15, g_160_16, g_160_17, g_160_20, g_160_23, g_160_24, g_160_29, g_160_30, g_160_31, g_160_36, g_160_37, g_160_38, g_160_41, g_160_44, g_160_45, g_160_46, g_160_47, g_160_49, g_160_52, g_160_53, g_160_57, g_160_58, g_160_60, g_160_61, g_160_64, g_160_65, g_160_68, g_160_71, g_160_72, g_160_73, g_160_81, g_160_84, g_160_87, gs_nx, db_inx, gs_ldi, gs_lda, gs_ldn, List.getElem?_cons_zero, List.getElem?_cons_succ, List.set_cons_zero, List.set_cons_succ, gx5, fx_int, fx_ref, fx_null, px5, gs_lx, gs_ax, sx5, ft_int, ft_ref, ft_b0, ft_b1, c1_int, c1_ref, List.length_cons, List.length_nil, Nat.reduceAdd, Nat.reduceLT, Nat.reduceLeDiff, true_and, and_true, true_or, or_true, not_false_eq_true, Option.toList_some, Option.toList_none, List.nil_append, List.singleton_append, List.cons_append, ↓reduceIte, Bool.and_self, eq_self, z_max, z_min, nI_add, z_sub, z_dec, z_mul, z_div, z_mod, nI_clamp, z_lt, z_nlt, z_le, z_nle, z_ne, z_eq, z_in, not_true_eq_false, if_true, if_false, hs_at, hs_ne, hs_sort, hset_eq, vupp_eq, hs_over, List.length_set, vup_at, vup_ne, vup_over, vup_sort, mfs_len, n5_f, map_getD, List.length_map, gd_self, gd_ne, Nat.add_sub_cancel, mg_47, mg_48, ms_47]
      refine c_160_78 (by simp) (n5_ge (by decide)) A2.2.1 ?_
      refine f161 v8 A2 (fun h3 F3 A3 => ?_)
      simp (disch := first | omega | (simp only [List.length_set]; omega)) only [g_160_1, g_160_4, g_160_6, g_160_7, g_160_10, g_160_11, g_160_12, g_160_15, g_160_16, g_160_17, g_160_20, g_160_23, g_160_24, g_160_29, g_160_30, g_160_31, g_160_36, g_160_37, g_160_38, g_160_41, g_160_44, g_160_45, g_160_46, g_160_47, g_160_49, g_160_52, g_160_53, g_160_57, g_160_58, g_160_60, g_160_61, g_160_64, g_160_65, g_160_68, g_160_71, g_160_72, g_160_73, g_160_81, g_160_84, g_160_87, gs_nx, db_inx, gs_ldi, gs_lda, gs_ldn, List.getElem?_cons_zero, List.getElem?_cons_succ, List.set_cons_zero, List.set_cons_succ, gx5, fx_int, fx_ref, fx_null, px5, gs_lx, gs_ax, sx5, ft_int, ft_ref, ft_b0, ft_b1, c1_int, c1_ref, List.length_cons, List.length_nil, Nat.reduceAdd, Nat.reduceLT, Nat.reduceLeDiff, true_and, and_true, true_or, or_true, not_false_eq_true, Option.toList_some, Option.toList_none, List.nil_append, List.singleton_append, List.cons_append, ↓reduceIte, Bool.and_self, eq_self, z_max, z_min, nI_add, z_sub, z_dec, z_mul, z_div, z_mod, nI_clamp, z_lt, z_nlt, z_le, z_nle, z_ne, z_eq, z_in, not_true_eq_false, if_true, if_false, hs_at, hs_ne, hs_sort, hset_eq, vupp_eq, hs_over, List.length_set, vup_at, vup_ne, vup_over, vup_sort, mfs_len, n5_f, map_getD, List.length_map, gd_self, gd_ne, Nat.add_sub_cancel, mg_47, mg_48, ms_47]
      exact ih (k + 1) _ h3 (by omega) A3 (fun h4 F4 A4 => K h4 (Fr_tr (Fr_mono F2 (by decide)) (Fr_tr F3 F4)) A4)
    · rw [if_neg q] at K
      simp (disch := first | omega | (simp only [List.length_set]; omega)) only [g_160_1, g_160_4, g_160_6, g_160_7, g_160_10, g_160_11, g_160_12, g_160_15, g_160_16, g_160_17, g_160_20, g_160_23, g_160_24, g_160_29, g_160_30, g_160_31, g_160_36, g_160_37, g_160_38, g_160_41, g_160_44, g_160_45, g_160_46, g_160_47, g_160_49, g_160_52, g_160_53, g_160_57, g_160_58, g_160_60, g_160_61, g_160_64, g_160_65, g_160_68, g_160_71, g_160_72, g_160_73, g_160_81, g_160_84, g_160_87, gs_nx, db_inx, gs_ldi, gs_lda, gs_ldn, List.getElem?_cons_zero, List.getElem?_cons_succ, List.set_cons_zero, List.set_cons_succ, gx5, fx_int, fx_ref, fx_null, px5, gs_lx, gs_ax, sx5, ft_int, ft_ref, ft_b0, ft_b1, c1_int, c1_ref, List.length_cons, List.length_nil, Nat.reduceAdd, Nat.reduceLT, Nat.reduceLeDiff, true_and, and_true, true_or, or_true, not_false_eq_true, Option.toList_some, Option.toList_none, List.nil_append, List.singleton_append, List.cons_append, ↓reduceIte, Bool.and_self, eq_self, z_max, z_min, nI_add, z_sub, z_dec, z_mul, z_div, z_mod, nI_clamp, z_lt, z_nlt, z_le, z_nle, z_ne, z_eq, z_in, not_true_eq_false, if_true, if_false, hs_at, hs_ne, hs_sort, hset_eq, vupp_eq, hs_over, List.length_set, vup_at, vup_ne, vup_over, vup_sort, mfs_len, n5_f, map_getD, List.length_map, gd_self, gd_ne, Nat.add_sub_cancel, mg_47, mg_48, ms_47, hM]
      exact K h Fr_refl A
/-- readPlain -/
theorem f160 {h : db_H} {E : List Nat} {s : Rd} (h0 : s.2 = 0) (A : mX h M B (E, s)) (K : ∀ h2, Fr FQ h h2 → mX h2 M B (rPl B (E, s)) → P none h2) : db_Go 160 0 [.ref 127, .retAddr 0, .retAddr 0, .retAddr 0] [] h P := by
  obtain ⟨p, f⟩ := s
  simp only at h0
  rw [h0] at A K
  have b8 := A.2.2.1.choose_spec.2.2.2.1
  have pB := pad_B (p := p) A.2.2.2.1.1 b8
  have ea : alg (p, 0) = (p + pad p, 0) := rfl
  unfold rPl at K
  simp only [ea] at K
  refine m160_al (pad p) p h rfl A pB (fun h2 F2 A2 => ?_)
  generalize (p + pad p, 0) = s1 at *
  simp (disch := first | omega | (simp only [List.length_set]; omega)) only [g_160_1, g_160_4, g_160_6, g_160_7, g_160_10, g_160_11, g_160_12, g_160_15, g_160_16, g_160_17, g_160_20, g_160_23, g_160_24, g_160_29, g_160_30, g_160_31, g_160_36, g_160_37, g_160_38, g_160_41, g_160_44, g_160_45, g_160_46, g_160_47, g_160_49, g_160_52, g_160_53, g_160_57, g_160_58, g_160_60, g_160_61, g_160_64, g_160_65, g_160_68, g_160_71, g_160_72, g_160_73, g_160_81, g_160_84, g_160_87, gs_nx, db_inx, gs_ldi, gs_lda, gs_ldn, List.getElem?_cons_zero, List.getElem?_cons_succ, List.set_cons_zero, List.set_cons_succ, gx5, fx_int, fx_ref, fx_null, px5, gs_lx, gs_ax, sx5, ft_int, ft_ref, ft_b0, ft_b1, c1_int, c1_ref, List.length_cons, List.length_nil, Nat.reduceAdd, Nat.reduceLT, Nat.reduceLeDiff, true_and, and_true, true_or, or_true, not_false_eq_true, Option.toList_some, Option.toList_none, List.nil_append, List.singleton_append, List.cons_append, ↓reduceIte, Bool.and_self, eq_self, z_max, z_min, nI_add, z_sub, z_dec, z_mul, z_div, z_mod, nI_clamp, z_lt, z_nlt, z_le, z_nle, z_ne, z_eq, z_in, not_true_eq_false, if_true, if_false, hs_at, hs_ne, hs_sort, hset_eq, vupp_eq, hs_over, List.length_set, vup_at, vup_ne, vup_over, vup_sort, mfs_len, n5_f, map_getD, List.length_map, gd_self, gd_ne, Nat.add_sub_cancel, mg_47, mg_48, ms_47]
  refine c_160_26 (by simp) (n5_ge (by decide)) A2.2.1 ?_
  refine f157 (by decide) A2 (fun h3 F3 A3 => ?_)
  have l1 := @rdF_lt B 16 s1
  generalize rdF B 16 s1 = t1 at *
  simp (disch := first | omega | (simp only [List.length_set]; omega)) only [g_160_1, g_160_4, g_160_6, g_160_7, g_160_10, g_160_11, g_160_12, g_160_15, g_160_16, g_160_17, g_160_20, g_160_23, g_160_24, g_160_29, g_160_30, g_160_31, g_160_36, g_160_37, g_160_38, g_160_41, g_160_44, g_160_45, g_160_46, g_160_47, g_160_49, g_160_52, g_160_53, g_160_57, g_160_58, g_160_60, g_160_61, g_160_64, g_160_65, g_160_68, g_160_71, g_160_72, g_160_73, g_160_81, g_160_84, g_160_87, gs_nx, db_inx, gs_ldi, gs_lda, gs_ldn, List.getElem?_cons_zero, List.getElem?_cons_succ, List.set_cons_zero, List.set_cons_succ, gx5, fx_int, fx_ref, fx_null, px5, gs_lx, gs_ax, sx5, ft_int, ft_ref, ft_b0, ft_b1, c1_int, c1_ref, List.length_cons, List.length_nil, Nat.reduceAdd, Nat.reduceLT, Nat.reduceLeDiff, true_and, and_true, true_or, or_true, not_false_eq_true, Option.toList_some, Option.toList_none, List.nil_append, List.singleton_append, List.cons_append, ↓reduceIte, Bool.and_self, eq_self, z_max, z_min, nI_add, z_sub, z_dec, z_mul, z_div, z_mod, nI_clamp, z_lt, z_nlt, z_le, z_nle, z_ne, z_eq, z_in, not_true_eq_false, if_true, if_false, hs_at, hs_ne, hs_sort, hset_eq, vupp_eq, hs_over, List.length_set, vup_at, vup_ne, vup_over, vup_sort, mfs_len, n5_f, map_getD, List.length_map, gd_self, gd_ne, Nat.add_sub_cancel, mg_47, mg_48, ms_47]
  refine c_160_33 (by simp) (n5_ge (by decide)) A3.2.1 ?_
  refine f157 (by decide) A3 (fun h4 F4 A4 => ?_)
  have l2 := @rdF_lt B 16 t1.2
  generalize rdF B 16 t1.2 = t2 at *
  have hM4 := A4.2.1
  have s9 : t2.2.2 ≤ 15 := A4.2.2.2.1.2
  unfold mV at hM4
  simp only at hM4
  have F24 : Fr FQ h h4 := Fr_tr (Fr_mono F2 (by decide)) (Fr_tr (Fr_mono F3 (by decide)) (Fr_mono F4 (by decide)))
  have go : ∀ (h5 : db_H) (s3 : Rd), Fr [127] h4 h5 → mX h5 M B (E, s3) → s3 = (if t2.1 + t1.1 = 65535 then t2.2 else fl 3 t2.2) → db_Go 160 57 [.ref 127, .int (nI t1.1), .int (nI t2.1), .retAddr 0] [] h5 P := by
    intro h5 s3 F5 A5 e5
    rw [← e5] at K
    simp (disch := first | omega | (simp only [List.length_set]; omega)) only [g_160_1, g_160_4, g_160_6, g_160_7, g_160_10, g_160_11, g_160_12, g_160_15, g_160_16, g_160_17, g_160_20, g_160_23, g_160_24, g_160_29, g_160_30, g_160_31, g_160_36, g_160_37, g_160_38, g_160_41, g_160_44, g_160_45, g_160_46, g_160_47, g_160_49, g_160_52, g_160_53, g_160_57, g_160_58, g_160_60, g_160_61, g_160_64, g_160_65, g_160_68, g_160_71, g_160_72, g_160_73, g_160_81, g_160_84, g_160_87, gs_nx, db_inx, gs_ldi, gs_lda, gs_ldn, List.getElem?_cons_zero, List.getElem?_cons_succ, List.set_cons_zero, List.set_cons_succ, gx5, fx_int, fx_ref, fx_null, px5, gs_lx, gs_ax, sx5, ft_int, ft_ref, ft_b0, ft_b1, c1_int, c1_ref, List.length_cons, List.length_nil, Nat.reduceAdd, Nat.reduceLT, Nat.reduceLeDiff, true_and, and_true, true_or, or_true, not_false_eq_true, Option.toList_some, Option.toList_none, List.nil_append, List.singleton_append, List.cons_append, ↓reduceIte, Bool.and_self, eq_self, z_max, z_min, nI_add, z_sub, z_dec, z_mul, z_div, z_mod, nI_clamp, z_lt, z_nlt, z_le, z_nle, z_ne, z_eq, z_in, not_true_eq_false, if_true, if_false, hs_at, hs_ne, hs_sort, hset_eq, vupp_eq, hs_over, List.length_set, vup_at, vup_ne, vup_over, vup_sort, mfs_len, n5_f, map_getD, List.length_map, gd_self, gd_ne, Nat.add_sub_cancel, mg_47, mg_48, ms_47]
    exact m160_loop (by omega) t1.1 0 _ h5 (by omega) A5 (fun h6 F6 A6 => K h6 (Fr_tr F24 (Fr_tr (Fr_mono F5 (by decide)) F6)) A6)
  by_cases q2 : t2.2.2 = 0
  · rw [q2] at hM4
    by_cases q : t2.1 + t1.1 = 65535
    · have q' : t1.1 + t2.1 = 65535 := by omega
      simp (disch := first | omega | (simp only [List.length_set]; omega)) only [g_160_1, g_160_4, g_160_6, g_160_7, g_160_10, g_160_11, g_160_12, g_160_15, g_160_16, g_160_17, g_160_20, g_160_23, g_160_24, g_160_29, g_160_30, g_160_31, g_160_36, g_160_37, g_160_38, g_160_41, g_160_44, g_160_45, g_160_46, g_160_47, g_160_49, g_160_52, g_160_53, g_160_58, g_160_60, g_160_61, g_160_64, g_160_65, g_160_68, g_160_71, g_160_72, g_160_73, g_160_81, g_160_84, g_160_87, gs_nx, db_inx, gs_ldi, gs_lda, gs_ldn, List.getElem?_cons_zero, List.getElem?_cons_succ, List.set_cons_zero, List.set_cons_succ, gx5, fx_int, fx_ref, fx_null, px5, gs_lx, gs_ax, sx5, ft_int, ft_ref, ft_b0, ft_b1, c1_int, c1_ref, List.length_cons, List.length_nil, Nat.reduceAdd, Nat.reduceLT, Nat.reduceLeDiff, true_and, and_true, true_or, or_true, not_false_eq_true, Option.toList_some, Option.toList_none, List.nil_append, List.singleton_append, List.cons_append, ↓reduceIte, Bool.and_self, eq_self, z_max, z_min, nI_add, z_sub, z_dec, z_mul, z_div, z_mod, nI_clamp, z_lt, z_nlt, z_le, z_nle, z_ne, z_eq, z_in, not_true_eq_false, if_true, if_false, hs_at, hs_ne, hs_sort, hset_eq, vupp_eq, hs_over, List.length_set, vup_at, vup_ne, vup_over, vup_sort, mfs_len, n5_f, map_getD, List.length_map, gd_self, gd_ne, Nat.add_sub_cancel, mg_47, mg_48, ms_47, hM4, q']
      exact go h4 _ Fr_refl A4 (by rw [if_pos q])
    · have q' : ¬ t1.1 + t2.1 = 65535 := by omega
      simp (disch := first | omega | (simp only [List.length_set]; omega)) only [g_160_1, g_160_4, g_160_6, g_160_7, g_160_10, g_160_11, g_160_12, g_160_15, g_160_16, g_160_17, g_160_20, g_160_23, g_160_24, g_160_29, g_160_30, g_160_31, g_160_36, g_160_37, g_160_38, g_160_41, g_160_44, g_160_45, g_160_46, g_160_47, g_160_49, g_160_52, g_160_53, g_160_58, g_160_60, g_160_61, g_160_64, g_160_65, g_160_68, g_160_71, g_160_72, g_160_73, g_160_81, g_160_84, g_160_87, gs_nx, db_inx, gs_ldi, gs_lda, gs_ldn, List.getElem?_cons_zero, List.getElem?_cons_succ, List.set_cons_zero, List.set_cons_succ, gx5, fx_int, fx_ref, fx_null, px5, gs_lx, gs_ax, sx5, ft_int, ft_ref, ft_b0, ft_b1, c1_int, c1_ref, List.length_cons, List.length_nil, Nat.reduceAdd, Nat.reduceLT, Nat.reduceLeDiff, true_and, and_true, true_or, or_true, not_false_eq_true, Option.toList_some, Option.toList_none, List.nil_append, List.singleton_append, List.cons_append, ↓reduceIte, Bool.and_self, eq_self, z_max, z_min, nI_add, z_sub, z_dec, z_mul, z_div, z_mod, nI_clamp, z_lt, z_nlt, z_le, z_nle, z_ne, z_eq, z_in, not_true_eq_false, if_true, if_false, hs_at, hs_ne, hs_sort, hset_eq, vupp_eq, hs_over, List.length_set, vup_at, vup_ne, vup_over, vup_sort, mfs_len, n5_f, map_getD, List.length_map, gd_self, gd_ne, Nat.add_sub_cancel, mg_47, mg_48, ms_47, hM4]
      refine c_160_54 (by simp) (n5_ge (by decide)) A4.2.1 ?_
      refine f159 (by decide) A4 (fun h5 F5 A5 => ?_)
      simp (disch := first | omega | (simp only [List.length_set]; omega)) only [g_160_1, g_160_4, g_160_6, g_160_7, g_160_10, g_160_11, g_160_12, g_160_15, g_160_16, g_160_17, g_160_20, g_160_23, g_160_24, g_160_29, g_160_30, g_160_31, g_160_36, g_160_37, g_160_38, g_160_41, g_160_44, g_160_45, g_160_46, g_160_47, g_160_49, g_160_52, g_160_53, g_160_58, g_160_60, g_160_61, g_160_64, g_160_65, g_160_68, g_160_71, g_160_72, g_160_73, g_160_81, g_160_84, g_160_87, gs_nx, db_inx, gs_ldi, gs_lda, gs_ldn, List.getElem?_cons_zero, List.getElem?_cons_succ, List.set_cons_zero, List.set_cons_succ, gx5, fx_int, fx_ref, fx_null, px5, gs_lx, gs_ax, sx5, ft_int, ft_ref, ft_b0, ft_b1, c1_int, c1_ref, List.length_cons, List.length_nil, Nat.reduceAdd, Nat.reduceLT, Nat.reduceLeDiff, true_and, and_true, true_or, or_true, not_false_eq_true, Option.toList_some, Option.toList_none, List.nil_append, List.singleton_append, List.cons_append, ↓reduceIte, Bool.and_self, eq_self, z_max, z_min, nI_add, z_sub, z_dec, z_mul, z_div, z_mod, nI_clamp, z_lt, z_nlt, z_le, z_nle, z_ne, z_eq, z_in, not_true_eq_false, if_true, if_false, hs_at, hs_ne, hs_sort, hset_eq, vupp_eq, hs_over, List.length_set, vup_at, vup_ne, vup_over, vup_sort, mfs_len, n5_f, map_getD, List.length_map, gd_self, gd_ne, Nat.add_sub_cancel, mg_47, mg_48, ms_47]
      exact go h5 _ F5 A5 (by rw [if_neg q])
  · simp (disch := first | omega | (simp only [List.length_set]; omega)) only [g_160_1, g_160_4, g_160_6, g_160_7, g_160_10, g_160_11, g_160_12, g_160_15, g_160_16, g_160_17, g_160_20, g_160_23, g_160_24, g_160_29, g_160_30, g_160_31, g_160_36, g_160_37, g_160_38, g_160_41, g_160_44, g_160_45, g_160_46, g_160_47, g_160_49, g_160_52, g_160_53, g_160_58, g_160_60, g_160_61, g_160_64, g_160_65, g_160_68, g_160_71, g_160_72, g_160_73, g_160_81, g_160_84, g_160_87, gs_nx, db_inx, gs_ldi, gs_lda, gs_ldn, List.getElem?_cons_zero, List.getElem?_cons_succ, List.set_cons_zero, List.set_cons_succ, gx5, fx_int, fx_ref, fx_null, px5, gs_lx, gs_ax, sx5, ft_int, ft_ref, ft_b0, ft_b1, c1_int, c1_ref, List.length_cons, List.length_nil, Nat.reduceAdd, Nat.reduceLT, Nat.reduceLeDiff, true_and, and_true, true_or, or_true, not_false_eq_true, Option.toList_some, Option.toList_none, List.nil_append, List.singleton_append, List.cons_append, ↓reduceIte, Bool.and_self, eq_self, z_max, z_min, nI_add, z_sub, z_dec, z_mul, z_div, z_mod, nI_clamp, z_lt, z_nlt, z_le, z_nle, z_ne, z_eq, z_in, not_true_eq_false, if_true, if_false, hs_at, hs_ne, hs_sort, hset_eq, vupp_eq, hs_over, List.length_set, vup_at, vup_ne, vup_over, vup_sort, mfs_len, n5_f, map_getD, List.length_map, gd_self, gd_ne, Nat.add_sub_cancel, mg_47, mg_48, ms_47, hM4]
    refine go h4 _ Fr_refl A4 ?_
    rw [fl_f q2]
    split <;> rfl
end MRD
