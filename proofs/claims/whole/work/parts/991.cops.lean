/-! small calls of the class, the rest -/
/-- THE TAPE's byte j, of its first n bits -/
def bsum (B : List Bool) (j : Nat) : Nat → Nat
  | 0 => 0
  | n + 1 => bsum B j n + (if B.getD (8 * j + n) false = true then 2 ^ n else 0)
theorem bsum_lt (B : List Bool) (j : Nat) : ∀ n, bsum B j n < 2 ^ n
  | 0 => by
    show 0 < 2 ^ 0
    decide
  | n + 1 => by
    have := bsum_lt B j n
    rw [bsum, Nat.pow_succ]
    split <;> omega
theorem bsum_bit (B : List Bool) (j : Nat) : ∀ n i, (bsum B j n).testBit i = (decide (i < n) && B.getD (8 * j + i) false)
  | 0, i => by simp [bsum]
  | n + 1, i => by
    have lt := bsum_lt B j n
    have ih := bsum_bit B j n i
    have lt2 := bsum_lt B j (n + 1)
    rcases Nat.lt_trichotomy i n with q | q | q
    · rw [decide_eq_true (by omega : i < n)] at ih
      rw [decide_eq_true (by omega : i < n + 1), bsum]
      by_cases b : B.getD (8 * j + n) false = true
      · rw [if_pos b, Nat.add_comm, Nat.testBit_two_pow_add_gt q, ih]
      · rw [if_neg b, Nat.add_zero, ih]
    · subst q
      rw [decide_eq_false (by omega : ¬ i < i)] at ih
      rw [decide_eq_true (by omega : i < i + 1), bsum]
      by_cases b : B.getD (8 * j + i) false = true
      · rw [if_pos b, Nat.add_comm, Nat.testBit_two_pow_add_eq, ih, b]
        rfl
      · rw [if_neg b, Nat.add_zero, ih]
        simp only [Bool.not_eq_true] at b
        rw [b]
        rfl
    · rw [decide_eq_false (by omega : ¬ i < n + 1), Bool.false_and]
      exact Nat.testBit_lt_two_pow (Nat.lt_of_lt_of_le lt2 (Nat.pow_le_pow_right (by decide) (by omega)))
theorem tb_c {row : List Int32} {B : List Bool} {j : Nat} (w : wOK row B) (hj : 8 * j + 8 ≤ B.length) (hB : B.length ≤ 3200) : row.getD j 0 = nI (bsum B j 8) := by
  refine b_ext (fun i hi => ?_)
  rw [b_nat _ _ hi, bsum_bit]
  by_cases q : i < 8
  · have g : 8 * j + i < B.length := by omega
    have e := w.2.2 (8 * j + i) _ (List.getElem?_eq_getElem g) (by omega)
    rw [show (8 * j + i) / 8 = j by omega, show (8 * j + i) % 8 = i by omega] at e
    rw [e, decide_eq_true q, Bool.true_and, List.getD_eq_getElem?_getD, List.getElem?_eq_getElem g, Option.getD_some]
  · rw [w.2.1 j i (by omega), decide_eq_false q, Bool.false_and]
/-- THE TAPE with a bit the other way -/
def fpB (B : List Bool) (j : Nat) : List Bool := B.set j (!B.getD j false)
theorem fpB_len {B : List Bool} {j : Nat} : (fpB B j).length = B.length := by
  unfold fpB
  rw [List.length_set]
theorem wOK_fp {row : List Int32} {B : List Bool} {j k : Nat} (w : wOK row B) (hk : k < 8) (hj : j < 400) : wOK (row.set j (row.getD j 0 ^^^ nI 1 <<< (nI k &&& 31))) (fpB B (8 * j + k)) := by
  have hl := w.1
  have e1 : ∀ i, i < 32 → bt (row.getD j 0 ^^^ nI 1 <<< (nI k &&& 31)) i = (bt (row.getD j 0) i ^^ decide (i = k)) := fun i hi => by
    rw [b_xor, b_shl k (by omega) _ hi, b_1]
    by_cases q : i = k
    · rw [q, Nat.sub_self, decide_eq_true (Nat.le_refl k), decide_eq_true rfl, decide_eq_true rfl]
      rfl
    · rw [decide_eq_false q]
      by_cases q2 : k ≤ i
      · rw [decide_eq_false (by omega : ¬ i - k = 0), Bool.and_false]
      · rw [decide_eq_false q2, Bool.false_and]
  refine ⟨by rw [List.length_set]; exact hl, fun m i hi => ?_, fun i b hb hi => ?_⟩
  · by_cases q : j = m
    · rw [← q, gd_self (by omega)]
      by_cases h32 : i < 32
      · rw [e1 i h32, w.2.1 j i hi, decide_eq_false (by omega : ¬ i = k)]
        rfl
      · exact b_big (by omega)
    · rw [gd_ne q]
      exact w.2.1 m i hi
  · unfold fpB at hb
    by_cases q : j = i / 8
    · rw [← q, gd_self (by omega), e1 _ (by omega)]
      by_cases q2 : 8 * j + k = i
      · have g : i < B.length := by
          have := (List.getElem?_eq_some_iff.mp hb).1
          rwa [List.length_set] at this
        rw [q2, List.getElem?_set_self g] at hb
        have hb2 : (!B.getD i false) = b := by simpa using hb
        have o := w.2.2 i _ (List.getElem?_eq_getElem g) hi
        rw [← q] at o
        rw [o, ← hb2, List.getD_eq_getElem?_getD, List.getElem?_eq_getElem g, Option.getD_some, decide_eq_true (by omega : i % 8 = k)]
        cases B[i] <;> rfl
      · rw [List.getElem?_set_ne q2] at hb
        have o := w.2.2 i b hb hi
        rw [← q] at o
        rw [o, decide_eq_false (by omega : ¬ i % 8 = k), Bool.xor_false]
    · rw [List.getElem?_set_ne (by omega)] at hb
      rw [gd_ne q]
      exact w.2.2 i b hb hi
theorem wOK_more {row : List Int32} {B : List Bool} {v : Nat} (w : wOK row B) (hv : v < 256) (h8 : B.length % 8 = 0) (hl : B.length < 3200) : wOK (row.set (B.length / 8) (nI v)) (B ++ fb (nI v) 0 8) := by
  have wl := w.1
  have hi8 : ∀ i, 8 ≤ i → bt (nI v) i = false := fun i hi => by
    by_cases h32 : i < 32
    · rw [b_nat _ _ h32]
      exact Nat.testBit_lt_two_pow (Nat.lt_of_lt_of_le hv (by rw [show 256 = 2 ^ 8 by rfl]; exact Nat.pow_le_pow_right (by decide) hi))
    · exact b_big (by omega)
  refine ⟨by rw [List.length_set]; exact wl, fun m i hi => ?_, fun i b hb hi => ?_⟩
  · by_cases q : B.length / 8 = m
    · rw [← q, gd_self (by omega)]
      exact hi8 i hi
    · rw [gd_ne q]
      exact w.2.1 m i hi
  · by_cases q : i < B.length
    · rw [List.getElem?_append_left q] at hb
      rw [gd_ne (by omega)]
      exact w.2.2 i b hb hi
    · rw [List.getElem?_append_right (by omega)] at hb
      have hlt : i - B.length < 8 := by
        have := (List.getElem?_eq_some_iff.mp hb).1
        rwa [fb_len] at this
      rw [show i / 8 = B.length / 8 by omega, gd_self (by omega), show i % 8 = i - B.length by omega]
      unfold fb at hb
      rw [List.getElem?_map, List.getElem?_range' (by omega)] at hb
      simpa using hb
/-- a number of a BLOCK -/
def ntF (t : Nt) (w : Nat) : Nat := if w = 0 then t.1 else if w = 1 then t.2.1 else if w = 2 then t.2.2.1 else if w = 3 then t.2.2.2.1 else t.2.2.2.2
/-- a number of a step -/
def stW (t : St) (w : Nat) : Int32 := if w = 0 then nI t.1 else if w = 1 then nI t.2.1 else t.2.2
/-- a row of widths -/
def owF (x : Ow) (w : Nat) : List Nat := if w = 0 then x.1 else if w = 1 then x.2.1 else x.2.2
def owN (w : Nat) : Nat := if w = 0 then 286 else if w = 1 then 30 else 19
/-- steps of DATA -/
def sD (D C : List Nat) : List St := steps (lD D) C D.length
theorem sD_eq {l : List Int32} {D C : List Nat} (e : l.take D.length = D.map nI) (hn : D.length ≤ 300) : steps l C D.length = sD D C := by
  refine steps_congr (fun j hj => ?_)
  rw [E_at e hj, E_at lD_take hj]
theorem lsw2 {x : Int32} {a b : Int} {t u d : Nat} : db_lsw x [(0, a), (1, b)] [t, u] d = if x = nI 0 then t else if x = nI 1 then u else d := by
  show (if x = Int32.ofInt 0 then t else if x = Int32.ofInt 1 then u else d) = _
  rw [show Int32.ofInt 0 = nI 0 by decide +kernel, show Int32.ofInt 1 = nI 1 by decide +kernel]
section COPS
variable {P : Option Value → db_H → Prop} {h : db_H} {D C : List Nat} {B : List Bool} {N : List Nt} {own : Option Ow} {fp : Int32}
/-- refused calls of the class -/
theorem C19o {v : Int32} (hv : v < nI 0 ∨ (¬ v < nI 0 ∧ nI 255 < v)) (K : P (some (.int (-2))) h) : db_Go 19 0 [.ref 5, .int v] [] h P := by
  have e : (if v < nI 0 then nI 0 else if nI 255 < v then nI 0 else nI 1) = nI 0 := by
    rcases hv with a | ⟨a, b⟩
    · rw [if_pos a]
    · rw [if_neg a, if_pos b]
  simp (disch := first | omega | (simp only [List.length_set]; omega)) only [g_19_0, g_19_4, g_19_7, g_19_9, g_19_10, g_19_11, g_19_14, g_19_18, g_19_21, g_19_23, g_19_24, g_19_25, g_19_26, g_19_29, g_19_30, g_19_33, g_19_36, gs_nx, db_inx, gs_ldi, gs_lda, gs_ldn, List.getElem?_cons_zero, List.getElem?_cons_succ, List.set_cons_zero, List.set_cons_succ, gx5, fx_int, fx_ref, fx_null, px5, gs_lx, gs_ax, sx5, ft_int, ft_ref, ft_b0, ft_b1, c1_int, c1_ref, List.length_cons, List.length_nil, Nat.reduceAdd, Nat.reduceLT, Nat.reduceLeDiff, true_and, and_true, true_or, or_true, not_false_eq_true, Option.toList_some, Option.toList_none, List.nil_append, List.singleton_append, List.cons_append, ↓reduceIte, Bool.and_self, eq_self, z_max, z_min, nI_add, z_sub, z_dec, z_mul, z_div, z_mod, nI_clamp, z_lt, z_nlt, z_le, z_nle, z_ne, z_eq, z_in, not_true_eq_false, if_true, if_false, hs_at, hs_ne, hs_sort, hset_eq, vupp_eq, hs_over, List.length_set, vup_at, vup_ne, vup_over, vup_sort, mfs_len, n5_f, map_getD, List.length_map, gd_self, gd_ne, Nat.add_sub_cancel]
  refine c_19_1 (by simp) ?_
  refine m20 ?_
  rw [e]
  simp (disch := first | omega | (simp only [List.length_set]; omega)) only [g_19_0, g_19_4, g_19_7, g_19_9, g_19_10, g_19_11, g_19_14, g_19_18, g_19_21, g_19_23, g_19_24, g_19_25, g_19_26, g_19_29, g_19_30, g_19_33, g_19_36, gs_nx, db_inx, gs_ldi, gs_lda, gs_ldn, List.getElem?_cons_zero, List.getElem?_cons_succ, List.set_cons_zero, List.set_cons_succ, gx5, fx_int, fx_ref, fx_null, px5, gs_lx, gs_ax, sx5, ft_int, ft_ref, ft_b0, ft_b1, c1_int, c1_ref, List.length_cons, List.length_nil, Nat.reduceAdd, Nat.reduceLT, Nat.reduceLeDiff, true_and, and_true, true_or, or_true, not_false_eq_true, Option.toList_some, Option.toList_none, List.nil_append, List.singleton_append, List.cons_append, ↓reduceIte, Bool.and_self, eq_self, z_max, z_min, nI_add, z_sub, z_dec, z_mul, z_div, z_mod, nI_clamp, z_lt, z_nlt, z_le, z_nle, z_ne, z_eq, z_in, not_true_eq_false, if_true, if_false, hs_at, hs_ne, hs_sort, hset_eq, vupp_eq, hs_over, List.length_set, vup_at, vup_ne, vup_over, vup_sort, mfs_len, n5_f, map_getD, List.length_map, gd_self, gd_ne, Nat.add_sub_cancel]
  exact K
theorem C115o {v : Int32} (hv : v < nI 0 ∨ (¬ v < nI 0 ∧ nI 255 < v)) (K : P (some (.int (-2))) h) : db_Go 115 0 [.ref 5, .int v] [] h P := by
  have e : (if v < nI 0 then nI 0 else if nI 255 < v then nI 0 else nI 1) = nI 0 := by
    rcases hv with a | ⟨a, b⟩
    · rw [if_pos a]
    · rw [if_neg a, if_pos b]
  simp (disch := first | omega | (simp only [List.length_set]; omega)) only [g_115_0, g_115_4, g_115_7, g_115_9, g_115_10, g_115_11, g_115_14, g_115_18, g_115_21, g_115_22, g_115_25, g_115_28, g_115_31, g_115_33, gs_nx, db_inx, gs_ldi, gs_lda, gs_ldn, List.getElem?_cons_zero, List.getElem?_cons_succ, List.set_cons_zero, List.set_cons_succ, gx5, fx_int, fx_ref, fx_null, px5, gs_lx, gs_ax, sx5, ft_int, ft_ref, ft_b0, ft_b1, c1_int, c1_ref, List.length_cons, List.length_nil, Nat.reduceAdd, Nat.reduceLT, Nat.reduceLeDiff, true_and, and_true, true_or, or_true, not_false_eq_true, Option.toList_some, Option.toList_none, List.nil_append, List.singleton_append, List.cons_append, ↓reduceIte, Bool.and_self, eq_self, z_max, z_min, nI_add, z_sub, z_dec, z_mul, z_div, z_mod, nI_clamp, z_lt, z_nlt, z_le, z_nle, z_ne, z_eq, z_in, not_true_eq_false, if_true, if_false, hs_at, hs_ne, hs_sort, hset_eq, vupp_eq, hs_over, List.length_set, vup_at, vup_ne, vup_over, vup_sort, mfs_len, n5_f, map_getD, List.length_map, gd_self, gd_ne, Nat.add_sub_cancel]
  refine c_115_1 (by simp) ?_
  refine m20 ?_
  rw [e]
  simp (disch := first | omega | (simp only [List.length_set]; omega)) only [g_115_0, g_115_4, g_115_7, g_115_9, g_115_10, g_115_11, g_115_14, g_115_18, g_115_21, g_115_22, g_115_25, g_115_28, g_115_31, g_115_33, gs_nx, db_inx, gs_ldi, gs_lda, gs_ldn, List.getElem?_cons_zero, List.getElem?_cons_succ, List.set_cons_zero, List.set_cons_succ, gx5, fx_int, fx_ref, fx_null, px5, gs_lx, gs_ax, sx5, ft_int, ft_ref, ft_b0, ft_b1, c1_int, c1_ref, List.length_cons, List.length_nil, Nat.reduceAdd, Nat.reduceLT, Nat.reduceLeDiff, true_and, and_true, true_or, or_true, not_false_eq_true, Option.toList_some, Option.toList_none, List.nil_append, List.singleton_append, List.cons_append, ↓reduceIte, Bool.and_self, eq_self, z_max, z_min, nI_add, z_sub, z_dec, z_mul, z_div, z_mod, nI_clamp, z_lt, z_nlt, z_le, z_nle, z_ne, z_eq, z_in, not_true_eq_false, if_true, if_false, hs_at, hs_ne, hs_sort, hset_eq, vupp_eq, hs_over, List.length_set, vup_at, vup_ne, vup_over, vup_sort, mfs_len, n5_f, map_getD, List.length_map, gd_self, gd_ne, Nat.add_sub_cancel]
  exact K
theorem C23o {v : Int32} (hv : v < nI 1 ∨ (¬ v < nI 1 ∧ nI 299 < v)) (K : P (some (.int (-2))) h) : db_Go 23 0 [.ref 5, .int v] [] h P := by
  simp (disch := first | omega | (simp only [List.length_set]; omega)) only [g_23_0, g_23_1, g_23_2, g_23_5, g_23_6, g_23_9, g_23_12, g_23_14, g_23_15, g_23_16, g_23_19, g_23_23, g_23_26, g_23_28, g_23_29, g_23_30, g_23_31, g_23_34, g_23_35, g_23_38, g_23_41, gs_nx, db_inx, gs_ldi, gs_lda, gs_ldn, List.getElem?_cons_zero, List.getElem?_cons_succ, List.set_cons_zero, List.set_cons_succ, gx5, fx_int, fx_ref, fx_null, px5, gs_lx, gs_ax, sx5, ft_int, ft_ref, ft_b0, ft_b1, c1_int, c1_ref, List.length_cons, List.length_nil, Nat.reduceAdd, Nat.reduceLT, Nat.reduceLeDiff, true_and, and_true, true_or, or_true, not_false_eq_true, Option.toList_some, Option.toList_none, List.nil_append, List.singleton_append, List.cons_append, ↓reduceIte, Bool.and_self, eq_self, z_max, z_min, nI_add, z_sub, z_dec, z_mul, z_div, z_mod, nI_clamp, z_lt, z_nlt, z_le, z_nle, z_ne, z_eq, z_in, not_true_eq_false, if_true, if_false, hs_at, hs_ne, hs_sort, hset_eq, vupp_eq, hs_over, List.length_set, vup_at, vup_ne, vup_over, vup_sort, mfs_len, n5_f, map_getD, List.length_map, gd_self, gd_ne, Nat.add_sub_cancel]
  rcases hv with a | ⟨a, b⟩
  · rw [if_pos a]
    exact K
  · rw [if_neg a, if_neg (Int32.not_le.mpr b)]
    exact K
theorem C28o {f v : Int32} (hv : (f < nI 0 ∨ (¬ f < nI 0 ∧ nI 2 < f)) ∨ ((∃ k, k ≤ 2 ∧ f = nI k) ∧ (v < nI 0 ∨ (¬ v < nI 0 ∧ nI 3 < v)))) (K : P (some (.int (-2))) h) : db_Go 28 0 [.ref 5, .int f, .int v, .retAddr 0] [] h P := by
  simp (disch := first | omega | (simp only [List.length_set]; omega)) only [g_28_0, g_28_1, g_28_4, g_28_5, g_28_6, g_28_9, g_28_10, g_28_13, g_28_14, g_28_15, g_28_18, g_28_20, g_28_21, g_28_25, g_28_26, g_28_29, g_28_32, g_28_33, g_28_34, g_28_38, g_28_39, g_28_43, g_28_44, g_28_47, g_28_48, g_28_51, g_28_52, g_28_55, g_28_56, g_28_59, g_28_60, g_28_61, g_28_67, g_28_71, g_28_72, g_28_73, g_28_77, g_28_81, g_28_84, g_28_86, g_28_87, g_28_88, g_28_91, g_28_92, g_28_95, g_28_96, g_28_99, g_28_101, g_28_105, g_28_109, g_28_110, g_28_113, g_28_116, gs_nx, db_inx, gs_ldi, gs_lda, gs_ldn, List.getElem?_cons_zero, List.getElem?_cons_succ, List.set_cons_zero, List.set_cons_succ, gx5, fx_int, fx_ref, fx_null, px5, gs_lx, gs_ax, sx5, ft_int, ft_ref, ft_b0, ft_b1, c1_int, c1_ref, List.length_cons, List.length_nil, Nat.reduceAdd, Nat.reduceLT, Nat.reduceLeDiff, true_and, and_true, true_or, or_true, not_false_eq_true, Option.toList_some, Option.toList_none, List.nil_append, List.singleton_append, List.cons_append, ↓reduceIte, Bool.and_self, eq_self, z_max, z_min, nI_add, z_sub, z_dec, z_mul, z_div, z_mod, nI_clamp, z_lt, z_nlt, z_le, z_nle, z_ne, z_eq, z_in, not_true_eq_false, if_true, if_false, hs_at, hs_ne, hs_sort, hset_eq, vupp_eq, hs_over, List.length_set, vup_at, vup_ne, vup_over, vup_sort, mfs_len, n5_f, map_getD, List.length_map, gd_self, gd_ne, Nat.add_sub_cancel]
  rcases hv with (a | ⟨a, b⟩) | ⟨⟨k, hk, e⟩, (a | ⟨a, b⟩)⟩
  · rw [if_pos a]
    exact K
  · rw [if_neg a, if_pos b]
    exact K
  · rw [e, if_neg (nI_lt0 (by omega)), if_neg (nI_nlt hk (by decide)), if_pos a]
    exact K
  · rw [e, if_neg (nI_lt0 (by omega)), if_neg (nI_nlt hk (by decide)), if_neg a, if_neg (Int32.not_le.mpr b)]
    exact K
theorem C79o {f : Int32} (hv : f < nI 0 ∨ (¬ f < nI 0 ∧ nI 2 < f)) (K : P (some (.int (-2))) h) : db_Go 79 0 [.ref 5, .int f, .retAddr 0] [] h P := by
  simp (disch := first | omega | (simp only [List.length_set]; omega)) only [g_79_0, g_79_1, g_79_4, g_79_5, g_79_6, g_79_9, g_79_11, g_79_12, g_79_13, g_79_16, g_79_17, g_79_20, g_79_21, g_79_22, g_79_28, g_79_29, g_79_30, g_79_33, g_79_34, g_79_35, g_79_38, g_79_41, g_79_44, g_79_47, g_79_49, g_79_50, g_79_51, g_79_52, g_79_53, g_79_54, g_79_57, g_79_58, g_79_61, g_79_62, g_79_65, g_79_68, g_79_71, g_79_72, g_79_75, g_79_78, g_79_84, g_79_85, g_79_88, g_79_89, g_79_92, g_79_93, g_79_94, g_79_97, g_79_101, g_79_102, g_79_105, g_79_108, gs_nx, db_inx, gs_ldi, gs_lda, gs_ldn, List.getElem?_cons_zero, List.getElem?_cons_succ, List.set_cons_zero, List.set_cons_succ, gx5, fx_int, fx_ref, fx_null, px5, gs_lx, gs_ax, sx5, ft_int, ft_ref, ft_b0, ft_b1, c1_int, c1_ref, List.length_cons, List.length_nil, Nat.reduceAdd, Nat.reduceLT, Nat.reduceLeDiff, true_and, and_true, true_or, or_true, not_false_eq_true, Option.toList_some, Option.toList_none, List.nil_append, List.singleton_append, List.cons_append, ↓reduceIte, Bool.and_self, eq_self, z_max, z_min, nI_add, z_sub, z_dec, z_mul, z_div, z_mod, nI_clamp, z_lt, z_nlt, z_le, z_nle, z_ne, z_eq, z_in, not_true_eq_false, if_true, if_false, hs_at, hs_ne, hs_sort, hset_eq, vupp_eq, hs_over, List.length_set, vup_at, vup_ne, vup_over, vup_sort, mfs_len, n5_f, map_getD, List.length_map, gd_self, gd_ne, Nat.add_sub_cancel]
  rcases hv with a | ⟨a, b⟩
  · rw [if_pos a]
    exact K
  · rw [if_neg a, if_neg (Int32.not_le.mpr b)]
    exact K
theorem C105o {i v : Int32} (hv : v < nI 0 ∨ (¬ v < nI 0 ∧ nI 5 ≤ v)) (K : P (some (.int (-2))) h) : db_Go 105 0 [.ref 5, .int i, .int v] [] h P := by
  simp (disch := first | omega | (simp only [List.length_set]; omega)) only [g_105_0, g_105_1, g_105_4, g_105_5, g_105_6, g_105_9, g_105_11, g_105_12, g_105_13, g_105_16, g_105_17, g_105_21, gs_nx, db_inx, gs_ldi, gs_lda, gs_ldn, List.getElem?_cons_zero, List.getElem?_cons_succ, List.set_cons_zero, List.set_cons_succ, gx5, fx_int, fx_ref, fx_null, px5, gs_lx, gs_ax, sx5, ft_int, ft_ref, ft_b0, ft_b1, c1_int, c1_ref, List.length_cons, List.length_nil, Nat.reduceAdd, Nat.reduceLT, Nat.reduceLeDiff, true_and, and_true, true_or, or_true, not_false_eq_true, Option.toList_some, Option.toList_none, List.nil_append, List.singleton_append, List.cons_append, ↓reduceIte, Bool.and_self, eq_self, z_max, z_min, nI_add, z_sub, z_dec, z_mul, z_div, z_mod, nI_clamp, z_lt, z_nlt, z_le, z_nle, z_ne, z_eq, z_in, not_true_eq_false, if_true, if_false, hs_at, hs_ne, hs_sort, hset_eq, vupp_eq, hs_over, List.length_set, vup_at, vup_ne, vup_over, vup_sort, mfs_len, n5_f, map_getD, List.length_map, gd_self, gd_ne, Nat.add_sub_cancel]
  rcases hv with a | ⟨a, b⟩
  · rw [if_pos a]
    exact K
  · rw [if_neg a, if_neg (Int32.not_lt.mpr b)]
    exact K
theorem C110o {i v : Int32} (hv : v < nI 0 ∨ (¬ v < nI 0 ∧ nI 2 < v)) (K : P (some (.int (-2))) h) : db_Go 110 0 [.ref 5, .int i, .int v] [] h P := by
  simp (disch := first | omega | (simp only [List.length_set]; omega)) only [g_110_0, g_110_1, g_110_4, g_110_5, g_110_6, g_110_9, g_110_11, g_110_12, g_110_16, g_110_17, g_110_20, g_110_21, g_110_22, g_110_25, g_110_28, g_110_31, g_110_32, g_110_35, g_110_38, g_110_39, g_110_40, g_110_68, g_110_69, g_110_72, g_110_75, g_110_76, g_110_77, g_110_78, g_110_79, g_110_82, g_110_85, g_110_86, g_110_87, g_110_88, g_110_89, g_110_92, g_110_95, g_110_96, g_110_97, gs_nx, db_inx, gs_ldi, gs_lda, gs_ldn, List.getElem?_cons_zero, List.getElem?_cons_succ, List.set_cons_zero, List.set_cons_succ, gx5, fx_int, fx_ref, fx_null, px5, gs_lx, gs_ax, sx5, ft_int, ft_ref, ft_b0, ft_b1, c1_int, c1_ref, List.length_cons, List.length_nil, Nat.reduceAdd, Nat.reduceLT, Nat.reduceLeDiff, true_and, and_true, true_or, or_true, not_false_eq_true, Option.toList_some, Option.toList_none, List.nil_append, List.singleton_append, List.cons_append, ↓reduceIte, Bool.and_self, eq_self, z_max, z_min, nI_add, z_sub, z_dec, z_mul, z_div, z_mod, nI_clamp, z_lt, z_nlt, z_le, z_nle, z_ne, z_eq, z_in, not_true_eq_false, if_true, if_false, hs_at, hs_ne, hs_sort, hset_eq, vupp_eq, hs_over, List.length_set, vup_at, vup_ne, vup_over, vup_sort, mfs_len, n5_f, map_getD, List.length_map, gd_self, gd_ne, Nat.add_sub_cancel]
  rcases hv with a | ⟨a, b⟩
  · rw [if_pos a]
    exact K
  · rw [if_neg a, if_neg (Int32.not_le.mpr b)]
    exact K
/-- a CUT -/
theorem C23 {k : Nat} (hk : 1 ≤ k ∧ k < 300) (A : CI h D C B N own fp) (K0 : k ∈ C → ∀ h2, Cl h h2 → CI h2 D C B N own fp → P (some (.int (nI C.length))) h2) (K1 : k ∉ C → C.length < 2 → ∀ h2, Cl h h2 → CI h2 D (C ++ [k]) B N own fp → P (some (.int (nI (C.length + 1)))) h2) (K2 : k ∉ C → C.length = 2 → P (some (.int (-3))) h) : db_Go 23 0 [.ref 5, .int (nI k)] [] h P := by
  obtain ⟨hl, l, r, a, b, h5, A2, _, _, B2⟩ := CI_b A
  obtain ⟨d, e2, e3, ⟨cr, f10, f11, cr1, cr2, cr3, cr4⟩, e5⟩ := id A2
  have h5' := h5
  unfold tob at h5'
  have mm : nI k ∈ cr.take C.length ↔ k ∈ C := by
    rw [cr2]
    constructor
    · intro z
      obtain ⟨y, y1, y2⟩ := List.mem_map.mp z
      have := cr4 y y1
      have e := congrArg Int32.toNatClampNeg y2
      rw [nI_clamp (by omega), nI_clamp (by omega)] at e
      rw [← e]
      exact y1
    · intro z
      exact List.mem_map.mpr ⟨k, z, rfl⟩
  simp (disch := first | omega | (simp only [List.length_set]; omega)) only [g_23_0, g_23_1, g_23_2, g_23_5, g_23_6, g_23_9, g_23_12, g_23_14, g_23_15, g_23_16, g_23_19, g_23_23, g_23_26, g_23_28, g_23_29, g_23_30, g_23_31, g_23_34, g_23_35, g_23_38, g_23_41, gs_nx, db_inx, gs_ldi, gs_lda, gs_ldn, List.getElem?_cons_zero, List.getElem?_cons_succ, List.set_cons_zero, List.set_cons_succ, gx5, fx_int, fx_ref, fx_null, px5, gs_lx, gs_ax, sx5, ft_int, ft_ref, ft_b0, ft_b1, c1_int, c1_ref, List.length_cons, List.length_nil, Nat.reduceAdd, Nat.reduceLT, Nat.reduceLeDiff, true_and, and_true, true_or, or_true, not_false_eq_true, Option.toList_some, Option.toList_none, List.nil_append, List.singleton_append, List.cons_append, ↓reduceIte, Bool.and_self, eq_self, z_max, z_min, nI_add, z_sub, z_dec, z_mul, z_div, z_mod, nI_clamp, z_lt, z_nlt, z_le, z_nle, z_ne, z_eq, z_in, not_true_eq_false, if_true, if_false, hs_at, hs_ne, hs_sort, hset_eq, vupp_eq, hs_over, List.length_set, vup_at, vup_ne, vup_over, vup_sort, mfs_len, n5_f, map_getD, List.length_map, gd_self, gd_ne, Nat.add_sub_cancel, h5']
  refine c_23_20 (by simp) (n5_ge (by decide)) f10 ?_
  refine m24 f10 f11 (by omega) (by omega) (fun z => ?_) (fun z q => ?_) (fun z q => ?_)
  · have F1 : Fr [5] h (h.set 5 (.inr (11, [.ref 6, .ref 8, .ref 10, .ref 12, .ref 16, .ref 71, .ref a, .ref b, .int (nI 0), .int fp]))) := Fr_set (by decide)
    simp (disch := first | omega | (simp only [List.length_set]; omega)) only [g_23_0, g_23_1, g_23_2, g_23_5, g_23_6, g_23_9, g_23_12, g_23_14, g_23_15, g_23_16, g_23_19, g_23_23, g_23_26, g_23_28, g_23_29, g_23_30, g_23_31, g_23_34, g_23_35, g_23_38, g_23_41, gs_nx, db_inx, gs_ldi, gs_lda, gs_ldn, List.getElem?_cons_zero, List.getElem?_cons_succ, List.set_cons_zero, List.set_cons_succ, gx5, fx_int, fx_ref, fx_null, px5, gs_lx, gs_ax, sx5, ft_int, ft_ref, ft_b0, ft_b1, c1_int, c1_ref, List.length_cons, List.length_nil, Nat.reduceAdd, Nat.reduceLT, Nat.reduceLeDiff, true_and, and_true, true_or, or_true, not_false_eq_true, Option.toList_some, Option.toList_none, List.nil_append, List.singleton_append, List.cons_append, ↓reduceIte, Bool.and_self, eq_self, z_max, z_min, nI_add, z_sub, z_dec, z_mul, z_div, z_mod, nI_clamp, z_lt, z_nlt, z_le, z_nle, z_ne, z_eq, z_in, not_true_eq_false, if_true, if_false, hs_at, hs_ne, hs_sort, hset_eq, vupp_eq, hs_over, List.length_set, vup_at, vup_ne, vup_over, vup_sort, mfs_len, n5_f, map_getD, List.length_map, gd_self, gd_ne, Nat.add_sub_cancel, h5', f10]
    obtain ⟨c1, c2'⟩ := B2 _ l D C B false fp (Fr_mono F1 (by decide)) (by unfold tob; simp (disch := first | omega | (simp only [List.length_set]; omega)) only [hs_at, hs_ne, List.length_set]; rfl) (c2_fr F1 (by decide) A2) (fun z => absurd z (by decide))
    exact K0 (mm.mp z) _ c1 c2'
  · have q2 : C.length < 2 := by omega
    have F1 : Fr [5, 10, 11] h (((h.set 5 (.inr (11, [.ref 6, .ref 8, .ref 10, .ref 12, .ref 16, .ref 71, .ref a, .ref b, .int (nI 0), .int fp]))).set 10 (.inr (3, [.ref 11, .int (nI (C.length + 1))]))).set 11 (.inl (0, cr.set C.length (nI k)))) := Fr_s (Fr_s (Fr_set (by decide)) (by decide)) (by decide)
    simp (disch := first | omega | (simp only [List.length_set]; omega)) only [g_23_0, g_23_1, g_23_2, g_23_5, g_23_6, g_23_9, g_23_12, g_23_14, g_23_15, g_23_16, g_23_19, g_23_23, g_23_26, g_23_28, g_23_29, g_23_30, g_23_31, g_23_34, g_23_35, g_23_38, g_23_41, gs_nx, db_inx, gs_ldi, gs_lda, gs_ldn, List.getElem?_cons_zero, List.getElem?_cons_succ, List.set_cons_zero, List.set_cons_succ, gx5, fx_int, fx_ref, fx_null, px5, gs_lx, gs_ax, sx5, ft_int, ft_ref, ft_b0, ft_b1, c1_int, c1_ref, List.length_cons, List.length_nil, Nat.reduceAdd, Nat.reduceLT, Nat.reduceLeDiff, true_and, and_true, true_or, or_true, not_false_eq_true, Option.toList_some, Option.toList_none, List.nil_append, List.singleton_append, List.cons_append, ↓reduceIte, Bool.and_self, eq_self, z_max, z_min, nI_add, z_sub, z_dec, z_mul, z_div, z_mod, nI_clamp, z_lt, z_nlt, z_le, z_nle, z_ne, z_eq, z_in, not_true_eq_false, if_true, if_false, hs_at, hs_ne, hs_sort, hset_eq, vupp_eq, hs_over, List.length_set, vup_at, vup_ne, vup_over, vup_sort, mfs_len, n5_f, map_getD, List.length_map, gd_self, gd_ne, Nat.add_sub_cancel, h5']
    obtain ⟨c1, c2'⟩ := B2 _ l D (C ++ [k]) B false fp (Fr_mono F1 (by decide)) (by unfold tob; simp (disch := first | omega | (simp only [List.length_set]; omega)) only [hs_at, hs_ne, List.length_set]; rfl) ⟨cD_fr F1 (by decide) d, e2, e3, ⟨cr.set C.length (nI k), by rw [List.length_append, List.length_singleton]; simp (disch := first | omega | (simp only [List.length_set]; omega)) only [hs_at, hs_ne, List.length_set], by simp (disch := first | omega | (simp only [List.length_set]; omega)) only [hs_at, hs_ne, List.length_set], by rw [List.length_set]; exact cr1, E_push cr2 (by omega), by rw [List.length_append, List.length_singleton]; omega, fun v hv => (List.mem_append.mp hv).elim (cr4 v) (fun z => by rw [List.mem_singleton.mp z]; exact hk)⟩, cTp_fr F1 (by decide) e5⟩ (fun z => absurd z (by decide))
    exact K1 (fun y => z (mm.mpr y)) q2 _ c1 c2'
  · simp (disch := first | omega | (simp only [List.length_set]; omega)) only [g_23_0, g_23_1, g_23_2, g_23_5, g_23_6, g_23_9, g_23_12, g_23_14, g_23_15, g_23_16, g_23_19, g_23_23, g_23_26, g_23_28, g_23_29, g_23_30, g_23_31, g_23_34, g_23_35, g_23_38, g_23_41, gs_nx, db_inx, gs_ldi, gs_lda, gs_ldn, List.getElem?_cons_zero, List.getElem?_cons_succ, List.set_cons_zero, List.set_cons_succ, gx5, fx_int, fx_ref, fx_null, px5, gs_lx, gs_ax, sx5, ft_int, ft_ref, ft_b0, ft_b1, c1_int, c1_ref, List.length_cons, List.length_nil, Nat.reduceAdd, Nat.reduceLT, Nat.reduceLeDiff, true_and, and_true, true_or, or_true, not_false_eq_true, Option.toList_some, Option.toList_none, List.nil_append, List.singleton_append, List.cons_append, ↓reduceIte, Bool.and_self, eq_self, z_max, z_min, nI_add, z_sub, z_dec, z_mul, z_div, z_mod, nI_clamp, z_lt, z_nlt, z_le, z_nle, z_ne, z_eq, z_in, not_true_eq_false, if_true, if_false, hs_at, hs_ne, hs_sort, hset_eq, vupp_eq, hs_over, List.length_set, vup_at, vup_ne, vup_over, vup_sort, mfs_len, n5_f, map_getD, List.length_map, gd_self, gd_ne, Nat.add_sub_cancel]
    exact K2 (fun y => z (mm.mpr y)) (by omega)
/-- BLOCKS -/
theorem CI_L (A : CI h D C B N own fp) : 164 < h.length ∧ ∃ a b r fca, h[5]? = some (tob a b r fp) ∧ 117 ≤ a ∧ a ≤ 122 ∧ cL h a fca N own := by
  obtain ⟨hl, hz, l, r, a, b, fca, fcb, ja, jb, N', own', h5, a2, a3, a4, q1, q2, q3, q4, q5, q6, q7, q8⟩ := A
  exact ⟨hl, a, b, _, fca, h5, by omega, by omega, q7⟩
theorem C105 {i : Int32} {w : Nat} (hw : w < 5) (A : CI h D C B N own fp) (K : P (some (.int (if db_in i N.length = true then nI (ntF (N.getD i.toNatClampNeg (0, 0, 0, 0, 0)) w) else -1))) h) : db_Go 105 0 [.ref 5, .int i, .int (nI w)] [] h P := by
  obtain ⟨hl, a, b, r, fca, h5, ha1, ha2, c1, ⟨fa, c2', c3', c4', c5', c6⟩, c7⟩ := CI_L A
  unfold tob at h5
  have c1' := c1
  unfold lgO at c1'
  have hN := c3'.1
  have hd : N.length ≤ fa.length / 5 := by omega
  simp (disch := first | omega | (simp only [List.length_set]; omega)) only [g_105_0, g_105_1, g_105_4, g_105_5, g_105_6, g_105_9, g_105_11, g_105_12, g_105_13, g_105_16, g_105_17, g_105_21, gs_nx, db_inx, gs_ldi, gs_lda, gs_ldn, List.getElem?_cons_zero, List.getElem?_cons_succ, List.set_cons_zero, List.set_cons_succ, gx5, fx_int, fx_ref, fx_null, px5, gs_lx, gs_ax, sx5, ft_int, ft_ref, ft_b0, ft_b1, c1_int, c1_ref, List.length_cons, List.length_nil, Nat.reduceAdd, Nat.reduceLT, Nat.reduceLeDiff, true_and, and_true, true_or, or_true, not_false_eq_true, Option.toList_some, Option.toList_none, List.nil_append, List.singleton_append, List.cons_append, ↓reduceIte, Bool.and_self, eq_self, z_max, z_min, nI_add, z_sub, z_dec, z_mul, z_div, z_mod, nI_clamp, z_lt, z_nlt, z_le, z_nle, z_ne, z_eq, z_in, not_true_eq_false, if_true, if_false, hs_at, hs_ne, hs_sort, hset_eq, vupp_eq, hs_over, List.length_set, vup_at, vup_ne, vup_over, vup_sort, mfs_len, n5_f, map_getD, List.length_map, gd_self, gd_ne, Nat.add_sub_cancel, h5]
  refine c_105_18 (by simp) (n5_ge (by omega)) c1 ?_
  rcases in_or i (n := N.length) (by omega) with ⟨h1, j, hj, e⟩ | ⟨h1, hc⟩
  · rw [if_pos h1] at K
    subst e
    rw [nI_clamp (by omega)] at K
    have ht := c3'.2 j _ (List.getElem?_eq_getElem hj)
    rw [List.getD_eq_getElem?_getD, List.getElem?_eq_getElem hj, Option.getD_some] at K
    have hlt : j < fa.length / 5 := by omega
    simp (disch := first | omega | (simp only [List.length_set]; omega)) only [g_106_0, g_106_1, g_106_4, g_106_5, g_106_6, g_106_9, g_106_12, g_106_13, g_106_14, g_106_17, g_106_18, g_106_19, g_106_20, g_106_23, g_106_24, g_106_27, g_106_28, g_106_29, g_106_30, g_106_33, g_106_34, g_106_37, g_106_38, g_106_39, g_106_42, g_106_43, g_106_46, g_106_47, g_106_48, g_106_49, g_106_50, g_106_51, g_106_52, g_106_55, g_106_56, gs_nx, db_inx, gs_ldi, gs_lda, gs_ldn, List.getElem?_cons_zero, List.getElem?_cons_succ, List.set_cons_zero, List.set_cons_succ, gx5, fx_int, fx_ref, fx_null, px5, gs_lx, gs_ax, sx5, ft_int, ft_ref, ft_b0, ft_b1, c1_int, c1_ref, List.length_cons, List.length_nil, Nat.reduceAdd, Nat.reduceLT, Nat.reduceLeDiff, true_and, and_true, true_or, or_true, not_false_eq_true, Option.toList_some, Option.toList_none, List.nil_append, List.singleton_append, List.cons_append, ↓reduceIte, Bool.and_self, eq_self, z_max, z_min, nI_add, z_sub, z_dec, z_mul, z_div, z_mod, nI_clamp, z_lt, z_nlt, z_le, z_nle, z_ne, z_eq, z_in, not_true_eq_false, if_true, if_false, hs_at, hs_ne, hs_sort, hset_eq, vupp_eq, hs_over, List.length_set, vup_at, vup_ne, vup_over, vup_sort, mfs_len, n5_f, map_getD, List.length_map, gd_self, gd_ne, Nat.add_sub_cancel, c1', c2']
    simp (disch := first | omega | (simp only [List.length_set]; omega)) only [g_105_0, g_105_1, g_105_4, g_105_5, g_105_6, g_105_9, g_105_11, g_105_12, g_105_13, g_105_16, g_105_17, g_105_21, gs_nx, db_inx, gs_ldi, gs_lda, gs_ldn, List.getElem?_cons_zero, List.getElem?_cons_succ, List.set_cons_zero, List.set_cons_succ, gx5, fx_int, fx_ref, fx_null, px5, gs_lx, gs_ax, sx5, ft_int, ft_ref, ft_b0, ft_b1, c1_int, c1_ref, List.length_cons, List.length_nil, Nat.reduceAdd, Nat.reduceLT, Nat.reduceLeDiff, true_and, and_true, true_or, or_true, not_false_eq_true, Option.toList_some, Option.toList_none, List.nil_append, List.singleton_append, List.cons_append, ↓reduceIte, Bool.and_self, eq_self, z_max, z_min, nI_add, z_sub, z_dec, z_mul, z_div, z_mod, nI_clamp, z_lt, z_nlt, z_le, z_nle, z_ne, z_eq, z_in, not_true_eq_false, if_true, if_false, hs_at, hs_ne, hs_sort, hset_eq, vupp_eq, hs_over, List.length_set, vup_at, vup_ne, vup_over, vup_sort, mfs_len, n5_f, map_getD, List.length_map, gd_self, gd_ne, Nat.add_sub_cancel]
    have hw2 : w = 0 ∨ w = 1 ∨ w = 2 ∨ w = 3 ∨ w = 4 := by omega
    rcases hw2 with rfl | rfl | rfl | rfl | rfl
    · rw [show j * 5 + 0 = j * 5 by omega, ht.1]
      exact K
    · rw [ht.2.1]
      exact K
    · rw [ht.2.2.1]
      exact K
    · rw [ht.2.2.2.1]
      exact K
    · rw [ht.2.2.2.2]
      exact K
  · rw [if_neg (by rw [h1]; decide)] at K
    rcases hc with hc | ⟨hc, hc2⟩
    · simp (disch := first | omega | (simp only [List.length_set]; omega)) only [g_106_0, g_106_1, g_106_4, g_106_5, g_106_6, g_106_9, g_106_12, g_106_13, g_106_14, g_106_17, g_106_18, g_106_19, g_106_20, g_106_23, g_106_24, g_106_27, g_106_28, g_106_29, g_106_30, g_106_33, g_106_34, g_106_37, g_106_38, g_106_39, g_106_42, g_106_43, g_106_46, g_106_47, g_106_48, g_106_49, g_106_50, g_106_51, g_106_52, g_106_55, g_106_56, gs_nx, db_inx, gs_ldi, gs_lda, gs_ldn, List.getElem?_cons_zero, List.getElem?_cons_succ, List.set_cons_zero, List.set_cons_succ, gx5, fx_int, fx_ref, fx_null, px5, gs_lx, gs_ax, sx5, ft_int, ft_ref, ft_b0, ft_b1, c1_int, c1_ref, List.length_cons, List.length_nil, Nat.reduceAdd, Nat.reduceLT, Nat.reduceLeDiff, true_and, and_true, true_or, or_true, not_false_eq_true, Option.toList_some, Option.toList_none, List.nil_append, List.singleton_append, List.cons_append, ↓reduceIte, Bool.and_self, eq_self, z_max, z_min, nI_add, z_sub, z_dec, z_mul, z_div, z_mod, nI_clamp, z_lt, z_nlt, z_le, z_nle, z_ne, z_eq, z_in, not_true_eq_false, if_true, if_false, hs_at, hs_ne, hs_sort, hset_eq, vupp_eq, hs_over, List.length_set, vup_at, vup_ne, vup_over, vup_sort, mfs_len, n5_f, map_getD, List.length_map, gd_self, gd_ne, Nat.add_sub_cancel, c1', c2', hc]
      simp (disch := first | omega | (simp only [List.length_set]; omega)) only [g_105_0, g_105_1, g_105_4, g_105_5, g_105_6, g_105_9, g_105_11, g_105_12, g_105_13, g_105_16, g_105_17, g_105_21, gs_nx, db_inx, gs_ldi, gs_lda, gs_ldn, List.getElem?_cons_zero, List.getElem?_cons_succ, List.set_cons_zero, List.set_cons_succ, gx5, fx_int, fx_ref, fx_null, px5, gs_lx, gs_ax, sx5, ft_int, ft_ref, ft_b0, ft_b1, c1_int, c1_ref, List.length_cons, List.length_nil, Nat.reduceAdd, Nat.reduceLT, Nat.reduceLeDiff, true_and, and_true, true_or, or_true, not_false_eq_true, Option.toList_some, Option.toList_none, List.nil_append, List.singleton_append, List.cons_append, ↓reduceIte, Bool.and_self, eq_self, z_max, z_min, nI_add, z_sub, z_dec, z_mul, z_div, z_mod, nI_clamp, z_lt, z_nlt, z_le, z_nle, z_ne, z_eq, z_in, not_true_eq_false, if_true, if_false, hs_at, hs_ne, hs_sort, hset_eq, vupp_eq, hs_over, List.length_set, vup_at, vup_ne, vup_over, vup_sort, mfs_len, n5_f, map_getD, List.length_map, gd_self, gd_ne, Nat.add_sub_cancel]
      exact K
    · simp (disch := first | omega | (simp only [List.length_set]; omega)) only [g_106_0, g_106_1, g_106_4, g_106_5, g_106_6, g_106_9, g_106_12, g_106_13, g_106_14, g_106_17, g_106_18, g_106_19, g_106_20, g_106_23, g_106_24, g_106_27, g_106_28, g_106_29, g_106_30, g_106_33, g_106_34, g_106_37, g_106_38, g_106_39, g_106_42, g_106_43, g_106_46, g_106_47, g_106_48, g_106_49, g_106_50, g_106_51, g_106_52, g_106_55, g_106_56, gs_nx, db_inx, gs_ldi, gs_lda, gs_ldn, List.getElem?_cons_zero, List.getElem?_cons_succ, List.set_cons_zero, List.set_cons_succ, gx5, fx_int, fx_ref, fx_null, px5, gs_lx, gs_ax, sx5, ft_int, ft_ref, ft_b0, ft_b1, c1_int, c1_ref, List.length_cons, List.length_nil, Nat.reduceAdd, Nat.reduceLT, Nat.reduceLeDiff, true_and, and_true, true_or, or_true, not_false_eq_true, Option.toList_some, Option.toList_none, List.nil_append, List.singleton_append, List.cons_append, ↓reduceIte, Bool.and_self, eq_self, z_max, z_min, nI_add, z_sub, z_dec, z_mul, z_div, z_mod, nI_clamp, z_lt, z_nlt, z_le, z_nle, z_ne, z_eq, z_in, not_true_eq_false, if_true, if_false, hs_at, hs_ne, hs_sort, hset_eq, vupp_eq, hs_over, List.length_set, vup_at, vup_ne, vup_over, vup_sort, mfs_len, n5_f, map_getD, List.length_map, gd_self, gd_ne, Nat.add_sub_cancel, c1', c2', hc, hc2]
      simp (disch := first | omega | (simp only [List.length_set]; omega)) only [g_105_0, g_105_1, g_105_4, g_105_5, g_105_6, g_105_9, g_105_11, g_105_12, g_105_13, g_105_16, g_105_17, g_105_21, gs_nx, db_inx, gs_ldi, gs_lda, gs_ldn, List.getElem?_cons_zero, List.getElem?_cons_succ, List.set_cons_zero, List.set_cons_succ, gx5, fx_int, fx_ref, fx_null, px5, gs_lx, gs_ax, sx5, ft_int, ft_ref, ft_b0, ft_b1, c1_int, c1_ref, List.length_cons, List.length_nil, Nat.reduceAdd, Nat.reduceLT, Nat.reduceLeDiff, true_and, and_true, true_or, or_true, not_false_eq_true, Option.toList_some, Option.toList_none, List.nil_append, List.singleton_append, List.cons_append, ↓reduceIte, Bool.and_self, eq_self, z_max, z_min, nI_add, z_sub, z_dec, z_mul, z_div, z_mod, nI_clamp, z_lt, z_nlt, z_le, z_nle, z_ne, z_eq, z_in, not_true_eq_false, if_true, if_false, hs_at, hs_ne, hs_sort, hset_eq, vupp_eq, hs_over, List.length_set, vup_at, vup_ne, vup_over, vup_sort, mfs_len, n5_f, map_getD, List.length_map, gd_self, gd_ne, Nat.add_sub_cancel]
      exact K
/-- the law's own numbers -/
theorem C114 {k : Nat} (hk : 8 * k ≤ B.length) (A : CI h D C B N own fp) (K : ∀ h2, Cl h h2 → CI h2 D C (B.take (8 * k)) N own fp → P (some (.int (nI k))) h2) : db_Go 114 0 [.ref 5, .int (nI k)] [] h P := by
  obtain ⟨hl, l, r, a, b, h5, A2, _, sR, B2⟩ := CI_b A
  obtain ⟨d, e2, e3, e4, ⟨row, t8, t9, w, b8, bl⟩⟩ := id A2
  have h5' := h5
  unfold tob at h5'
  have hk2 : k ≤ B.length / 8 := by omega
  have F1 : Fr [8] h (h.set 8 (.inr (1, [.ref 9, .int (nI k)]))) := Fr_set (by decide)
  simp (disch := first | omega | (simp only [List.length_set]; omega)) only [g_114_0, g_114_1, g_114_4, g_114_5, g_114_6, g_114_9, g_114_12, g_114_15, g_114_17, g_114_18, g_114_19, g_114_22, g_114_23, g_114_26, g_114_27, gs_nx, db_inx, gs_ldi, gs_lda, gs_ldn, List.getElem?_cons_zero, List.getElem?_cons_succ, List.set_cons_zero, List.set_cons_succ, gx5, fx_int, fx_ref, fx_null, px5, gs_lx, gs_ax, sx5, ft_int, ft_ref, ft_b0, ft_b1, c1_int, c1_ref, List.length_cons, List.length_nil, Nat.reduceAdd, Nat.reduceLT, Nat.reduceLeDiff, true_and, and_true, true_or, or_true, not_false_eq_true, Option.toList_some, Option.toList_none, List.nil_append, List.singleton_append, List.cons_append, ↓reduceIte, Bool.and_self, eq_self, z_max, z_min, nI_add, z_sub, z_dec, z_mul, z_div, z_mod, nI_clamp, z_lt, z_nlt, z_le, z_nle, z_ne, z_eq, z_in, not_true_eq_false, if_true, if_false, hs_at, hs_ne, hs_sort, hset_eq, vupp_eq, hs_over, List.length_set, vup_at, vup_ne, vup_over, vup_sort, mfs_len, n5_f, map_getD, List.length_map, gd_self, gd_ne, Nat.add_sub_cancel, h5', t8]
  have bt8 : (B.take (8 * k)).length = 8 * k := by rw [List.length_take]; omega
  have eR : c2 (h.set 8 (.inr (1, [.ref 9, .int (nI k)]))) l D C (B.take (8 * k)) := ⟨cD_fr F1 (by decide) d, e2, e3, cC_fr F1 (by decide) e4, ⟨row, by rw [bt8, show 8 * k / 8 = k by omega]; simp (disch := first | omega | (simp only [List.length_set]; omega)) only [hs_at, hs_ne, List.length_set], Fr_get F1 (by decide) t9, wOK_take _ w, by omega, by omega⟩⟩
  obtain ⟨c1, c2'⟩ := B2 _ l D C _ r fp (Fr_mono F1 (by decide)) (Fr_get F1 (by decide) h5) eR (fun z => cR_fr F1 (by decide) (sR z))
  exact K _ c1 c2'
theorem C114o {v : Int32} (A : CI h D C B N own fp) (hv : v < nI 0 ∨ (¬ v < nI 0 ∧ nI (B.length / 8) < v)) (K : P (some (.int (-2))) h) : db_Go 114 0 [.ref 5, .int v] [] h P := by
  obtain ⟨hl, l, r, a, b, h5, A2, _, _, B2⟩ := CI_b A
  obtain ⟨d, e2, e3, e4, ⟨row, t8, t9, w, b8, bl⟩⟩ := id A2
  unfold tob at h5
  simp (disch := first | omega | (simp only [List.length_set]; omega)) only [g_114_0, g_114_1, g_114_4, g_114_5, g_114_6, g_114_9, g_114_12, g_114_15, g_114_17, g_114_18, g_114_19, g_114_22, g_114_23, g_114_26, g_114_27, gs_nx, db_inx, gs_ldi, gs_lda, gs_ldn, List.getElem?_cons_zero, List.getElem?_cons_succ, List.set_cons_zero, List.set_cons_succ, gx5, fx_int, fx_ref, fx_null, px5, gs_lx, gs_ax, sx5, ft_int, ft_ref, ft_b0, ft_b1, c1_int, c1_ref, List.length_cons, List.length_nil, Nat.reduceAdd, Nat.reduceLT, Nat.reduceLeDiff, true_and, and_true, true_or, or_true, not_false_eq_true, Option.toList_some, Option.toList_none, List.nil_append, List.singleton_append, List.cons_append, ↓reduceIte, Bool.and_self, eq_self, z_max, z_min, nI_add, z_sub, z_dec, z_mul, z_div, z_mod, nI_clamp, z_lt, z_nlt, z_le, z_nle, z_ne, z_eq, z_in, not_true_eq_false, if_true, if_false, hs_at, hs_ne, hs_sort, hset_eq, vupp_eq, hs_over, List.length_set, vup_at, vup_ne, vup_over, vup_sort, mfs_len, n5_f, map_getD, List.length_map, gd_self, gd_ne, Nat.add_sub_cancel, h5, t8]
  rcases hv with q | ⟨q, q2⟩
  · rw [if_pos q]
    exact K
  · rw [if_neg q, if_neg (Int32.not_le.mpr q2)]
    exact K
theorem C112 {v : Int32} (A : CI h D C B N own fp) (K : P (some (.int (if db_in v (B.length / 8) = true then nI (bsum B v.toNatClampNeg 8) else -1))) h) : db_Go 112 0 [.ref 5, .int v] [] h P := by
  obtain ⟨hl, l, r, a, b, h5, A2, _, _, B2⟩ := CI_b A
  obtain ⟨d, e2, e3, e4, ⟨row, t8, t9, w, b8, bl⟩⟩ := id A2
  have wl := w.1
  unfold tob at h5
  simp (disch := first | omega | (simp only [List.length_set]; omega)) only [g_112_0, g_112_1, g_112_4, g_112_8, gs_nx, db_inx, gs_ldi, gs_lda, gs_ldn, List.getElem?_cons_zero, List.getElem?_cons_succ, List.set_cons_zero, List.set_cons_succ, gx5, fx_int, fx_ref, fx_null, px5, gs_lx, gs_ax, sx5, ft_int, ft_ref, ft_b0, ft_b1, c1_int, c1_ref, List.length_cons, List.length_nil, Nat.reduceAdd, Nat.reduceLT, Nat.reduceLeDiff, true_and, and_true, true_or, or_true, not_false_eq_true, Option.toList_some, Option.toList_none, List.nil_append, List.singleton_append, List.cons_append, ↓reduceIte, Bool.and_self, eq_self, z_max, z_min, nI_add, z_sub, z_dec, z_mul, z_div, z_mod, nI_clamp, z_lt, z_nlt, z_le, z_nle, z_ne, z_eq, z_in, not_true_eq_false, if_true, if_false, hs_at, hs_ne, hs_sort, hset_eq, vupp_eq, hs_over, List.length_set, vup_at, vup_ne, vup_over, vup_sort, mfs_len, n5_f, map_getD, List.length_map, gd_self, gd_ne, Nat.add_sub_cancel, h5]
  refine c_112_5 (by simp) (n5_ge (by decide)) t8 ?_
  refine m26 (n5_ge (by decide)) t8 t9 (by omega) (by omega) ?_
  simp (disch := first | omega | (simp only [List.length_set]; omega)) only [g_112_0, g_112_1, g_112_4, g_112_8, gs_nx, db_inx, gs_ldi, gs_lda, gs_ldn, List.getElem?_cons_zero, List.getElem?_cons_succ, List.set_cons_zero, List.set_cons_succ, gx5, fx_int, fx_ref, fx_null, px5, gs_lx, gs_ax, sx5, ft_int, ft_ref, ft_b0, ft_b1, c1_int, c1_ref, List.length_cons, List.length_nil, Nat.reduceAdd, Nat.reduceLT, Nat.reduceLeDiff, true_and, and_true, true_or, or_true, not_false_eq_true, Option.toList_some, Option.toList_none, List.nil_append, List.singleton_append, List.cons_append, ↓reduceIte, Bool.and_self, eq_self, z_max, z_min, nI_add, z_sub, z_dec, z_mul, z_div, z_mod, nI_clamp, z_lt, z_nlt, z_le, z_nle, z_ne, z_eq, z_in, not_true_eq_false, if_true, if_false, hs_at, hs_ne, hs_sort, hset_eq, vupp_eq, hs_over, List.length_set, vup_at, vup_ne, vup_over, vup_sort, mfs_len, n5_f, map_getD, List.length_map, gd_self, gd_ne, Nat.add_sub_cancel]
  rcases in_or v (n := B.length / 8) (by omega) with ⟨h1, j, hj, e⟩ | ⟨h1, _⟩
  · rw [if_pos h1] at K ⊢
    rw [e, nI_clamp (by omega)] at K ⊢
    rw [tb_c w (by omega) bl]
    exact K
  · rw [if_neg (by rw [h1]; decide)] at K ⊢
    exact K
theorem C115 {k : Nat} (hk : k < 256) (A : CI h D C B N own fp) (K1 : B.length < 3200 → ∀ h2, Cl h h2 → CI h2 D C (B ++ fb (nI k) 0 8) N own fp → P (some (.int (nI (B.length / 8 + 1)))) h2) (K0 : B.length = 3200 → P (some (.int (-3))) h) : db_Go 115 0 [.ref 5, .int (nI k)] [] h P := by
  obtain ⟨hl, l, r, a, b, h5, A2, _, sR, B2⟩ := CI_b A
  obtain ⟨d, e2, e3, e4, ⟨row, t8, t9, w, b8, bl⟩⟩ := id A2
  have wl := w.1
  have h5' := h5
  unfold tob at h5'
  simp (disch := first | omega | (simp only [List.length_set]; omega)) only [g_115_0, g_115_4, g_115_7, g_115_9, g_115_10, g_115_11, g_115_14, g_115_18, g_115_21, g_115_22, g_115_25, g_115_28, g_115_31, g_115_33, gs_nx, db_inx, gs_ldi, gs_lda, gs_ldn, List.getElem?_cons_zero, List.getElem?_cons_succ, List.set_cons_zero, List.set_cons_succ, gx5, fx_int, fx_ref, fx_null, px5, gs_lx, gs_ax, sx5, ft_int, ft_ref, ft_b0, ft_b1, c1_int, c1_ref, List.length_cons, List.length_nil, Nat.reduceAdd, Nat.reduceLT, Nat.reduceLeDiff, true_and, and_true, true_or, or_true, not_false_eq_true, Option.toList_some, Option.toList_none, List.nil_append, List.singleton_append, List.cons_append, ↓reduceIte, Bool.and_self, eq_self, z_max, z_min, nI_add, z_sub, z_dec, z_mul, z_div, z_mod, nI_clamp, z_lt, z_nlt, z_le, z_nle, z_ne, z_eq, z_in, not_true_eq_false, if_true, if_false, hs_at, hs_ne, hs_sort, hset_eq, vupp_eq, hs_over, List.length_set, vup_at, vup_ne, vup_over, vup_sort, mfs_len, n5_f, map_getD, List.length_map, gd_self, gd_ne, Nat.add_sub_cancel]
  refine c_115_1 (by simp) ?_
  refine m20n hk ?_
  simp (disch := first | omega | (simp only [List.length_set]; omega)) only [g_115_0, g_115_4, g_115_7, g_115_9, g_115_10, g_115_11, g_115_14, g_115_18, g_115_21, g_115_22, g_115_25, g_115_28, g_115_31, g_115_33, gs_nx, db_inx, gs_ldi, gs_lda, gs_ldn, List.getElem?_cons_zero, List.getElem?_cons_succ, List.set_cons_zero, List.set_cons_succ, gx5, fx_int, fx_ref, fx_null, px5, gs_lx, gs_ax, sx5, ft_int, ft_ref, ft_b0, ft_b1, c1_int, c1_ref, List.length_cons, List.length_nil, Nat.reduceAdd, Nat.reduceLT, Nat.reduceLeDiff, true_and, and_true, true_or, or_true, not_false_eq_true, Option.toList_some, Option.toList_none, List.nil_append, List.singleton_append, List.cons_append, ↓reduceIte, Bool.and_self, eq_self, z_max, z_min, nI_add, z_sub, z_dec, z_mul, z_div, z_mod, nI_clamp, z_lt, z_nlt, z_le, z_nle, z_ne, z_eq, z_in, not_true_eq_false, if_true, if_false, hs_at, hs_ne, hs_sort, hset_eq, vupp_eq, hs_over, List.length_set, vup_at, vup_ne, vup_over, vup_sort, mfs_len, n5_f, map_getD, List.length_map, gd_self, gd_ne, Nat.add_sub_cancel, h5']
  refine c_115_15 (by simp) (n5_ge (by decide)) t8 ?_
  refine m21 (n5_ge (by decide)) t8 t9 (by omega) (by omega) (fun hr => ?_) (fun hr => ?_)
  · have K1 := K1 (by omega)
    have F1 : Fr [8, 9] h ((h.set 8 (.inr (1, [.ref 9, .int (nI (B.length / 8 + 1))]))).set 9 (.inl (0, row.set (B.length / 8) (nI k)))) := Fr_s (Fr_set (by decide)) (by decide)
    have bl8 : (B ++ fb (nI k) 0 8).length = B.length + 8 := by rw [List.length_append, fb_len]
    simp (disch := first | omega | (simp only [List.length_set]; omega)) only [g_115_0, g_115_4, g_115_7, g_115_9, g_115_10, g_115_11, g_115_14, g_115_18, g_115_21, g_115_22, g_115_25, g_115_28, g_115_31, g_115_33, gs_nx, db_inx, gs_ldi, gs_lda, gs_ldn, List.getElem?_cons_zero, List.getElem?_cons_succ, List.set_cons_zero, List.set_cons_succ, gx5, fx_int, fx_ref, fx_null, px5, gs_lx, gs_ax, sx5, ft_int, ft_ref, ft_b0, ft_b1, c1_int, c1_ref, List.length_cons, List.length_nil, Nat.reduceAdd, Nat.reduceLT, Nat.reduceLeDiff, true_and, and_true, true_or, or_true, not_false_eq_true, Option.toList_some, Option.toList_none, List.nil_append, List.singleton_append, List.cons_append, ↓reduceIte, Bool.and_self, eq_self, z_max, z_min, nI_add, z_sub, z_dec, z_mul, z_div, z_mod, nI_clamp, z_lt, z_nlt, z_le, z_nle, z_ne, z_eq, z_in, not_true_eq_false, if_true, if_false, hs_at, hs_ne, hs_sort, hset_eq, vupp_eq, hs_over, List.length_set, vup_at, vup_ne, vup_over, vup_sort, mfs_len, n5_f, map_getD, List.length_map, gd_self, gd_ne, Nat.add_sub_cancel, h5']
    have eR : c2 ((h.set 8 (.inr (1, [.ref 9, .int (nI (B.length / 8 + 1))]))).set 9 (.inl (0, row.set (B.length / 8) (nI k)))) l D C (B ++ fb (nI k) 0 8) := ⟨cD_fr F1 (by decide) d, e2, e3, cC_fr F1 (by decide) e4, ⟨row.set (B.length / 8) (nI k), by rw [bl8, show (B.length + 8) / 8 = B.length / 8 + 1 by omega]; simp (disch := first | omega | (simp only [List.length_set]; omega)) only [hs_at, hs_ne, List.length_set], by simp (disch := first | omega | (simp only [List.length_set]; omega)) only [hs_at, hs_ne, List.length_set], wOK_more w hk b8 (by omega), by omega, by omega⟩⟩
    obtain ⟨c1, c2'⟩ := B2 _ l D C _ r fp (Fr_mono F1 (by decide)) (Fr_get F1 (by decide) h5) eR (fun z => cR_fr F1 (by decide) (sR z))
    exact K1 _ c1 c2'
  · simp (disch := first | omega | (simp only [List.length_set]; omega)) only [g_115_0, g_115_4, g_115_7, g_115_9, g_115_10, g_115_11, g_115_14, g_115_18, g_115_21, g_115_22, g_115_25, g_115_28, g_115_31, g_115_33, gs_nx, db_inx, gs_ldi, gs_lda, gs_ldn, List.getElem?_cons_zero, List.getElem?_cons_succ, List.set_cons_zero, List.set_cons_succ, gx5, fx_int, fx_ref, fx_null, px5, gs_lx, gs_ax, sx5, ft_int, ft_ref, ft_b0, ft_b1, c1_int, c1_ref, List.length_cons, List.length_nil, Nat.reduceAdd, Nat.reduceLT, Nat.reduceLeDiff, true_and, and_true, true_or, or_true, not_false_eq_true, Option.toList_some, Option.toList_none, List.nil_append, List.singleton_append, List.cons_append, ↓reduceIte, Bool.and_self, eq_self, z_max, z_min, nI_add, z_sub, z_dec, z_mul, z_div, z_mod, nI_clamp, z_lt, z_nlt, z_le, z_nle, z_ne, z_eq, z_in, not_true_eq_false, if_true, if_false, hs_at, hs_ne, hs_sort, hset_eq, vupp_eq, hs_over, List.length_set, vup_at, vup_ne, vup_over, vup_sort, mfs_len, n5_f, map_getD, List.length_map, gd_self, gd_ne, Nat.add_sub_cancel]
    exact K0 (by omega)
theorem C113 {j k : Nat} (hj : j < B.length / 8) (hk : k < 8) (A : CI h D C B N own fp) (K : ∀ h2, Cl h h2 → CI h2 D C (fpB B (8 * j + k)) N own fp → P (some (.int (nI (bsum (fpB B (8 * j + k)) j 8)))) h2) : db_Go 113 0 [.ref 5, .int (nI j), .int (nI k)] [] h P := by
  obtain ⟨hl, l, r, a, b, h5, A2, _, sR, B2⟩ := CI_b A
  obtain ⟨d, e2, e3, e4, ⟨row, t8, t9, w, b8, bl⟩⟩ := id A2
  have wl := w.1
  have h5' := h5
  unfold tob at h5'
  have w2 := wOK_fp (j := j) w hk (by omega)
  have tb := tb_c (j := j) w2 (by rw [fpB_len]; omega) (by rw [fpB_len]; exact bl)
  rw [gd_self (by omega)] at tb
  have F1 : Fr [9] h (h.set 9 (.inl (0, row.set j (row.getD j 0 ^^^ nI 1 <<< (nI k &&& 31))))) := Fr_set (by decide)
  simp (disch := first | omega | (simp only [List.length_set]; omega)) only [g_113_0, g_113_1, g_113_4, g_113_5, g_113_7, g_113_10, g_113_11, g_113_14, g_113_18, g_113_21, g_113_23, g_113_24, g_113_25, g_113_28, g_113_31, g_113_32, g_113_33, g_113_34, g_113_35, g_113_36, g_113_37, g_113_38, g_113_39, g_113_40, g_113_43, g_113_46, g_113_47, g_113_48, gs_nx, db_inx, gs_ldi, gs_lda, gs_ldn, List.getElem?_cons_zero, List.getElem?_cons_succ, List.set_cons_zero, List.set_cons_succ, gx5, fx_int, fx_ref, fx_null, px5, gs_lx, gs_ax, sx5, ft_int, ft_ref, ft_b0, ft_b1, c1_int, c1_ref, List.length_cons, List.length_nil, Nat.reduceAdd, Nat.reduceLT, Nat.reduceLeDiff, true_and, and_true, true_or, or_true, not_false_eq_true, Option.toList_some, Option.toList_none, List.nil_append, List.singleton_append, List.cons_append, ↓reduceIte, Bool.and_self, eq_self, z_max, z_min, nI_add, z_sub, z_dec, z_mul, z_div, z_mod, nI_clamp, z_lt, z_nlt, z_le, z_nle, z_ne, z_eq, z_in, not_true_eq_false, if_true, if_false, hs_at, hs_ne, hs_sort, hset_eq, vupp_eq, hs_over, List.length_set, vup_at, vup_ne, vup_over, vup_sort, mfs_len, n5_f, map_getD, List.length_map, gd_self, gd_ne, Nat.add_sub_cancel, h5']
  refine c_113_15 (by simp) (n5_ge (by decide)) t8 ?_
  refine m27 (n5_ge (by decide)) t8 t9 (by omega) (by omega) ?_
  rw [if_pos (in_nI hj (by omega))]
  simp (disch := first | omega | (simp only [List.length_set]; omega)) only [g_113_0, g_113_1, g_113_4, g_113_5, g_113_7, g_113_10, g_113_11, g_113_14, g_113_18, g_113_21, g_113_23, g_113_24, g_113_25, g_113_28, g_113_31, g_113_32, g_113_33, g_113_34, g_113_35, g_113_36, g_113_37, g_113_38, g_113_39, g_113_40, g_113_43, g_113_46, g_113_47, g_113_48, gs_nx, db_inx, gs_ldi, gs_lda, gs_ldn, List.getElem?_cons_zero, List.getElem?_cons_succ, List.set_cons_zero, List.set_cons_succ, gx5, fx_int, fx_ref, fx_null, px5, gs_lx, gs_ax, sx5, ft_int, ft_ref, ft_b0, ft_b1, c1_int, c1_ref, List.length_cons, List.length_nil, Nat.reduceAdd, Nat.reduceLT, Nat.reduceLeDiff, true_and, and_true, true_or, or_true, not_false_eq_true, Option.toList_some, Option.toList_none, List.nil_append, List.singleton_append, List.cons_append, ↓reduceIte, Bool.and_self, eq_self, z_max, z_min, nI_add, z_sub, z_dec, z_mul, z_div, z_mod, nI_clamp, z_lt, z_nlt, z_le, z_nle, z_ne, z_eq, z_in, not_true_eq_false, if_true, if_false, hs_at, hs_ne, hs_sort, hset_eq, vupp_eq, hs_over, List.length_set, vup_at, vup_ne, vup_over, vup_sort, mfs_len, n5_f, map_getD, List.length_map, gd_self, gd_ne, Nat.add_sub_cancel, h5', t8, t9]
  have eR : c2 (h.set 9 (.inl (0, row.set j (row.getD j 0 ^^^ nI 1 <<< (nI k &&& 31))))) l D C (fpB B (8 * j + k)) := ⟨cD_fr F1 (by decide) d, e2, e3, cC_fr F1 (by decide) e4, ⟨_, by rw [fpB_len]; exact Fr_get F1 (by decide) t8, by simp (disch := first | omega | (simp only [List.length_set]; omega)) only [hs_at, hs_ne, List.length_set], w2, by rw [fpB_len]; exact b8, by rw [fpB_len]; exact bl⟩⟩
  obtain ⟨c1, c2'⟩ := B2 _ l D C _ r fp (Fr_mono F1 (by decide)) (Fr_get F1 (by decide) h5) eR (fun z => cR_fr F1 (by decide) (sR z))
  have K' := K _ c1 c2'
  rw [← tb] at K'
  exact K'
theorem C113o {i v : Int32} (A : CI h D C B N own fp) (hv : (v < nI 0 ∨ (¬ v < nI 0 ∧ nI 7 < v)) ∨ ((∃ k, k < 8 ∧ v = nI k) ∧ db_in i (B.length / 8) = false)) (K : P (some (.int (-2))) h) : db_Go 113 0 [.ref 5, .int i, .int v] [] h P := by
  obtain ⟨hl, l, r, a, b, h5, A2, _, _, B2⟩ := CI_b A
  obtain ⟨d, e2, e3, e4, ⟨row, t8, t9, w, b8, bl⟩⟩ := id A2
  have wl := w.1
  unfold tob at h5
  simp (disch := first | omega | (simp only [List.length_set]; omega)) only [g_113_0, g_113_1, g_113_4, g_113_5, g_113_7, g_113_10, g_113_11, g_113_14, g_113_18, g_113_21, g_113_23, g_113_24, g_113_25, g_113_28, g_113_31, g_113_32, g_113_33, g_113_34, g_113_35, g_113_36, g_113_37, g_113_38, g_113_39, g_113_40, g_113_43, g_113_46, g_113_47, g_113_48, gs_nx, db_inx, gs_ldi, gs_lda, gs_ldn, List.getElem?_cons_zero, List.getElem?_cons_succ, List.set_cons_zero, List.set_cons_succ, gx5, fx_int, fx_ref, fx_null, px5, gs_lx, gs_ax, sx5, ft_int, ft_ref, ft_b0, ft_b1, c1_int, c1_ref, List.length_cons, List.length_nil, Nat.reduceAdd, Nat.reduceLT, Nat.reduceLeDiff, true_and, and_true, true_or, or_true, not_false_eq_true, Option.toList_some, Option.toList_none, List.nil_append, List.singleton_append, List.cons_append, ↓reduceIte, Bool.and_self, eq_self, z_max, z_min, nI_add, z_sub, z_dec, z_mul, z_div, z_mod, nI_clamp, z_lt, z_nlt, z_le, z_nle, z_ne, z_eq, z_in, not_true_eq_false, if_true, if_false, hs_at, hs_ne, hs_sort, hset_eq, vupp_eq, hs_over, List.length_set, vup_at, vup_ne, vup_over, vup_sort, mfs_len, n5_f, map_getD, List.length_map, gd_self, gd_ne, Nat.add_sub_cancel, h5]
  rcases hv with (q | ⟨q, q2⟩) | ⟨⟨k, hk, e⟩, q⟩
  · rw [if_pos q]
    exact K
  · rw [if_neg q, if_pos q2]
    exact K
  · rw [e, if_neg (nI_lt0 (by omega)), if_neg (nI_nlt (by omega) (by decide))]
    refine c_113_15 (by simp) (n5_ge (by decide)) t8 ?_
    refine m27 (n5_ge (by decide)) t8 t9 (by omega) (by omega) ?_
    rw [if_neg (by rw [q]; decide)]
    simp (disch := first | omega | (simp only [List.length_set]; omega)) only [g_113_0, g_113_1, g_113_4, g_113_5, g_113_7, g_113_10, g_113_11, g_113_14, g_113_18, g_113_21, g_113_23, g_113_24, g_113_25, g_113_28, g_113_31, g_113_32, g_113_33, g_113_34, g_113_35, g_113_36, g_113_37, g_113_38, g_113_39, g_113_40, g_113_43, g_113_46, g_113_47, g_113_48, gs_nx, db_inx, gs_ldi, gs_lda, gs_ldn, List.getElem?_cons_zero, List.getElem?_cons_succ, List.set_cons_zero, List.set_cons_succ, gx5, fx_int, fx_ref, fx_null, px5, gs_lx, gs_ax, sx5, ft_int, ft_ref, ft_b0, ft_b1, c1_int, c1_ref, List.length_cons, List.length_nil, Nat.reduceAdd, Nat.reduceLT, Nat.reduceLeDiff, true_and, and_true, true_or, or_true, not_false_eq_true, Option.toList_some, Option.toList_none, List.nil_append, List.singleton_append, List.cons_append, ↓reduceIte, Bool.and_self, eq_self, z_max, z_min, nI_add, z_sub, z_dec, z_mul, z_div, z_mod, nI_clamp, z_lt, z_nlt, z_le, z_nle, z_ne, z_eq, z_in, not_true_eq_false, if_true, if_false, hs_at, hs_ne, hs_sort, hset_eq, vupp_eq, hs_over, List.length_set, vup_at, vup_ne, vup_over, vup_sort, mfs_len, n5_f, map_getD, List.length_map, gd_self, gd_ne, Nat.add_sub_cancel]
    exact K
end COPS
