/-! Bytes: has, get, add, adler, crc; the model's adler, crc -/
def fIx {α : Type} (f : α → Int32 → α) (l : List Int32) : Nat → Nat → α → α
  | _, 0, p => p
  | i, d + 1, p => fIx f l (i + 1) d (f p (l.getD i 0))
theorem fIx_eq {α : Type} (f : α → Int32 → α) (l : List Int32) : ∀ (d i : Nat) (p : α), i + d ≤ l.length → fIx f l i d p = ((l.drop i).take d).foldl f p
  | 0, i, p, _ => by simp [fIx]
  | d + 1, i, p, h => by
    have hi : i < l.length := by omega
    rw [fIx, fIx_eq f l d (i + 1) _ (by omega), List.drop_eq_getElem_cons hi, List.take_succ_cons, List.foldl_cons]
    congr 2
    rw [List.getD_eq_getElem?_getD, List.getElem?_eq_getElem hi, Option.getD_some]
theorem fIx_0 {α : Type} (f : α → Int32 → α) (l : List Int32) (n : Nat) (p : α) (h : n ≤ l.length) : fIx f l 0 n p = (l.take n).foldl f p := by
  rw [fIx_eq f l n 0 p (by omega), List.drop_zero]
def adS (p : Int32 × Int32) (d : Int32) : Int32 × Int32 := ((p.1 + d) - (p.1 + d) / nI 65521 * nI 65521, (p.2 + ((p.1 + d) - (p.1 + d) / nI 65521 * nI 65521)) - (p.2 + ((p.1 + d) - (p.1 + d) / nI 65521 * nI 65521)) / nI 65521 * nI 65521)
def adF (p : Int32 × Int32) : Int32 := p.2 <<< (nI 16 &&& 31) ||| p.1
/-- ADLER of a row of bytes -/
def adler (D : List Int32) : Int32 := adF (D.foldl adS (nI 1, nI 0))
def crT (c : Int32) : Int32 := if c &&& nI 1 = nI 1 then (c.toUInt32 >>> ((nI 1).toUInt32 &&& Int32.toUInt32 31)).toInt32 ^^^ (-306674912) else (c.toUInt32 >>> ((nI 1).toUInt32 &&& Int32.toUInt32 31)).toInt32
def crK : Nat → Int32 → Int32
  | 0, c => c
  | k + 1, c => crK k (crT c)
def crS (c d : Int32) : Int32 := crK 8 (c ^^^ d)
/-- CRC of a row of bytes -/
def crc (D : List Int32) : Int32 := D.foldl crS (-1) ^^^ (-1)
section BY
variable {h : db_H} {P : Option Value → db_H → Prop} {o n : Nat} {l : List Int32}
theorem m27 {i : Int32} (ho5 : ¬ o < db_n) (hb : h[o]? = some (.inr (1, [.ref (o + 1), .int (nI n)]))) (hr : h[o + 1]? = some (.inl (0, l))) (hn : n ≤ l.length) (hl : l.length < 2 ^ 31) (k : P (some (.int (if db_in i n = true then nI 1 else nI 0))) h) : db_Go 27 0 [.ref o, .int i] [] h P := by
  simp only [g_27_0, g_27_1, g_27_4, g_27_5, g_27_6, g_27_9, g_27_12, g_27_13, g_27_14, g_27_17, g_27_18, g_27_21, g_27_22, g_27_25, g_27_26, gs_nx, db_inx, gs_ldi, gs_lda, gs_ldn, List.getElem?_cons_zero, List.getElem?_cons_succ, List.set_cons_zero, List.set_cons_succ, gs_gx, fx_int, fx_ref, fx_null, gs_px, gs_lx, gs_ax, gs_sx, ft_int, ft_ref, ft_b0, ft_b1, c1_int, c1_ref, List.length_cons, List.length_nil, Nat.reduceAdd, Nat.reduceLT, Nat.reduceLeDiff, true_and, and_true, true_or, or_true, not_false_eq_true, Option.toList_some, Option.toList_none, List.nil_append, List.singleton_append, List.cons_append, hb, hr, ho5]
  rcases in_or i (n := n) (by omega) with ⟨h1, j, hj, rfl⟩ | ⟨h1, hc | ⟨hc, hc2⟩⟩
  · rw [h1, if_pos rfl] at k
    rw [if_neg (nI_lt0 (by omega)), if_neg (nI_ge hj (by omega)), if_neg (nI_ge (by omega) hl)]
    exact k
  · rw [h1, if_neg (by decide)] at k
    rw [if_pos hc]
    exact k
  · rw [h1, if_neg (by decide)] at k
    rw [if_neg hc, if_pos hc2]
    exact k
theorem m26 {i : Int32} (ho5 : ¬ o < db_n) (hb : h[o]? = some (.inr (1, [.ref (o + 1), .int (nI n)]))) (hr : h[o + 1]? = some (.inl (0, l))) (hn : n ≤ l.length) (hl : l.length < 2 ^ 31) (k : P (some (.int (if db_in i n = true then l.getD i.toNatClampNeg 0 else -1))) h) : db_Go 26 0 [.ref o, .int i] [] h P := by
  simp only [g_26_0, g_26_1, g_26_5, g_26_8, g_26_9, g_26_12, g_26_13, g_26_14, g_26_17, g_26_18, gs_nx, db_inx, gs_ldi, gs_lda, gs_ldn, List.getElem?_cons_zero, List.getElem?_cons_succ, List.set_cons_zero, List.set_cons_succ, gs_gx, fx_int, fx_ref, fx_null, gs_px, gs_lx, gs_ax, gs_sx, ft_int, ft_ref, ft_b0, ft_b1, c1_int, c1_ref, List.length_cons, List.length_nil, Nat.reduceAdd, Nat.reduceLT, Nat.reduceLeDiff, true_and, and_true, true_or, or_true, not_false_eq_true, Option.toList_some, Option.toList_none, List.nil_append, List.singleton_append, List.cons_append, hb, hr, ho5]
  refine c_26_2 (by decide) ho5 hb ?_
  refine m27 ho5 hb hr hn hl ?_
  simp only [g_26_0, g_26_1, g_26_5, g_26_8, g_26_9, g_26_12, g_26_13, g_26_14, g_26_17, g_26_18, gs_nx, db_inx, gs_ldi, gs_lda, gs_ldn, List.getElem?_cons_zero, List.getElem?_cons_succ, List.set_cons_zero, List.set_cons_succ, gs_gx, fx_int, fx_ref, fx_null, gs_px, gs_lx, gs_ax, gs_sx, ft_int, ft_ref, ft_b0, ft_b1, c1_int, c1_ref, List.length_cons, List.length_nil, Nat.reduceAdd, Nat.reduceLT, Nat.reduceLeDiff, true_and, and_true, true_or, or_true, not_false_eq_true, Option.toList_some, Option.toList_none, List.nil_append, List.singleton_append, List.cons_append, hb, hr, ho5]
  rcases in_or i (n := n) (by omega) with ⟨h1, j, hj, rfl⟩ | ⟨h1, hc⟩
  · rw [h1, if_pos rfl] at k
    rw [if_neg (show ¬ (if db_in (nI j) n = true then nI 1 else nI 0) = nI 0 by rw [h1]; decide)]
    exact ⟨in_nI (by omega) hl, k⟩
  · rw [h1, if_neg (by decide)] at k
    rw [if_pos (show (if db_in i n = true then nI 1 else nI 0) = nI 0 by rw [h1]; rfl)]
    exact k
theorem m21 {v : Int32} (ho5 : ¬ o < db_n) (hb : h[o]? = some (.inr (1, [.ref (o + 1), .int (nI n)]))) (hr : h[o + 1]? = some (.inl (0, l))) (hn : n ≤ l.length) (hl : l.length < 2 ^ 31)
    (k1 : n < l.length → P (some (.int (nI 1))) ((h.set (o + 1) (.inl (0, l.set n v))).set o (.inr (1, [.ref (o + 1), .int (nI (n + 1))])))) (k0 : ¬ n < l.length → P (some (.int (nI 0))) h) : db_Go 21 0 [.ref o, .int v] [] h P := by
  have hr5 : ¬ o + 1 < db_n := by omega
  have hne : ¬ o + 1 = o := by omega
  simp only [g_21_0, g_21_1, g_21_4, g_21_7, g_21_8, g_21_11, g_21_12, g_21_15, g_21_16, g_21_19, g_21_20, g_21_21, g_21_22, g_21_25, g_21_26, g_21_29, g_21_30, g_21_31, g_21_32, g_21_33, g_21_36, g_21_37, g_21_38, g_21_41, g_21_42, gs_nx, db_inx, gs_ldi, gs_lda, gs_ldn, List.getElem?_cons_zero, List.getElem?_cons_succ, List.set_cons_zero, List.set_cons_succ, gs_gx, fx_int, fx_ref, fx_null, gs_px, gs_lx, gs_ax, gs_sx, ft_int, ft_ref, ft_b0, ft_b1, c1_int, c1_ref, List.length_cons, List.length_nil, Nat.reduceAdd, Nat.reduceLT, Nat.reduceLeDiff, true_and, and_true, true_or, or_true, not_false_eq_true, Option.toList_some, Option.toList_none, List.nil_append, List.singleton_append, List.cons_append, hb, hr, ho5, hr5, hs_ne hne]
  rw [if_neg (nI_lt0 (by omega)), nI_clamp (by omega), nI_add]
  by_cases hc : n < l.length
  · rw [if_pos (nI_lt hc hl)]
    exact ⟨in_nI hc hl, k1 hc⟩
  · rw [if_neg (nI_nlt (by omega) (by omega))]
    exact k0 hc
theorem m73_loop (ho5 : ¬ o < db_n) (hb : h[o]? = some (.inr (1, [.ref (o + 1), .int (nI n)]))) (hr : h[o + 1]? = some (.inl (0, l))) (hn : n ≤ l.length) (hl : l.length < 2 ^ 31) : ∀ (d i : Nat) (a b : Int32), i + d = n → P (some (.int (adF (fIx adS l i d (a, b))))) h → db_Go 73 6 [.ref o, .int a, .int b, .int (nI i)] [] h P := by
  intro d
  induction d with
  | zero =>
    intro i a b hi k
    rw [g_73_6]
    simp only [g_73_0, g_73_1, g_73_2, g_73_3, g_73_4, g_73_5, g_73_7, g_73_8, g_73_11, g_73_14, g_73_15, g_73_16, g_73_19, g_73_20, g_73_23, g_73_24, g_73_25, g_73_28, g_73_29, g_73_30, g_73_31, g_73_33, g_73_34, g_73_35, g_73_36, g_73_37, g_73_38, g_73_40, g_73_41, g_73_42, g_73_45, g_73_48, g_73_49, g_73_51, g_73_52, g_73_53, g_73_54, gs_nx, db_inx, gs_ldi, gs_lda, gs_ldn, List.getElem?_cons_zero, List.getElem?_cons_succ, List.set_cons_zero, List.set_cons_succ, gs_gx, fx_int, fx_ref, fx_null, gs_px, gs_lx, gs_ax, gs_sx, ft_int, ft_ref, ft_b0, ft_b1, c1_int, c1_ref, List.length_cons, List.length_nil, Nat.reduceAdd, Nat.reduceLT, Nat.reduceLeDiff, true_and, and_true, true_or, or_true, not_false_eq_true, Option.toList_some, Option.toList_none, List.nil_append, List.singleton_append, List.cons_append, hb, hr, ho5]
    rw [if_pos (nI_le (by omega) (by omega))]
    exact k
  | succ d ih =>
    intro i a b hi k
    rw [g_73_6]
    simp only [g_73_0, g_73_1, g_73_2, g_73_3, g_73_4, g_73_5, g_73_7, g_73_8, g_73_11, g_73_14, g_73_15, g_73_16, g_73_19, g_73_20, g_73_23, g_73_24, g_73_25, g_73_28, g_73_29, g_73_30, g_73_31, g_73_33, g_73_34, g_73_35, g_73_36, g_73_37, g_73_38, g_73_40, g_73_41, g_73_42, g_73_45, g_73_48, g_73_49, g_73_51, g_73_52, g_73_53, g_73_54, gs_nx, db_inx, gs_ldi, gs_lda, gs_ldn, List.getElem?_cons_zero, List.getElem?_cons_succ, List.set_cons_zero, List.set_cons_succ, gs_gx, fx_int, fx_ref, fx_null, gs_px, gs_lx, gs_ax, gs_sx, ft_int, ft_ref, ft_b0, ft_b1, c1_int, c1_ref, List.length_cons, List.length_nil, Nat.reduceAdd, Nat.reduceLT, Nat.reduceLeDiff, true_and, and_true, true_or, or_true, not_false_eq_true, Option.toList_some, Option.toList_none, List.nil_append, List.singleton_append, List.cons_append, hb, hr, ho5]
    rw [if_neg (nI_ge (by omega) (by omega)), if_neg (nI_ge (by omega) hl), nI_clamp (by omega), nI_add]
    refine ⟨in_nI (by omega) hl, nI_ne0 (by decide) (by decide), nI_ne0 (by decide) (by decide), ?_⟩
    exact ih (i + 1) _ _ (by omega) k
theorem m73 (ho5 : ¬ o < db_n) (hb : h[o]? = some (.inr (1, [.ref (o + 1), .int (nI n)]))) (hr : h[o + 1]? = some (.inl (0, l))) (hn : n ≤ l.length) (hl : l.length < 2 ^ 31) (k : P (some (.int (adler (l.take n)))) h) : db_Go 73 0 [.ref o, .retAddr 0, .retAddr 0, .retAddr 0] [] h P := by
  simp only [g_73_0, g_73_1, g_73_2, g_73_3, g_73_4, g_73_5, g_73_7, g_73_8, g_73_11, g_73_14, g_73_15, g_73_16, g_73_19, g_73_20, g_73_23, g_73_24, g_73_25, g_73_28, g_73_29, g_73_30, g_73_31, g_73_33, g_73_34, g_73_35, g_73_36, g_73_37, g_73_38, g_73_40, g_73_41, g_73_42, g_73_45, g_73_48, g_73_49, g_73_51, g_73_52, g_73_53, g_73_54, gs_nx, db_inx, gs_ldi, gs_lda, gs_ldn, List.getElem?_cons_zero, List.getElem?_cons_succ, List.set_cons_zero, List.set_cons_succ, gs_gx, fx_int, fx_ref, fx_null, gs_px, gs_lx, gs_ax, gs_sx, ft_int, ft_ref, ft_b0, ft_b1, c1_int, c1_ref, List.length_cons, List.length_nil, Nat.reduceAdd, Nat.reduceLT, Nat.reduceLeDiff, true_and, and_true, true_or, or_true, not_false_eq_true, Option.toList_some, Option.toList_none, List.nil_append, List.singleton_append, List.cons_append]
  refine m73_loop ho5 hb hr hn hl n 0 _ _ (by omega) ?_
  rw [fIx_0 adS l n _ hn]
  exact k
theorem m75_in (i : Int32) : ∀ (d j : Nat) (c : Int32), j + d = 8 → db_Go 75 64 [.ref o, .int (crK d c), .int i, .int (nI 8)] [] h P → db_Go 75 32 [.ref o, .int c, .int i, .int (nI j)] [] h P := by
  intro d
  induction d with
  | zero =>
    intro j c hj k
    rw [g_75_32]
    simp only [g_75_33, g_75_35, gs_ldi, List.getElem?_cons_zero, List.getElem?_cons_succ]
    rw [show j = 8 by omega, if_pos (nI_le (Nat.le_refl 8) (by decide))]
    exact k
  | succ d ih =>
    intro j c hj k
    rw [g_75_32]
    simp only [g_75_0, g_75_1, g_75_2, g_75_3, g_75_4, g_75_5, g_75_6, g_75_9, g_75_12, g_75_13, g_75_14, g_75_17, g_75_18, g_75_21, g_75_22, g_75_23, g_75_26, g_75_27, g_75_28, g_75_29, g_75_30, g_75_31, g_75_33, g_75_35, g_75_38, g_75_39, g_75_40, g_75_41, g_75_42, g_75_45, g_75_46, g_75_47, g_75_48, g_75_50, g_75_51, g_75_54, g_75_55, g_75_56, g_75_57, g_75_58, g_75_61, g_75_67, g_75_70, g_75_71, g_75_72, g_75_73, gs_nx, db_inx, gs_ldi, gs_lda, gs_ldn, List.getElem?_cons_zero, List.getElem?_cons_succ, List.set_cons_zero, List.set_cons_succ, gs_gx, fx_int, fx_ref, fx_null, gs_px, gs_lx, gs_ax, gs_sx, ft_int, ft_ref, ft_b0, ft_b1, c1_int, c1_ref, List.length_cons, List.length_nil, Nat.reduceAdd, Nat.reduceLT, Nat.reduceLeDiff, true_and, and_true, true_or, or_true, not_false_eq_true, Option.toList_some, Option.toList_none, List.nil_append, List.singleton_append, List.cons_append]
    rw [if_neg (nI_ge (by omega) (by decide)), nI_add]
    have := ih (j + 1) (crT c) (by omega) k
    unfold crT at this
    by_cases hc : c &&& nI 1 = nI 1
    · rw [if_pos hc] at this
      rw [if_neg (not_not_intro hc)]
      exact this
    · rw [if_neg hc] at this
      rw [if_pos hc]
      exact this
theorem m75_loop (ho5 : ¬ o < db_n) (hb : h[o]? = some (.inr (1, [.ref (o + 1), .int (nI n)]))) (hr : h[o + 1]? = some (.inl (0, l))) (hn : n ≤ l.length) (hl : l.length < 2 ^ 31) : ∀ (d i : Nat) (c : Int32) (x : Value), i + d = n → P (some (.int (fIx crS l i d c ^^^ (-1)))) h → db_Go 75 4 [.ref o, .int c, .int (nI i), x] [] h P := by
  intro d
  induction d with
  | zero =>
    intro i c x hi k
    rw [g_75_4]
    simp only [g_75_0, g_75_1, g_75_2, g_75_3, g_75_5, g_75_6, g_75_9, g_75_12, g_75_13, g_75_14, g_75_17, g_75_18, g_75_21, g_75_22, g_75_23, g_75_26, g_75_27, g_75_28, g_75_29, g_75_30, g_75_31, g_75_33, g_75_35, g_75_38, g_75_39, g_75_40, g_75_41, g_75_42, g_75_45, g_75_46, g_75_47, g_75_48, g_75_50, g_75_51, g_75_54, g_75_55, g_75_56, g_75_57, g_75_58, g_75_61, g_75_64, g_75_67, g_75_70, g_75_71, g_75_72, g_75_73, gs_nx, db_inx, gs_ldi, gs_lda, gs_ldn, List.getElem?_cons_zero, List.getElem?_cons_succ, List.set_cons_zero, List.set_cons_succ, gs_gx, fx_int, fx_ref, fx_null, gs_px, gs_lx, gs_ax, gs_sx, ft_int, ft_ref, ft_b0, ft_b1, c1_int, c1_ref, List.length_cons, List.length_nil, Nat.reduceAdd, Nat.reduceLT, Nat.reduceLeDiff, true_and, and_true, true_or, or_true, not_false_eq_true, Option.toList_some, Option.toList_none, List.nil_append, List.singleton_append, List.cons_append, hb, hr, ho5]
    rw [if_pos (nI_le (by omega) (by omega))]
    exact k
  | succ d ih =>
    intro i c x hi k
    rw [g_75_4]
    simp only [g_75_0, g_75_1, g_75_2, g_75_3, g_75_5, g_75_6, g_75_9, g_75_12, g_75_13, g_75_14, g_75_17, g_75_18, g_75_21, g_75_22, g_75_23, g_75_26, g_75_27, g_75_28, g_75_29, g_75_30, g_75_31, g_75_33, g_75_35, g_75_38, g_75_39, g_75_40, g_75_41, g_75_42, g_75_45, g_75_46, g_75_47, g_75_48, g_75_50, g_75_51, g_75_54, g_75_55, g_75_56, g_75_57, g_75_58, g_75_61, g_75_64, g_75_67, g_75_70, g_75_71, g_75_72, g_75_73, gs_nx, db_inx, gs_ldi, gs_lda, gs_ldn, List.getElem?_cons_zero, List.getElem?_cons_succ, List.set_cons_zero, List.set_cons_succ, gs_gx, fx_int, fx_ref, fx_null, gs_px, gs_lx, gs_ax, gs_sx, ft_int, ft_ref, ft_b0, ft_b1, c1_int, c1_ref, List.length_cons, List.length_nil, Nat.reduceAdd, Nat.reduceLT, Nat.reduceLeDiff, true_and, and_true, true_or, or_true, not_false_eq_true, Option.toList_some, Option.toList_none, List.nil_append, List.singleton_append, List.cons_append, hb, hr, ho5]
    rw [if_neg (nI_ge (by omega) (by omega)), if_neg (nI_ge (by omega) hl), nI_clamp (by omega)]
    refine ⟨in_nI (by omega) hl, ?_⟩
    refine m75_in _ 8 0 _ rfl ?_
    simp only [g_75_0, g_75_1, g_75_2, g_75_3, g_75_5, g_75_6, g_75_9, g_75_12, g_75_13, g_75_14, g_75_17, g_75_18, g_75_21, g_75_22, g_75_23, g_75_26, g_75_27, g_75_28, g_75_29, g_75_30, g_75_31, g_75_33, g_75_35, g_75_38, g_75_39, g_75_40, g_75_41, g_75_42, g_75_45, g_75_46, g_75_47, g_75_48, g_75_50, g_75_51, g_75_54, g_75_55, g_75_56, g_75_57, g_75_58, g_75_61, g_75_64, g_75_67, g_75_70, g_75_71, g_75_72, g_75_73, gs_nx, db_inx, gs_ldi, gs_lda, gs_ldn, List.getElem?_cons_zero, List.getElem?_cons_succ, List.set_cons_zero, List.set_cons_succ, gs_gx, fx_int, fx_ref, fx_null, gs_px, gs_lx, gs_ax, gs_sx, ft_int, ft_ref, ft_b0, ft_b1, c1_int, c1_ref, List.length_cons, List.length_nil, Nat.reduceAdd, Nat.reduceLT, Nat.reduceLeDiff, true_and, and_true, true_or, or_true, not_false_eq_true, Option.toList_some, Option.toList_none, List.nil_append, List.singleton_append, List.cons_append]
    rw [nI_add]
    exact ih (i + 1) _ _ (by omega) k
theorem m75 (ho5 : ¬ o < db_n) (hb : h[o]? = some (.inr (1, [.ref (o + 1), .int (nI n)]))) (hr : h[o + 1]? = some (.inl (0, l))) (hn : n ≤ l.length) (hl : l.length < 2 ^ 31) (k : P (some (.int (crc (l.take n)))) h) : db_Go 75 0 [.ref o, .retAddr 0, .retAddr 0, .retAddr 0] [] h P := by
  simp only [g_75_0, g_75_1, g_75_2, g_75_3, g_75_5, g_75_6, g_75_9, g_75_12, g_75_13, g_75_14, g_75_17, g_75_18, g_75_21, g_75_22, g_75_23, g_75_26, g_75_27, g_75_28, g_75_29, g_75_30, g_75_31, g_75_33, g_75_35, g_75_38, g_75_39, g_75_40, g_75_41, g_75_42, g_75_45, g_75_46, g_75_47, g_75_48, g_75_50, g_75_51, g_75_54, g_75_55, g_75_56, g_75_57, g_75_58, g_75_61, g_75_64, g_75_67, g_75_70, g_75_71, g_75_72, g_75_73, gs_nx, db_inx, gs_ldi, gs_lda, gs_ldn, List.getElem?_cons_zero, List.getElem?_cons_succ, List.set_cons_zero, List.set_cons_succ, gs_gx, fx_int, fx_ref, fx_null, gs_px, gs_lx, gs_ax, gs_sx, ft_int, ft_ref, ft_b0, ft_b1, c1_int, c1_ref, List.length_cons, List.length_nil, Nat.reduceAdd, Nat.reduceLT, Nat.reduceLeDiff, true_and, and_true, true_or, or_true, not_false_eq_true, Option.toList_some, Option.toList_none, List.nil_append, List.singleton_append, List.cons_append]
  refine m75_loop ho5 hb hr hn hl n 0 _ _ (by omega) ?_
  rw [fIx_0 crS l n _ hn]
  exact k
end BY
