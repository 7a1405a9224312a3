/-! the writer's other methods -/
def fb (v : Int32) (i n : Nat) : List Bool := (List.range' i n).map (bt v)
theorem fb_succ (v : Int32) (i n : Nat) : fb v i (n + 1) = bt v i :: fb v (i + 1) n := by simp [fb, List.range'_succ]
theorem fb_len (v : Int32) (i n : Nat) : (fb v i n).length = n := by simp [fb]
theorem m36_loop {h : db_H} {P : Option Value → db_H → Prop} {v : Int32} {w : Nat} (hl : 18 < h.length) (hw : w ≤ 32) : ∀ (d i : Nat) (W : List Bool) (l : List Int32), i + d = w → wOK l W → W.length + d < 2 ^ 30 → (∀ l', wOK l' (W ++ fb v i d) → P none (wr h l' (W.length + d))) → db_Go 36 2 [.ref 17, .int v, .int (nI w), .int (nI i)] [] (wr h l W.length) P := by
  intro d
  induction d with
  | zero =>
    intro i W l hi hW hn k
    rw [g_36_2]
    simp only [g_36_0, g_36_1, g_36_3, g_36_4, g_36_7, g_36_8, g_36_9, g_36_10, g_36_14, g_36_17, g_36_20, gs_nx, db_inx, gs_ldi, gs_lda, gs_ldn, List.getElem?_cons_zero, List.getElem?_cons_succ, List.set_cons_zero, List.set_cons_succ, gs_gx, fx_int, fx_ref, fx_null, gs_px, gs_lx, gs_ax, gs_sx, ft_int, ft_ref, ft_b0, ft_b1, c1_int, c1_ref, List.length_cons, List.length_nil, Nat.reduceAdd, Nat.reduceLT, Nat.reduceLeDiff, true_and, and_true, true_or, or_true, not_false_eq_true, Option.toList_some, Option.toList_none, List.nil_append, List.singleton_append, List.cons_append]
    rw [if_pos (nI_le (by omega) (by omega))]
    have := k l (by simpa [fb] using hW)
    exact this
  | succ d ih =>
    intro i W l hi hW hn k
    rw [g_36_2]
    simp only [g_36_0, g_36_1, g_36_3, g_36_4, g_36_7, g_36_8, g_36_9, g_36_10, g_36_14, g_36_17, g_36_20, gs_nx, db_inx, gs_ldi, gs_lda, gs_ldn, List.getElem?_cons_zero, List.getElem?_cons_succ, List.set_cons_zero, List.set_cons_succ, gs_gx, fx_int, fx_ref, fx_null, gs_px, gs_lx, gs_ax, gs_sx, ft_int, ft_ref, ft_b0, ft_b1, c1_int, c1_ref, List.length_cons, List.length_nil, Nat.reduceAdd, Nat.reduceLT, Nat.reduceLeDiff, true_and, and_true, true_or, or_true, not_false_eq_true, Option.toList_some, Option.toList_none, List.nil_append, List.singleton_append, List.cons_append]
    rw [if_neg (nI_ge (by omega) (by omega))]
    refine c_36_11 (by decide) n5_17 (wr_17 hl) ?_
    refine m37 hl hW (by omega) (fun l' hW' => ?_)
    simp only [g_36_0, g_36_1, g_36_3, g_36_4, g_36_7, g_36_8, g_36_9, g_36_10, g_36_14, g_36_17, g_36_20, gs_nx, db_inx, gs_ldi, gs_lda, gs_ldn, List.getElem?_cons_zero, List.getElem?_cons_succ, List.set_cons_zero, List.set_cons_succ, gs_gx, fx_int, fx_ref, fx_null, gs_px, gs_lx, gs_ax, gs_sx, ft_int, ft_ref, ft_b0, ft_b1, c1_int, c1_ref, List.length_cons, List.length_nil, Nat.reduceAdd, Nat.reduceLT, Nat.reduceLeDiff, true_and, and_true, true_or, or_true, not_false_eq_true, Option.toList_some, Option.toList_none, List.nil_append, List.singleton_append, List.cons_append]
    rw [nI_add, show W.length + 1 = (W ++ [bt ((v.toUInt32 >>> ((nI i).toUInt32 &&& Int32.toUInt32 31)).toInt32) 0]).length by simp]
    refine ih (i + 1) _ l' (by omega) hW' (by simp; omega) (fun l2 h2 => ?_)
    have e : bt ((v.toUInt32 >>> ((nI i).toUInt32 &&& Int32.toUInt32 31)).toInt32) 0 = bt v i := b_ushr i (by omega) v 0
    rw [e, List.append_assoc, List.singleton_append, ← fb_succ] at h2
    have := k l2 h2
    rw [show (W ++ [bt ((v.toUInt32 >>> ((nI i).toUInt32 &&& Int32.toUInt32 31)).toInt32) 0]).length + d = W.length + (d + 1) by simp; omega]
    exact this
theorem m36 {h : db_H} {P : Option Value → db_H → Prop} {v : Int32} {w : Nat} {W : List Bool} {l : List Int32} (hl : 18 < h.length) (hw : w ≤ 32) (hW : wOK l W) (hn : W.length + w < 2 ^ 30) (k : ∀ l', wOK l' (W ++ fb v 0 w) → P none (wr h l' (W.length + w))) : db_Go 36 0 [.ref 17, .int v, .int (nI w), .retAddr 0] [] (wr h l W.length) P := by
  simp only [g_36_0, g_36_1, g_36_3, g_36_4, g_36_7, g_36_8, g_36_9, g_36_10, g_36_14, g_36_17, g_36_20, gs_nx, db_inx, gs_ldi, gs_lda, gs_ldn, List.getElem?_cons_zero, List.getElem?_cons_succ, List.set_cons_zero, List.set_cons_succ, gs_gx, fx_int, fx_ref, fx_null, gs_px, gs_lx, gs_ax, gs_sx, ft_int, ft_ref, ft_b0, ft_b1, c1_int, c1_ref, List.length_cons, List.length_nil, Nat.reduceAdd, Nat.reduceLT, Nat.reduceLeDiff, true_and, and_true, true_or, or_true, not_false_eq_true, Option.toList_some, Option.toList_none, List.nil_append, List.singleton_append, List.cons_append]
  exact m36_loop hl hw w 0 W l (by omega) hW hn k
theorem m34 {h : db_H} {P : Option Value → db_H → Prop} {b n : Nat} {l : List Int32} (hl : 18 < h.length) (hb : b < 2 ^ 31) (k : P none (wr h l b)) : db_Go 34 0 [.ref 17, .int (nI b)] [] (wr h l n) P := by
  have e17 := wr_17 (l := l) (n := n) hl
  simp only [g_34_0, g_34_1, g_34_2, g_34_3, g_34_6, g_34_9, gs_nx, db_inx, gs_ldi, gs_lda, gs_ldn, List.getElem?_cons_zero, List.getElem?_cons_succ, List.set_cons_zero, List.set_cons_succ, gs_gx, fx_int, fx_ref, fx_null, gs_px, gs_lx, gs_ax, gs_sx, ft_int, ft_ref, ft_b0, ft_b1, c1_int, c1_ref, List.length_cons, List.length_nil, Nat.reduceAdd, Nat.reduceLT, Nat.reduceLeDiff, true_and, and_true, true_or, or_true, not_false_eq_true, Option.toList_some, Option.toList_none, List.nil_append, List.singleton_append, List.cons_append, e17, n5_17]
  have e : (if nI 0 < nI b then nI b else nI 0) = nI b := by
    by_cases h0 : b = 0
    · subst h0
      split <;> rfl
    · rw [if_pos (nI_lt (by omega) hb)]
  rw [e, wr_n]
  exact k
theorem m76 {h : db_H} {P : Option Value → db_H → Prop} {n : Nat} {l : List Int32} (hl : 18 < h.length) (hn : n < 2 ^ 31) (k : P (some (.int (if n ≤ 3200 then nI 1 else nI 0))) (wr h l n)) : db_Go 76 0 [.ref 17] [] (wr h l n) P := by
  have e17 := wr_17 (l := l) (n := n) hl
  simp only [g_76_0, g_76_1, g_76_4, g_76_7, g_76_10, g_76_11, g_76_14, g_76_15, gs_nx, db_inx, gs_ldi, gs_lda, gs_ldn, List.getElem?_cons_zero, List.getElem?_cons_succ, List.set_cons_zero, List.set_cons_succ, gs_gx, fx_int, fx_ref, fx_null, gs_px, gs_lx, gs_ax, gs_sx, ft_int, ft_ref, ft_b0, ft_b1, c1_int, c1_ref, List.length_cons, List.length_nil, Nat.reduceAdd, Nat.reduceLT, Nat.reduceLeDiff, true_and, and_true, true_or, or_true, not_false_eq_true, Option.toList_some, Option.toList_none, List.nil_append, List.singleton_append, List.cons_append, e17, n5_17]
  by_cases hc : n ≤ 3200
  · rw [if_pos hc] at k
    rw [if_neg (nI_nlt hc (by decide))]
    exact k
  · rw [if_neg hc] at k
    rw [if_pos (nI_lt (by omega) hn)]
    exact k
/-- how many bits are wanting up to a byte's begin -/
def pad (n : Nat) : Nat := (8 - n % 8) % 8
theorem neg_a7 {n : Nat} (h : n < 2 ^ 31) : -nI n &&& nI 7 = nI (pad n) := by
  have h1 := pk_and (-nI n) (m := nI 7) 3 (by decide +kernel)
  rw [h1]
  have e : (-nI n).toBitVec.toNat = (2 ^ 32 - n) % 2 ^ 32 := by
    show (-(nI n).toBitVec).toNat = _
    rw [BitVec.toNat_neg, pk_tn (by omega)]
  rw [e]
  congr 1
  unfold pad
  omega
theorem m60 {h : db_H} {P : Option Value → db_H → Prop} {W : List Bool} {l : List Int32} (hl : 18 < h.length) (hW : wOK l W) (hn : W.length + 8 < 2 ^ 30) (k : ∀ l', wOK l' (W ++ List.replicate (pad W.length) false) → P none (wr h l' (W.length + pad W.length))) : db_Go 60 0 [.ref 17] [] (wr h l W.length) P := by
  have e17 := wr_17 (l := l) (n := W.length) hl
  have hp : pad W.length < 8 := Nat.mod_lt _ (by decide)
  simp only [g_60_0, g_60_1, g_60_2, g_60_3, g_60_6, g_60_7, g_60_9, g_60_13, gs_nx, db_inx, gs_ldi, gs_lda, gs_ldn, List.getElem?_cons_zero, List.getElem?_cons_succ, List.set_cons_zero, List.set_cons_succ, gs_gx, fx_int, fx_ref, fx_null, gs_px, gs_lx, gs_ax, gs_sx, ft_int, ft_ref, ft_b0, ft_b1, c1_int, c1_ref, List.length_cons, List.length_nil, Nat.reduceAdd, Nat.reduceLT, Nat.reduceLeDiff, true_and, and_true, true_or, or_true, not_false_eq_true, Option.toList_some, Option.toList_none, List.nil_append, List.singleton_append, List.cons_append, e17, n5_17]
  rw [neg_a7 (by omega)]
  refine c_60_10 (by decide) n5_17 e17 ?_
  refine m36 hl (by omega) hW (by omega) (fun l' h' => ?_)
  simp only [g_60_0, g_60_1, g_60_2, g_60_3, g_60_6, g_60_7, g_60_9, g_60_13, gs_nx, db_inx, gs_ldi, gs_lda, gs_ldn, List.getElem?_cons_zero, List.getElem?_cons_succ, List.set_cons_zero, List.set_cons_succ, gs_gx, fx_int, fx_ref, fx_null, gs_px, gs_lx, gs_ax, gs_sx, ft_int, ft_ref, ft_b0, ft_b1, c1_int, c1_ref, List.length_cons, List.length_nil, Nat.reduceAdd, Nat.reduceLT, Nat.reduceLeDiff, true_and, and_true, true_or, or_true, not_false_eq_true, Option.toList_some, Option.toList_none, List.nil_append, List.singleton_append, List.cons_append]
  refine k l' ?_
  have e : fb (nI 0) 0 (pad W.length) = List.replicate (pad W.length) false := by
    apply List.ext_getElem?
    intro i
    simp only [fb, List.getElem?_map, List.getElem?_range', List.getElem?_replicate]
    by_cases hi : i < pad W.length <;> simp [hi, show bt (nI 0) = bt 0 from rfl, b_0]
  rw [← e]
  exact h'
