/-! the writer's word; the model's field, align (its bits: row 146, their number in field 26) -/
def wb (n : Nat) : Nat → List Bool
  | 0 => []
  | w + 1 => bt (nI n) w :: wb n w
theorem wb_len (n : Nat) : ∀ w, (wb n w).length = w
  | 0 => rfl
  | w + 1 => by rw [wb, List.length_cons, wb_len n w]
section WD
variable {h : db_H} {P : Option Value → db_H → Prop} {o : Nat} {wo : List Int32} {ws : List Nat} {c3 c4 c5 c6 c7 : Value} {c8 c9 c10 : Int32}
theorem m63_loop (hl : 18 < h.length) (ho : 19 ≤ o) (hc : h[o]? = some (.inr (2, [.ref (o + 5), .ref (o + 6), c3, c4, c5, c6, c7, .int c8, .int c9, .int c10]))) (h6 : h[o + 6]? = some (.inl (0, wo))) (hwo : wo.length ≤ 288) {s n : Nat} (hs : s < wo.length) (hv : wo.getD s 0 = nI n) : ∀ (d : Nat) (W : List Bool) (l : List Int32), d ≤ 15 → wOK l W → W.length + d < 2 ^ 30 → (∀ l', wOK l' (W ++ wb n d) → P none (wr h l' (W.length + d))) → db_Go 63 22 [.ref 17, .ref o, .int (nI s), .int (nI d - nI 1)] [] (wr h l W.length) P := by
  have ho5 : ¬ o < db_n := by show ¬ o < 5; omega
  intro d
  induction d with
  | zero =>
    intro W l hd hW hn K
    rw [g_63_22]
    simp only [g_63_0, g_63_1, g_63_4, g_63_5, g_63_6, g_63_9, g_63_10, g_63_13, g_63_14, g_63_17, g_63_18, g_63_19, g_63_20, g_63_21, g_63_23, g_63_26, g_63_27, g_63_28, g_63_31, g_63_32, g_63_33, g_63_34, g_63_38, g_63_41, g_63_44, gs_nx, db_inx, gs_ldi, gs_lda, gs_ldn, List.getElem?_cons_zero, List.getElem?_cons_succ, List.set_cons_zero, List.set_cons_succ, gs_gx, fx_int, fx_ref, fx_null, gs_px, gs_lx, gs_ax, gs_sx, ft_int, ft_ref, ft_b0, ft_b1, c1_int, c1_ref, List.length_cons, List.length_nil, Nat.reduceAdd, Nat.reduceLT, Nat.reduceLeDiff, true_and, and_true, true_or, or_true, not_false_eq_true, Option.toList_some, Option.toList_none, List.nil_append, List.singleton_append, List.cons_append]
    rw [if_pos (show nI 0 - nI 1 < nI 0 by decide +kernel)]
    have := K l (by simpa [wb] using hW)
    exact this
  | succ d ih =>
    intro W l hd hW hn K
    have e17 := wr_17 (l := l) (n := W.length) hl
    have eo := (wr_ne (h := h) (l := l) (n := W.length) (k := o) (by omega) (by omega)).trans hc
    have e6 := (wr_ne (h := h) (l := l) (n := W.length) (k := o + 6) (by omega) (by omega)).trans h6
    rw [g_63_22]
    simp only [g_63_0, g_63_1, g_63_4, g_63_5, g_63_6, g_63_9, g_63_10, g_63_13, g_63_14, g_63_17, g_63_18, g_63_19, g_63_20, g_63_21, g_63_23, g_63_26, g_63_27, g_63_28, g_63_31, g_63_32, g_63_33, g_63_34, g_63_38, g_63_41, g_63_44, gs_nx, db_inx, gs_ldi, gs_lda, gs_ldn, List.getElem?_cons_zero, List.getElem?_cons_succ, List.set_cons_zero, List.set_cons_succ, gs_gx, fx_int, fx_ref, fx_null, gs_px, gs_lx, gs_ax, gs_sx, ft_int, ft_ref, ft_b0, ft_b1, c1_int, c1_ref, List.length_cons, List.length_nil, Nat.reduceAdd, Nat.reduceLT, Nat.reduceLeDiff, true_and, and_true, true_or, or_true, not_false_eq_true, Option.toList_some, Option.toList_none, List.nil_append, List.singleton_append, List.cons_append, eo, e6, ho5]
    rw [pk_sub (by omega), if_neg (nI_lt0 (by omega)), show d + 1 - 1 = d by omega, nI_clamp (by omega), hv]
    refine ⟨in_nI hs (by omega), ?_⟩
    refine c_63_35 (by simp) n5_17 e17 ?_
    refine m37 hl hW (by omega) (fun l' hW' => ?_)
    simp only [g_63_0, g_63_1, g_63_4, g_63_5, g_63_6, g_63_9, g_63_10, g_63_13, g_63_14, g_63_17, g_63_18, g_63_19, g_63_20, g_63_21, g_63_23, g_63_26, g_63_27, g_63_28, g_63_31, g_63_32, g_63_33, g_63_34, g_63_38, g_63_41, g_63_44, gs_nx, db_inx, gs_ldi, gs_lda, gs_ldn, List.getElem?_cons_zero, List.getElem?_cons_succ, List.set_cons_zero, List.set_cons_succ, gs_gx, fx_int, fx_ref, fx_null, gs_px, gs_lx, gs_ax, gs_sx, ft_int, ft_ref, ft_b0, ft_b1, c1_int, c1_ref, List.length_cons, List.length_nil, Nat.reduceAdd, Nat.reduceLT, Nat.reduceLeDiff, true_and, and_true, true_or, or_true, not_false_eq_true, Option.toList_some, Option.toList_none, List.nil_append, List.singleton_append, List.cons_append]
    have e1 : nI d + Int32.ofInt (-1) = nI d - nI 1 := by rw [m1_ofInt, Int32.sub_eq_add_neg]
    have e2 : bt (((nI n).toUInt32 >>> ((nI d).toUInt32 &&& Int32.toUInt32 31)).toInt32) 0 = bt (nI n) d := b_ushr d (by omega) (nI n) 0
    rw [e2] at hW'
    rw [e1, show W.length + 1 = (W ++ [bt (nI n) d]).length by simp]
    refine ih _ l' (by omega) hW' (by simp; omega) (fun l2 h2 => ?_)
    rw [List.append_assoc, List.singleton_append] at h2
    have := K l2 h2
    rw [show (W ++ [bt (nI n) d]).length + d = W.length + (d + 1) by simp; omega]
    exact this
/-- word: SYMBOL s of a CODE that is worked out -/
theorem m63 (hl : 18 < h.length) (ho : 19 ≤ o) (hc : h[o]? = some (.inr (2, [.ref (o + 5), .ref (o + 6), c3, c4, c5, c6, c7, .int c8, .int c9, .int c10]))) (h5 : h[o + 5]? = some (.inl (0, ws.map nI))) (h6 : h[o + 6]? = some (.inl (0, wo))) (hwl : ws.length ≤ 288) (h15 : ∀ x ∈ ws, x ≤ 15) (hwo : wo.length = ws.length) {s : Nat} (hs : s < ws.length) (hv : 0 < ws.getD s 0 → wo.getD s 0 = nI (wdN ws s)) {W : List Bool} {l : List Int32} (hW : wOK l W) (hn : W.length + 15 < 2 ^ 30)
    (K : ∀ l', wOK l' (W ++ wb (wdN ws s) (ws.getD s 0)) → P none (wr h l' (W.length + ws.getD s 0))) : db_Go 63 0 [.ref 17, .ref o, .int (nI s), .retAddr 0] [] (wr h l W.length) P := by
  have ho5 : ¬ o < db_n := by show ¬ o < 5; omega
  have eo := (wr_ne (h := h) (l := l) (n := W.length) (k := o) (by omega) (by omega)).trans hc
  have e5 := (wr_ne (h := h) (l := l) (n := W.length) (k := o + 5) (by omega) (by omega)).trans h5
  have hx : ws.getD s 0 ≤ 15 := by
    rw [List.getD_eq_getElem?_getD, List.getElem?_eq_getElem hs]
    exact h15 _ (List.getElem_mem hs)
  simp only [g_63_0, g_63_1, g_63_4, g_63_5, g_63_6, g_63_9, g_63_10, g_63_13, g_63_14, g_63_17, g_63_18, g_63_19, g_63_20, g_63_21, g_63_23, g_63_26, g_63_27, g_63_28, g_63_31, g_63_32, g_63_33, g_63_34, g_63_38, g_63_41, g_63_44, gs_nx, db_inx, gs_ldi, gs_lda, gs_ldn, List.getElem?_cons_zero, List.getElem?_cons_succ, List.set_cons_zero, List.set_cons_succ, gs_gx, fx_int, fx_ref, fx_null, gs_px, gs_lx, gs_ax, gs_sx, ft_int, ft_ref, ft_b0, ft_b1, c1_int, c1_ref, List.length_cons, List.length_nil, Nat.reduceAdd, Nat.reduceLT, Nat.reduceLeDiff, true_and, and_true, true_or, or_true, not_false_eq_true, Option.toList_some, Option.toList_none, List.nil_append, List.singleton_append, List.cons_append, eo, e5, ho5]
  rw [if_neg (nI_lt0 (by omega)), List.length_map, if_neg (nI_ge hs (by omega)), nI_clamp (by omega), map_getD hs]
  refine ⟨in_nI hs (by omega), ?_⟩
  by_cases h0 : 0 < ws.getD s 0
  · exact m63_loop hl ho hc h6 (by omega) (by omega) (hv h0) (ws.getD s 0) W l hx hW (by omega) K
  · have hz : ws.getD s 0 = 0 := by omega
    rw [hz] at K ⊢
    rw [g_63_22]
    simp only [g_63_0, g_63_1, g_63_4, g_63_5, g_63_6, g_63_9, g_63_10, g_63_13, g_63_14, g_63_17, g_63_18, g_63_19, g_63_20, g_63_21, g_63_23, g_63_26, g_63_27, g_63_28, g_63_31, g_63_32, g_63_33, g_63_34, g_63_38, g_63_41, g_63_44, gs_nx, db_inx, gs_ldi, gs_lda, gs_ldn, List.getElem?_cons_zero, List.getElem?_cons_succ, List.set_cons_zero, List.set_cons_succ, gs_gx, fx_int, fx_ref, fx_null, gs_px, gs_lx, gs_ax, gs_sx, ft_int, ft_ref, ft_b0, ft_b1, c1_int, c1_ref, List.length_cons, List.length_nil, Nat.reduceAdd, Nat.reduceLT, Nat.reduceLeDiff, true_and, and_true, true_or, or_true, not_false_eq_true, Option.toList_some, Option.toList_none, List.nil_append, List.singleton_append, List.cons_append]
    rw [if_pos (show nI 0 - nI 1 < nI 0 by decide +kernel)]
    have := K l (by simpa [wb] using hW)
    exact this
end WD
/-- the model's bits -/
def mo (h : db_H) (fs : List Value) (a : List Int32) (n : Nat) : db_H := (h.set 146 (.inl (1, a))).set 127 (.inr (12, fs.set 26 (.int (nI n))))
def oOK (a : List Int32) (W : List Bool) : Prop := a.length = 24000 ∧ ∀ (i : Nat) (b : Bool), W[i]? = some b → a.getD i 0 = bI b
theorem oOK_add {a : List Int32} {W : List Bool} {b : Bool} (h : oOK a W) (hn : W.length < 24000) : oOK (a.set W.length (bI b)) (W ++ [b]) := by
  obtain ⟨h1, h2⟩ := h
  refine ⟨by simpa using h1, fun i c hc => ?_⟩
  by_cases e : i < W.length
  · rw [List.getElem?_append_left e] at hc
    rw [gd_ne (by omega)]
    exact h2 i c hc
  · rw [List.getElem?_append_right (by omega)] at hc
    have hz : i - W.length < 1 := (List.getElem?_eq_some_iff.mp hc).1
    have e2 : i = W.length := by omega
    subst e2
    rw [Nat.sub_self] at hc
    cases hc
    rw [gd_self (by omega)]
theorem oOK_take {a : List Int32} {W : List Bool} (k : Nat) (h : oOK a W) : oOK a (W.take k) := by
  obtain ⟨h1, h2⟩ := h
  refine ⟨h1, fun i c hc => h2 i c ?_⟩
  rw [List.getElem?_take] at hc
  split at hc
  · exact hc
  · cases hc
theorem bit_1 (x : Int32) : (x &&& nI 1 = nI 1) ↔ bt x 0 = true := by
  constructor
  · intro e
    have := congrArg (fun z => bt z 0) e
    simp only [b_and, b_1] at this
    simpa using this
  · intro e
    refine b_ext (fun i hi => ?_)
    rw [b_and, b_1]
    by_cases h0 : i = 0
    · subst h0
      simp [e]
    · simp [h0]
theorem n5_146 : ¬ 146 < db_n := by decide
section MO
variable {h : db_H} {P : Option Value → db_H → Prop} {fs : List Value} {a : List Int32} {n : Nat}
theorem mo_127 (hl : 164 < h.length) : (mo h fs a n)[127]? = some (.inr (12, fs.set 26 (.int (nI n)))) := hs_at (by simp; omega)
theorem mo_146 (hl : 164 < h.length) : (mo h fs a n)[146]? = some (.inl (1, a)) := (hs_ne (by decide)).trans (hs_at (by omega))
theorem mo_ne {k : Nat} (h1 : ¬ 127 = k) (h2 : ¬ 146 = k) : (mo h fs a n)[k]? = h[k]? := (hs_ne h1).trans (hs_ne h2)
theorem mo_s {x : List Int32} {m : Nat} : ((mo h fs a n).set 146 (.inl (1, x))).set 127 (.inr (12, (fs.set 26 (.int (nI n))).set 26 (.int (nI m)))) = mo h fs x m := by
  unfold mo
  rw [hs_comm (o := 127) (r := 146) (by decide), hs_over, hs_over, List.set_set]
theorem m130_loop {v : Int32} {w : Nat} (hl : 164 < h.length) (hfl : fs.length = 51) (h25 : fs[25]? = some (.ref 146)) (hw : w ≤ 32) : ∀ (d k : Nat) (W : List Bool) (a : List Int32), k + d = w → oOK a W → W.length + d ≤ 24000 → (∀ a', oOK a' (W ++ fb v k d) → P none (mo h fs a' (W.length + d))) → db_Go 130 2 [.ref 127, .int v, .int (nI w), .int (nI k)] [] (mo h fs a W.length) P := by
  intro d
  induction d with
  | zero =>
    intro k W a hk hW hn K
    rw [g_130_2]
    simp only [g_130_0, g_130_1, g_130_3, g_130_4, g_130_7, g_130_8, g_130_11, g_130_12, g_130_15, g_130_16, g_130_17, g_130_18, g_130_19, g_130_20, g_130_21, g_130_24, g_130_25, g_130_28, g_130_29, g_130_30, g_130_31, g_130_32, g_130_35, g_130_36, g_130_37, g_130_40, g_130_43, g_130_46, gs_nx, db_inx, gs_ldi, gs_lda, gs_ldn, List.getElem?_cons_zero, List.getElem?_cons_succ, List.set_cons_zero, List.set_cons_succ, gs_gx, fx_int, fx_ref, fx_null, gs_px, gs_lx, gs_ax, gs_sx, ft_int, ft_ref, ft_b0, ft_b1, c1_int, c1_ref, List.length_cons, List.length_nil, Nat.reduceAdd, Nat.reduceLT, Nat.reduceLeDiff, true_and, and_true, true_or, or_true, not_false_eq_true, Option.toList_some, Option.toList_none, List.nil_append, List.singleton_append, List.cons_append]
    rw [if_pos (nI_le (by omega) (by omega))]
    have := K a (by simpa [fb] using hW)
    exact this
  | succ d ih =>
    intro k W a hk hW hn K
    have e127 := mo_127 (fs := fs) (a := a) (n := W.length) hl
    have e146 := mo_146 (fs := fs) (a := a) (n := W.length) hl
    have e2 : ∀ c, ((mo h fs a W.length).set 146 c)[127]? = some (.inr (12, fs.set 26 (.int (nI W.length)))) := fun c => (hs_ne (by decide)).trans e127
    have g25 : (fs.set 26 (.int (nI W.length)))[25]? = some (.ref 146) := (fs_ne (by decide)).trans h25
    have g26 : (fs.set 26 (.int (nI W.length)))[26]? = some (.int (nI W.length)) := fs_at (by omega)
    have gl : (fs.set 26 (.int (nI W.length))).length = 51 := by rw [List.length_set]; exact hfl
    have eb : bt (v >>> (nI k &&& 31)) 0 = bt v k := by
      rw [b_sshr k (by omega) v (by decide), if_pos (by omega)]
      rfl
    have hfin := ih (k + 1) (W ++ [bt v k]) (a.set W.length (bI (bt v k))) (by omega) (oOK_add hW (by omega)) (by simp; omega) (fun a2 h2 => by
      rw [List.append_assoc, List.singleton_append, ← fb_succ] at h2
      have := K a2 h2
      rw [show (W ++ [bt v k]).length + d = W.length + (d + 1) by simp; omega]
      exact this)
    rw [show (W ++ [bt v k]).length = W.length + 1 by simp] at hfin
    rw [g_130_2]
    simp only [g_130_0, g_130_1, g_130_3, g_130_4, g_130_7, g_130_8, g_130_11, g_130_12, g_130_15, g_130_16, g_130_17, g_130_18, g_130_19, g_130_20, g_130_21, g_130_24, g_130_25, g_130_28, g_130_29, g_130_30, g_130_31, g_130_32, g_130_35, g_130_36, g_130_37, g_130_40, g_130_43, g_130_46, gs_nx, db_inx, gs_ldi, gs_lda, gs_ldn, List.getElem?_cons_zero, List.getElem?_cons_succ, List.set_cons_zero, List.set_cons_succ, gs_gx, fx_int, fx_ref, fx_null, gs_px, gs_lx, gs_ax, gs_sx, ft_int, ft_ref, ft_b0, ft_b1, c1_int, c1_ref, List.length_cons, List.length_nil, Nat.reduceAdd, Nat.reduceLT, Nat.reduceLeDiff, true_and, and_true, true_or, or_true, not_false_eq_true, Option.toList_some, Option.toList_none, List.nil_append, List.singleton_append, List.cons_append, e127, e146, e2, g25, g26, gl, n5_127, n5_146]
    rw [if_neg (nI_ge (by omega) (by omega)), hW.1, nI_clamp (by omega), nI_add, nI_add, mo_s, mo_s]
    by_cases hb : bt v k = true
    · rw [if_neg (not_not_intro ((bit_1 _).mpr (eb.trans hb)))]
      rw [hb] at hfin
      exact ⟨in_nI (by omega) (by decide), hfin⟩
    · rw [if_pos (fun z => hb (eb.symm.trans ((bit_1 _).mp z)))]
      rw [show bt v k = false by simpa using hb] at hfin
      exact ⟨in_nI (by omega) (by decide), hfin⟩
/-- the model's field -/
theorem m130 {v : Int32} {w : Nat} {W : List Bool} (hl : 164 < h.length) (hfl : fs.length = 51) (h25 : fs[25]? = some (.ref 146)) (hw : w ≤ 32) (hW : oOK a W) (hn : W.length + w ≤ 24000) (K : ∀ a', oOK a' (W ++ fb v 0 w) → P none (mo h fs a' (W.length + w))) : db_Go 130 0 [.ref 127, .int v, .int (nI w), .retAddr 0] [] (mo h fs a W.length) P := by
  simp only [g_130_0, g_130_1, g_130_3, g_130_4, g_130_7, g_130_8, g_130_11, g_130_12, g_130_15, g_130_16, g_130_17, g_130_18, g_130_19, g_130_20, g_130_21, g_130_24, g_130_25, g_130_28, g_130_29, g_130_30, g_130_31, g_130_32, g_130_35, g_130_36, g_130_37, g_130_40, g_130_43, g_130_46, gs_nx, db_inx, gs_ldi, gs_lda, gs_ldn, List.getElem?_cons_zero, List.getElem?_cons_succ, List.set_cons_zero, List.set_cons_succ, gs_gx, fx_int, fx_ref, fx_null, gs_px, gs_lx, gs_ax, gs_sx, ft_int, ft_ref, ft_b0, ft_b1, c1_int, c1_ref, List.length_cons, List.length_nil, Nat.reduceAdd, Nat.reduceLT, Nat.reduceLeDiff, true_and, and_true, true_or, or_true, not_false_eq_true, Option.toList_some, Option.toList_none, List.nil_append, List.singleton_append, List.cons_append]
  exact m130_loop hl hfl h25 hw w 0 W a (by omega) hW hn K
end MO
