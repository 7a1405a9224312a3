/-! the two writers by frames: mW (the model's bits), cW (the class's) -/
def mW (h : db_H) (M : Nat → Int32) (W : List Bool) : Prop := 164 < h.length ∧ h[127]? = some (.inr (12, mfs (vup M 26 (nI W.length)))) ∧ (∃ a, h[146]? = some (.inl (1, a)) ∧ oOK a W) ∧ ∃ ow, h[142]? = some (.inl (0, ow)) ∧ ow.length = 16
def FM : List Nat := [127, 142, 146]
section MWF
variable {h : db_H} {P : Option Value → db_H → Prop} {M : Nat → Int32} {W : List Bool}
theorem mo_def {fs : List Value} {a : List Int32} {n : Nat} : mo h fs a n = (h.set 127 (.inr (12, fs.set 26 (.int (nI n))))).set 146 (.inl (1, a)) := hs_comm (by decide)
theorem mW_mo {a a2 : List Int32} {W2 : List Bool} (I : mW h M W) (ha2 : oOK a2 W2) : Fr FM h (mo h (mfs M) a2 W2.length) ∧ mW (mo h (mfs M) a2 W2.length) M W2 := by
  obtain ⟨hl, hM, ⟨a, ha, hoa⟩, ow, how, hol⟩ := I
  refine ⟨Fr_tr (Fr_set (by decide)) (Fr_set (by decide)), by simpa [mo] using hl, mo_127 hl, ⟨a2, mo_146 hl, ha2⟩, ow, (mo_ne (by decide) (by decide)).trans how, hol⟩
theorem mW_self {a : List Int32} (I : mW h M W) (ha : h[146]? = some (.inl (1, a))) : mo h (mfs M) a W.length = h := by
  obtain ⟨hl, hM, -, -⟩ := I
  unfold mo
  rw [hs_self ha]
  exact hs_self hM
/-- the model's field -/
theorem f130 {v : Int32} {w : Nat} (I : mW h M W) (hw : w ≤ 32) (hn : W.length + w ≤ 24000) (K : ∀ h2, Fr FM h h2 → mW h2 M (W ++ fb v 0 w) → P none h2) : db_Go 130 0 [.ref 127, .int v, .int (nI w), .retAddr 0] [] h P := by
  obtain ⟨hl, hM, ⟨a, ha, hoa⟩, -⟩ := id I
  rw [← mW_self I ha]
  refine m130 hl rfl rfl hw hoa hn (fun a2 h2 => ?_)
  have := mW_mo (a := a) I h2
  rw [List.length_append, fb_len] at this
  exact K _ this.1 this.2
theorem m132_loop (hl : 164 < h.length) : ∀ (d : Nat) (W : List Bool) (a : List Int32), pad W.length = d → oOK a W → W.length + d ≤ 24000 → (∀ a2, oOK a2 (W ++ List.replicate d false) → P none (mo h (mfs M) a2 (W.length + d))) → db_Go 132 0 [.ref 127] [] (mo h (mfs M) a W.length) P := by
  intro d
  induction d with
  | zero =>
    intro W a hd ha hn K
    have hd2 : W.length % 8 = 0 := by unfold pad at hd; omega
    have e127 := mo_127 (fs := mfs M) (a := a) (n := W.length) hl
    rw [g_132_0]
    simp (disch := first | omega | (simp only [List.length_set]; omega)) only [g_132_1, g_132_4, g_132_6, g_132_7, g_132_10, g_132_11, g_132_14, g_132_15, g_132_18, g_132_19, g_132_20, g_132_21, g_132_22, g_132_25, g_132_26, g_132_27, g_132_30, g_132_33, gs_nx, db_inx, gs_ldi, gs_lda, gs_ldn, List.getElem?_cons_zero, List.getElem?_cons_succ, List.set_cons_zero, List.set_cons_succ, gx5, fx_int, fx_ref, fx_null, px5, gs_lx, gs_ax, sx5, ft_int, ft_ref, ft_b0, ft_b1, c1_int, c1_ref, List.length_cons, List.length_nil, Nat.reduceAdd, Nat.reduceLT, Nat.reduceLeDiff, true_and, and_true, true_or, or_true, not_false_eq_true, Option.toList_some, Option.toList_none, List.nil_append, List.singleton_append, List.cons_append, ↓reduceIte, z_max, z_min, nI_add, z_sub, z_dec, z_mul, z_div, z_mod, nI_clamp, z_lt, z_nlt, z_le, z_nle, z_ne, z_eq, z_in, not_true_eq_false, if_true, if_false, hs_at, hs_ne, hs_sort, hset_eq, vupp_eq, hs_over, List.length_set, vup_at, vup_ne, vup_over, vup_sort, mfs_len, n5_f, map_getD, List.length_map, gd_self, gd_ne, Nat.add_sub_cancel, mg_25, mg_26, ms_26, e127, ms_26, mg_25, mg_26]
    have := K a (by simpa using ha)
    exact this
  | succ d ih =>
    intro W a hd ha hn K
    have hd2 : ¬ W.length % 8 = 0 := by unfold pad at hd; omega
    have hd3 : pad (W ++ [false]).length = d := by simp only [List.length_append, List.length_singleton]; unfold pad at hd ⊢; omega
    have hal := ha.1
    have hpad := Nat.mod_lt (8 - W.length % 8) (show 0 < 8 by decide)
    have := ih (W ++ [false]) (a.set W.length (bI false)) hd3 (oOK_add ha (by omega)) (by simp only [List.length_append, List.length_singleton]; omega) (fun a2 h2 => by
      rw [List.append_assoc, List.singleton_append, ← List.replicate_succ] at h2
      have := K a2 h2
      rw [show (W ++ [false]).length + d = W.length + (d + 1) by simp; omega]
      exact this)
    rw [g_132_0]
    rw [mo_def] at this ⊢
    simp (disch := first | omega | (simp only [List.length_set]; omega)) only [g_132_1, g_132_4, g_132_6, g_132_7, g_132_10, g_132_11, g_132_14, g_132_15, g_132_18, g_132_19, g_132_20, g_132_21, g_132_22, g_132_25, g_132_26, g_132_27, g_132_30, g_132_33, gs_nx, db_inx, gs_ldi, gs_lda, gs_ldn, List.getElem?_cons_zero, List.getElem?_cons_succ, List.set_cons_zero, List.set_cons_succ, gx5, fx_int, fx_ref, fx_null, px5, gs_lx, gs_ax, sx5, ft_int, ft_ref, ft_b0, ft_b1, c1_int, c1_ref, List.length_cons, List.length_nil, Nat.reduceAdd, Nat.reduceLT, Nat.reduceLeDiff, true_and, and_true, true_or, or_true, not_false_eq_true, Option.toList_some, Option.toList_none, List.nil_append, List.singleton_append, List.cons_append, ↓reduceIte, z_max, z_min, nI_add, z_sub, z_dec, z_mul, z_div, z_mod, nI_clamp, z_lt, z_nlt, z_le, z_nle, z_ne, z_eq, z_in, not_true_eq_false, if_true, if_false, hs_at, hs_ne, hs_sort, hset_eq, vupp_eq, hs_over, List.length_set, vup_at, vup_ne, vup_over, vup_sort, mfs_len, n5_f, map_getD, List.length_map, gd_self, gd_ne, Nat.add_sub_cancel, mg_25, mg_26, ms_26, ms_26, mg_25, mg_26]
    rw [List.length_append] at this
    exact this
/-- align -/
theorem f132 (I : mW h M W) (hn : W.length + pad W.length ≤ 24000) (K : ∀ h2, Fr FM h h2 → mW h2 M (W ++ List.replicate (pad W.length) false) → P none h2) : db_Go 132 0 [.ref 127] [] h P := by
  obtain ⟨hl, hM, ⟨a, ha, hoa⟩, -⟩ := id I
  rw [← mW_self I ha]
  refine m132_loop hl _ W a rfl hoa hn (fun a2 h2 => ?_)
  have := mW_mo (a := a) I h2
  rw [List.length_append, List.length_replicate] at this
  exact K _ this.1 this.2
theorem e_dec (d : Nat) : nI d + Int32.ofInt (-1) = nI d - nI 1 := by rw [m1_ofInt, Int32.sub_eq_add_neg]
theorem z_m1 : (nI 0 - nI 1 < nI 0) = True := eq_true (by decide +kernel)
theorem b_sar {v : Int32} {k : Nat} (hk : k < 32) : (v >>> (nI k &&& 31) &&& nI 1 = nI 1) = (bt v k = true) := by
  have eb : bt (v >>> (nI k &&& 31)) 0 = bt v k := by
    rw [b_sshr k hk v (by decide), if_pos (by omega)]
    rfl
  exact propext ((bit_1 _).trans (by rw [eb]))
theorem m135_loop (hl : 164 < h.length) {k v : Nat} {n s : Int32} : ∀ (d : Nat) (W : List Bool) (a : List Int32), d ≤ 15 → oOK a W → W.length + d ≤ 24000 → (∀ a2, oOK a2 (W ++ wb v d) → P none (mo h (mfs M) a2 (W.length + d))) → db_Go 135 16 [.ref 127, .ref k, .int n, .int s, .int (nI v), .int (nI d - nI 1)] [] (mo h (mfs M) a W.length) P := by
  intro d
  induction d with
  | zero =>
    intro W a hd ha hn K
    rw [g_135_16]
    simp (disch := first | omega | (simp only [List.length_set]; omega)) only [g_135_0, g_135_1, g_135_2, g_135_3, g_135_7, g_135_9, g_135_10, g_135_11, g_135_12, g_135_13, g_135_14, g_135_18, g_135_21, g_135_22, g_135_25, g_135_26, g_135_29, g_135_31, g_135_33, g_135_34, g_135_35, g_135_36, g_135_37, g_135_40, g_135_41, g_135_44, g_135_45, g_135_46, g_135_47, g_135_48, g_135_51, g_135_52, g_135_53, g_135_56, g_135_59, g_135_62, gs_nx, db_inx, gs_ldi, gs_lda, gs_ldn, List.getElem?_cons_zero, List.getElem?_cons_succ, List.set_cons_zero, List.set_cons_succ, gx5, fx_int, fx_ref, fx_null, px5, gs_lx, gs_ax, sx5, ft_int, ft_ref, ft_b0, ft_b1, c1_int, c1_ref, List.length_cons, List.length_nil, Nat.reduceAdd, Nat.reduceLT, Nat.reduceLeDiff, true_and, and_true, true_or, or_true, not_false_eq_true, Option.toList_some, Option.toList_none, List.nil_append, List.singleton_append, List.cons_append, ↓reduceIte, z_max, z_min, nI_add, z_sub, z_dec, z_mul, z_div, z_mod, nI_clamp, z_lt, z_nlt, z_le, z_nle, z_ne, z_eq, z_in, not_true_eq_false, if_true, if_false, hs_at, hs_ne, hs_sort, hset_eq, vupp_eq, hs_over, List.length_set, vup_at, vup_ne, vup_over, vup_sort, mfs_len, n5_f, map_getD, List.length_map, gd_self, gd_ne, Nat.add_sub_cancel, mg_25, mg_26, ms_26, z_m1]
    exact K a (by simpa [wb] using ha)
  | succ d ih =>
    intro W a hd ha hn K
    have hal := ha.1
    have := ih (W ++ [bt (nI v) d]) (a.set W.length (bI (bt (nI v) d))) (by omega) (oOK_add ha (by omega)) (by simp only [List.length_append, List.length_singleton]; omega) (fun a2 h2 => by
      rw [List.append_assoc, List.singleton_append] at h2
      have := K a2 h2
      rw [show (W ++ [bt (nI v) d]).length + d = W.length + (d + 1) by simp; omega]
      exact this)
    rw [mo_def, List.length_append] at this
    rw [g_135_16, mo_def]
    have hb2 := b_sar (v := nI v) (k := d) (by omega)
    by_cases hb : bt (nI v) d = true
    · simp (disch := first | omega | (simp only [List.length_set]; omega)) only [g_135_0, g_135_1, g_135_2, g_135_3, g_135_7, g_135_9, g_135_10, g_135_11, g_135_12, g_135_13, g_135_14, g_135_18, g_135_21, g_135_22, g_135_25, g_135_26, g_135_29, g_135_31, g_135_33, g_135_34, g_135_35, g_135_36, g_135_37, g_135_40, g_135_41, g_135_44, g_135_45, g_135_46, g_135_47, g_135_48, g_135_51, g_135_52, g_135_53, g_135_56, g_135_59, g_135_62, gs_nx, db_inx, gs_ldi, gs_lda, gs_ldn, List.getElem?_cons_zero, List.getElem?_cons_succ, List.set_cons_zero, List.set_cons_succ, gx5, fx_int, fx_ref, fx_null, px5, gs_lx, gs_ax, sx5, ft_int, ft_ref, ft_b0, ft_b1, c1_int, c1_ref, List.length_cons, List.length_nil, Nat.reduceAdd, Nat.reduceLT, Nat.reduceLeDiff, true_and, and_true, true_or, or_true, not_false_eq_true, Option.toList_some, Option.toList_none, List.nil_append, List.singleton_append, List.cons_append, ↓reduceIte, z_max, z_min, nI_add, z_sub, z_dec, z_mul, z_div, z_mod, nI_clamp, z_lt, z_nlt, z_le, z_nle, z_ne, z_eq, z_in, not_true_eq_false, if_true, if_false, hs_at, hs_ne, hs_sort, hset_eq, vupp_eq, hs_over, List.length_set, vup_at, vup_ne, vup_over, vup_sort, mfs_len, n5_f, map_getD, List.length_map, gd_self, gd_ne, Nat.add_sub_cancel, mg_25, mg_26, ms_26, hb2, hb, e_dec]
      rw [hb] at this
      exact this
    · simp (disch := first | omega | (simp only [List.length_set]; omega)) only [g_135_0, g_135_1, g_135_2, g_135_3, g_135_7, g_135_9, g_135_10, g_135_11, g_135_12, g_135_13, g_135_14, g_135_18, g_135_21, g_135_22, g_135_25, g_135_26, g_135_29, g_135_31, g_135_33, g_135_34, g_135_35, g_135_36, g_135_37, g_135_40, g_135_41, g_135_44, g_135_45, g_135_46, g_135_47, g_135_48, g_135_51, g_135_52, g_135_53, g_135_56, g_135_59, g_135_62, gs_nx, db_inx, gs_ldi, gs_lda, gs_ldn, List.getElem?_cons_zero, List.getElem?_cons_succ, List.set_cons_zero, List.set_cons_succ, gx5, fx_int, fx_ref, fx_null, px5, gs_lx, gs_ax, sx5, ft_int, ft_ref, ft_b0, ft_b1, c1_int, c1_ref, List.length_cons, List.length_nil, Nat.reduceAdd, Nat.reduceLT, Nat.reduceLeDiff, true_and, and_true, true_or, or_true, not_false_eq_true, Option.toList_some, Option.toList_none, List.nil_append, List.singleton_append, List.cons_append, ↓reduceIte, z_max, z_min, nI_add, z_sub, z_dec, z_mul, z_div, z_mod, nI_clamp, z_lt, z_nlt, z_le, z_nle, z_ne, z_eq, z_in, not_true_eq_false, if_true, if_false, hs_at, hs_ne, hs_sort, hset_eq, vupp_eq, hs_over, List.length_set, vup_at, vup_ne, vup_over, vup_sort, mfs_len, n5_f, map_getD, List.length_map, gd_self, gd_ne, Nat.add_sub_cancel, mg_25, mg_26, ms_26, hb2, hb, e_dec]
      rw [show bt (nI v) d = false by simpa using hb] at this
      exact this
/-- word -/
theorem f135 {k s : Nat} {ws : List Nat} (I : mW h M W) (hk : h[k]? = some (.inl (0, ws.map nI))) (hk2 : k ∉ FM) (hw : ws.length ≤ 288) (h15 : ∀ x ∈ ws, x ≤ 15) (hs : s < ws.length) (hn : W.length + ws.getD s 0 ≤ 24000) (K : ∀ h2, Fr FM h h2 → mW h2 M (W ++ wb (wdN ws s) (ws.getD s 0)) → P none h2) : db_Go 135 0 [.ref 127, .ref k, .int (nI ws.length), .int (nI s), .retAddr 0, .retAddr 0] [] h P := by
  obtain ⟨hl, hM, ⟨a, ha, hoa⟩, ow, how, hol⟩ := id I
  have hk3 : ¬ k = 142 ∧ ¬ k = 127 ∧ ¬ k = 146 := by simp [FM] at hk2; omega
  have hx := w15 h15 s
  simp (disch := first | omega | (simp only [List.length_set]; omega)) only [g_135_0, g_135_1, g_135_2, g_135_3, g_135_7, g_135_9, g_135_10, g_135_11, g_135_12, g_135_13, g_135_14, g_135_18, g_135_21, g_135_22, g_135_25, g_135_26, g_135_29, g_135_31, g_135_33, g_135_34, g_135_35, g_135_36, g_135_37, g_135_40, g_135_41, g_135_44, g_135_45, g_135_46, g_135_47, g_135_48, g_135_51, g_135_52, g_135_53, g_135_56, g_135_59, g_135_62, gs_nx, db_inx, gs_ldi, gs_lda, gs_ldn, List.getElem?_cons_zero, List.getElem?_cons_succ, List.set_cons_zero, List.set_cons_succ, gx5, fx_int, fx_ref, fx_null, px5, gs_lx, gs_ax, sx5, ft_int, ft_ref, ft_b0, ft_b1, c1_int, c1_ref, List.length_cons, List.length_nil, Nat.reduceAdd, Nat.reduceLT, Nat.reduceLeDiff, true_and, and_true, true_or, or_true, not_false_eq_true, Option.toList_some, Option.toList_none, List.nil_append, List.singleton_append, List.cons_append, ↓reduceIte, z_max, z_min, nI_add, z_sub, z_dec, z_mul, z_div, z_mod, nI_clamp, z_lt, z_nlt, z_le, z_nle, z_ne, z_eq, z_in, not_true_eq_false, if_true, if_false, hs_at, hs_ne, hs_sort, hset_eq, vupp_eq, hs_over, List.length_set, vup_at, vup_ne, vup_over, vup_sort, mfs_len, n5_f, map_getD, List.length_map, gd_self, gd_ne, Nat.add_sub_cancel, mg_25, mg_26, ms_26]
  refine c_135_4 (by simp) (n5_ge (by omega)) hM ?_
  refine m136 hl hM how hol hk hk3.1 hw h15 hs (fun ow2 hc => ?_)
  have I2 : mW (h.set 142 (.inl (0, ow2))) M W := ⟨by simpa using hl, by simp (disch := first | omega | (simp only [List.length_set]; omega)) only [hs_at, hs_ne, List.length_set, hM], ⟨a, by simp (disch := first | omega | (simp only [List.length_set]; omega)) only [hs_at, hs_ne, List.length_set, ha], hoa⟩, ow2, by simp (disch := first | omega | (simp only [List.length_set]; omega)) only [hs_at, hs_ne, List.length_set], hc.1⟩
  have F2 : Fr FM h (h.set 142 (.inl (0, ow2))) := Fr_set (by decide)
  have hk4 : (h.set 142 (.inl (0, ow2)))[k]? = some (.inl (0, ws.map nI)) := by simp (disch := first | omega | (simp only [List.length_set]; omega)) only [hs_at, hs_ne, List.length_set, hk]
  have ha4 : (h.set 142 (.inl (0, ow2)))[146]? = some (.inl (1, a)) := by simp (disch := first | omega | (simp only [List.length_set]; omega)) only [hs_at, hs_ne, List.length_set, ha]
  generalize h.set 142 (.inl (0, ow2)) = h1 at *
  simp (disch := first | omega | (simp only [List.length_set]; omega)) only [g_135_0, g_135_1, g_135_2, g_135_3, g_135_7, g_135_9, g_135_10, g_135_11, g_135_12, g_135_13, g_135_14, g_135_18, g_135_21, g_135_22, g_135_25, g_135_26, g_135_29, g_135_31, g_135_33, g_135_34, g_135_35, g_135_36, g_135_37, g_135_40, g_135_41, g_135_44, g_135_45, g_135_46, g_135_47, g_135_48, g_135_51, g_135_52, g_135_53, g_135_56, g_135_59, g_135_62, gs_nx, db_inx, gs_ldi, gs_lda, gs_ldn, List.getElem?_cons_zero, List.getElem?_cons_succ, List.set_cons_zero, List.set_cons_succ, gx5, fx_int, fx_ref, fx_null, px5, gs_lx, gs_ax, sx5, ft_int, ft_ref, ft_b0, ft_b1, c1_int, c1_ref, List.length_cons, List.length_nil, Nat.reduceAdd, Nat.reduceLT, Nat.reduceLeDiff, true_and, and_true, true_or, or_true, not_false_eq_true, Option.toList_some, Option.toList_none, List.nil_append, List.singleton_append, List.cons_append, ↓reduceIte, z_max, z_min, nI_add, z_sub, z_dec, z_mul, z_div, z_mod, nI_clamp, z_lt, z_nlt, z_le, z_nle, z_ne, z_eq, z_in, not_true_eq_false, if_true, if_false, hs_at, hs_ne, hs_sort, hset_eq, vupp_eq, hs_over, List.length_set, vup_at, vup_ne, vup_over, vup_sort, mfs_len, n5_f, map_getD, List.length_map, gd_self, gd_ne, Nat.add_sub_cancel, mg_25, mg_26, ms_26, hk4]
  rw [← mW_self I2 ha4]
  refine m135_loop I2.1 _ W a hx hoa hn (fun a2 h2 => ?_)
  have := mW_mo (a := a) I2 h2
  rw [List.length_append, wb_len] at this
  exact K _ (Fr_tr F2 this.1) this.2
end MWF
/-! the class's writer -/
def cW (h : db_H) (W : List Bool) : Prop := 164 < h.length ∧ h[17]? = some (.inr (10, [.ref 18, .int (nI W.length)])) ∧ ∃ l, h[18]? = some (.inl (0, l)) ∧ wOK l W
def FC : List Nat := [17, 18]
/-- a CODE that is worked out, at o -/
def cdW (h : db_H) (o : Nat) (ws : List Nat) : Prop := ∃ ct fw st gv wo sy, h[o]? = some (.inr (2, [.ref (o + 5), .ref (o + 6), .ref (o + 7), .ref (o + 1), .ref (o + 2), .ref (o + 3), .ref (o + 4), .int (nI (sn ws 15)), .int (nI (gt ws 15)), .int (bI (fu ws 15))])) ∧ h[o + 1]? = some (.inl (0, ct)) ∧ h[o + 2]? = some (.inl (0, fw)) ∧ h[o + 3]? = some (.inl (0, st)) ∧ h[o + 4]? = some (.inl (0, gv)) ∧ h[o + 5]? = some (.inl (0, ws.map nI)) ∧ h[o + 6]? = some (.inl (0, wo)) ∧ h[o + 7]? = some (.inl (0, sy)) ∧ cdOK ct fw st gv wo sy ws ∧ ws.length ≤ 288 ∧ ∀ x ∈ ws, x ≤ 15
def FO (o : Nat) : List Nat := [o, o + 1, o + 2, o + 3, o + 4, o + 5, o + 6, o + 7]
section CWF
variable {h : db_H} {P : Option Value → db_H → Prop} {W : List Bool}
theorem cW_wr {l : List Int32} {W2 : List Bool} (I : cW h W) (hl2 : wOK l W2) : Fr FC h (wr h l W2.length) ∧ cW (wr h l W2.length) W2 :=
  ⟨Fr_tr (Fr_set (by decide)) (Fr_set (by decide)), by rw [wr_len]; exact I.1, wr_17 (by have := I.1; omega), l, wr_18 (by have := I.1; omega), hl2⟩
theorem cW_self {l : List Int32} (I : cW h W) (hl : h[18]? = some (.inl (0, l))) : wr h l W.length = h := by
  unfold wr
  rw [hs_self hl]
  exact hs_self I.2.1
theorem f36 {v : Int32} {w : Nat} (I : cW h W) (hw : w ≤ 32) (hn : W.length + w < 2 ^ 30) (K : ∀ h2, Fr FC h h2 → cW h2 (W ++ fb v 0 w) → P none h2) : db_Go 36 0 [.ref 17, .int v, .int (nI w), .retAddr 0] [] h P := by
  obtain ⟨hl, h17, l, h18, hW⟩ := id I
  rw [← cW_self I h18]
  refine m36 (by omega) hw hW hn (fun l2 h2 => ?_)
  have := cW_wr I h2
  rw [List.length_append, fb_len] at this
  exact K _ this.1 this.2
theorem f60 (I : cW h W) (hn : W.length + 8 < 2 ^ 30) (K : ∀ h2, Fr FC h h2 → cW h2 (W ++ List.replicate (pad W.length) false) → P none h2) : db_Go 60 0 [.ref 17] [] h P := by
  obtain ⟨hl, h17, l, h18, hW⟩ := id I
  rw [← cW_self I h18]
  refine m60 (by omega) hW hn (fun l2 h2 => ?_)
  have := cW_wr I h2
  rw [List.length_append, List.length_replicate] at this
  exact K _ this.1 this.2
/-- backTo: a shorter row of bits -/
theorem f34 {b : Nat} (I : cW h W) (hb : b ≤ W.length) (hn : W.length < 2 ^ 30) (K : ∀ h2, Fr FC h h2 → cW h2 (W.take b) → P none h2) : db_Go 34 0 [.ref 17, .int (nI b)] [] h P := by
  obtain ⟨hl, h17, l, h18, hW⟩ := id I
  rw [← cW_self I h18]
  refine m34 (by omega) (by omega) ?_
  have := cW_wr I (wOK_take b hW)
  rw [List.length_take_of_le hb] at this
  exact K _ this.1 this.2
theorem f76 (I : cW h W) (hn : W.length < 2 ^ 30) (K : P (some (.int (if W.length ≤ 3200 then nI 1 else nI 0))) h) : db_Go 76 0 [.ref 17] [] h P := by
  obtain ⟨hl, h17, l, h18, hW⟩ := id I
  have e := cW_self I h18
  rw [← e]
  refine m76 (by omega) (by omega) ?_
  rw [e]
  exact K
/-- word -/
theorem f63 {o s : Nat} {ws : List Nat} (I : cW h W) (ho : 19 ≤ o) (C : cdW h o ws) (hs : s < ws.length) (hn : W.length + 15 < 2 ^ 30) (K : ∀ h2, Fr FC h h2 → cW h2 (W ++ wb (wdN ws s) (ws.getD s 0)) → P none h2) : db_Go 63 0 [.ref 17, .ref o, .int (nI s), .retAddr 0] [] h P := by
  obtain ⟨hl, h17, l, h18, hW⟩ := id I
  obtain ⟨ct, fw, st, gv, wo, sy, e0, e1, e2, e3, e4, e5, e6, e7, hc, hw, h15⟩ := C
  rw [← cW_self I h18]
  refine m63 (by omega) ho e0 e5 e6 hw h15 hc.2.2.2.1 hs (fun hp => (hc.2.2.2.2.2 s hs hp).1) hW hn (fun l2 h2 => ?_)
  have := cW_wr I h2
  rw [List.length_append, wb_len] at this
  exact K _ this.1 this.2
theorem cdW_fr {F : List Nat} {h2 : db_H} {o : Nat} {ws : List Nat} (f : Fr F h h2) (hF : ∀ k, k < 8 → o + k ∉ F) (C : cdW h o ws) : cdW h2 o ws := by
  obtain ⟨ct, fw, st, gv, wo, sy, e0, e1, e2, e3, e4, e5, e6, e7, hc⟩ := C
  exact ⟨ct, fw, st, gv, wo, sy, Fr_get f (hF 0 (by decide)) e0, Fr_get f (hF 1 (by decide)) e1, Fr_get f (hF 2 (by decide)) e2, Fr_get f (hF 3 (by decide)) e3, Fr_get f (hF 4 (by decide)) e4, Fr_get f (hF 5 (by decide)) e5, Fr_get f (hF 6 (by decide)) e6, Fr_get f (hF 7 (by decide)) e7, hc⟩
/-- a CODE's cells, whatever they hold, and the widths ws -/
def cdS (h : db_H) (o : Nat) (ws : List Nat) : Prop := ∃ ct fw st gv wo sy wc gr fl, h[o]? = some (.inr (2, [.ref (o + 5), .ref (o + 6), .ref (o + 7), .ref (o + 1), .ref (o + 2), .ref (o + 3), .ref (o + 4), .int wc, .int gr, .int fl])) ∧ h[o + 1]? = some (.inl (0, ct)) ∧ h[o + 2]? = some (.inl (0, fw)) ∧ h[o + 3]? = some (.inl (0, st)) ∧ h[o + 4]? = some (.inl (0, gv)) ∧ h[o + 5]? = some (.inl (0, ws.map nI)) ∧ h[o + 6]? = some (.inl (0, wo)) ∧ h[o + 7]? = some (.inl (0, sy)) ∧ ct.length = 16 ∧ fw.length = 16 ∧ st.length = 16 ∧ gv.length = 16 ∧ wo.length = ws.length ∧ sy.length = ws.length
theorem cdS_W {o : Nat} {ws : List Nat} (C : cdW h o ws) : cdS h o ws := by
  obtain ⟨ct, fw, st, gv, wo, sy, e0, e1, e2, e3, e4, e5, e6, e7, hc, hw, h15⟩ := C
  exact ⟨ct, fw, st, gv, wo, sy, _, _, _, e0, e1, e2, e3, e4, e5, e6, e7, hc.1.1, hc.2.1.1, hc.2.1.2.1, hc.2.2.1, hc.2.2.2.1, hc.2.2.2.2.1⟩
/-- settle -/
theorem f9 {o : Nat} {ws : List Nat} (ho : 19 ≤ o) (C : cdS h o ws) (hw : ws.length ≤ 288) (h15 : ∀ x ∈ ws, x ≤ 15) (K : ∀ h2, Fr (FO o) h h2 → cdW h2 o ws → P none h2) : db_Go 9 0 [.ref o, .retAddr 0, .retAddr 0] [] h P := by
  obtain ⟨ct, fw, st, gv, wo, sy, wc, gr, fl, e0, e1, e2, e3, e4, e5, e6, e7, l1, l2, l3, l4, l6, l7⟩ := C
  have hl : o + 7 < h.length := (List.getElem?_eq_some_iff.mp e7).1
  have e : cd h o ct fw st gv (ws.map nI) wo sy wc gr fl = h := by
    unfold cd
    rw [hs_self e1, hs_self e2, hs_self e3, hs_self e4, hs_self e5, hs_self e6, hs_self e7]
    exact hs_self e0
  rw [← e]
  refine m9 (n5_ge (by omega)) hl hw h15 l1 l2 l3 l4 l6 l7 (fun ct2 fw2 st2 gv2 wo2 sy2 hc => K _ ?_ ?_)
  · have m : ∀ k, k < 8 → o + k ∈ FO o := fun k hk => by simp [FO]; omega
    unfold cd
    exact Fr_s (Fr_s (Fr_s (Fr_s (Fr_s (Fr_s (Fr_s (Fr_set (m 1 (by decide))) (m 2 (by decide))) (m 3 (by decide))) (m 4 (by decide))) (m 5 (by decide))) (m 6 (by decide))) (m 7 (by decide))) (m 0 (by decide))
  · exact ⟨ct2, fw2, st2, gv2, wo2, sy2, cd_0 hl, cd_1 hl, cd_2 hl, cd_3 hl, cd_4 hl, cd_5 hl, cd_6 hl, cd_7 hl, hc, hw, h15⟩
end CWF
