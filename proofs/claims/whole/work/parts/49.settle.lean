/-! a CODE worked out: counts, first words, words; ws: the widths (naturals) -/
def nx (ws : List Nat) : Nat → Nat
  | 0 => 0
  | w + 1 => 2 * nx ws w + ws.count (w + 1)
def sn (ws : List Nat) : Nat → Nat
  | 0 => 0
  | w + 1 => sn ws w + ws.count (w + 1)
def gt (ws : List Nat) : Nat → Nat
  | 0 => 0
  | w + 1 => if 0 < ws.count (w + 1) then w + 1 else gt ws w
def fu (ws : List Nat) : Nat → Bool
  | 0 => false
  | w + 1 => if 0 < ws.count (w + 1) then decide (nx ws (w + 1) = 2 ^ (w + 1)) else fu ws w
theorem nx_le (ws : List Nat) : ∀ w, nx ws w + ws.length ≤ ws.length * 2 ^ (w + 1)
  | 0 => by simp [nx]; omega
  | w + 1 => by
    have h1 := nx_le ws w
    have h2 : ws.count (w + 1) ≤ ws.length := List.count_le_length
    have h3 : ws.length * 2 ^ (w + 1 + 1) = 2 * (ws.length * 2 ^ (w + 1)) := by rw [Nat.pow_succ 2 (w + 1), ← Nat.mul_assoc, Nat.mul_comm]
    rw [nx, h3]
    omega
theorem nx_lt {ws : List Nat} {w : Nat} (hl : ws.length ≤ 288) (hw : w ≤ 15) : nx ws w < 2 ^ 26 := by
  have h1 := nx_le ws w
  have h2 : 2 ^ (w + 1) ≤ 2 ^ 16 := Nat.pow_le_pow_right (by decide) (by omega)
  have h3 : ws.length * 2 ^ (w + 1) ≤ 288 * 2 ^ 16 := Nat.mul_le_mul hl h2
  omega
def cntOK (ct : List Int32) (ws : List Nat) : Prop := ct.length = 16 ∧ ∀ w, 1 ≤ w → w ≤ 15 → ct.getD w 0 = nI (ws.count w)
theorem cntOK_nil : cntOK (List.replicate 16 (nI 0)) [] := ⟨List.length_replicate, fun w h1 h2 => by rw [List.getD_eq_getElem?_getD, List.getElem?_replicate, if_pos (by omega)]; rfl⟩
theorem cntOK_add {ct : List Int32} {ws : List Nat} {w : Nat} (h : cntOK ct ws) (h1 : 1 ≤ w) (h2 : w ≤ 15) : cntOK (ct.set w (nI (ws.count w + 1))) (ws ++ [w]) := by
  obtain ⟨a, b⟩ := h
  refine ⟨by simpa using a, fun v h3 h4 => ?_⟩
  rw [List.count_append]
  by_cases e : w = v
  · subst e
    rw [gd_self (by omega)]
    simp
  · rw [gd_ne e, b v h3 h4, List.count_singleton]
    simp [e]
theorem cntOK_0 {ct : List Int32} {ws : List Nat} (h : cntOK ct ws) : cntOK ct (ws ++ [0]) := by
  obtain ⟨a, b⟩ := h
  refine ⟨a, fun v h3 h4 => ?_⟩
  rw [List.count_append, b v h3 h4, List.count_singleton]
  have : ¬ (0 : Nat) = v := by omega
  simp [this]
theorem map_getD {ws : List Nat} {i : Nat} (hi : i < ws.length) : (ws.map nI).getD i 0 = nI (ws.getD i 0) := by
  rw [List.getD_eq_getElem?_getD, List.getD_eq_getElem?_getD, List.getElem?_map, List.getElem?_eq_getElem hi]
  rfl
theorem take_snoc {ws : List Nat} {i : Nat} (hi : i < ws.length) : ws.take (i + 1) = ws.take i ++ [ws.getD i 0] := by
  rw [List.take_succ, List.getD_eq_getElem?_getD, List.getElem?_eq_getElem hi]
  rfl
section SE
variable {h : db_H} {P : Option Value → db_H → Prop} {o : Nat} {ct fw st gv wd wo sy : List Int32} {wc gr fl : Int32} {ws : List Nat}
theorem m10_loop (ho : ¬ o < db_n) (hl : o + 7 < h.length) (hw : ws.length ≤ 288) (h15 : ∀ x ∈ ws, x ≤ 15) (K : ∀ ct', cntOK ct' ws → P none (cd h o ct' fw st gv (ws.map nI) wo sy wc gr fl)) : ∀ (d i : Nat) (ct : List Int32) (x : Value), i + d = ws.length → cntOK ct (ws.take i) → db_Go 10 18 [.ref o, .ref (o + 5), .int (nI ws.length), .int (nI i), x] [] (cd h o ct fw st gv (ws.map nI) wo sy wc gr fl) P := by
  have ho1 : ¬ o + 1 < db_n := by omega
  intro d
  induction d with
  | zero =>
    intro i ct x hi hc
    rw [g_10_18]
    simp only [g_10_0, g_10_1, g_10_4, g_10_8, g_10_9, g_10_12, g_10_13, g_10_14, g_10_15, g_10_16, g_10_17, g_10_19, g_10_20, g_10_23, g_10_24, g_10_25, g_10_26, g_10_28, g_10_30, g_10_33, g_10_35, g_10_37, g_10_40, g_10_41, g_10_44, g_10_46, g_10_47, g_10_48, g_10_49, g_10_50, g_10_51, g_10_54, g_10_57, gs_nx, db_inx, gs_ldi, gs_lda, gs_ldn, List.getElem?_cons_zero, List.getElem?_cons_succ, List.set_cons_zero, List.set_cons_succ, gs_gx, fx_int, fx_ref, fx_null, gs_px, gs_lx, gs_ax, gs_sx, ft_int, ft_ref, ft_b0, ft_b1, c1_int, c1_ref, List.length_cons, List.length_nil, Nat.reduceAdd, Nat.reduceLT, Nat.reduceLeDiff, true_and, and_true, true_or, or_true, not_false_eq_true, Option.toList_some, Option.toList_none, List.nil_append, List.singleton_append, List.cons_append]
    rw [if_pos (nI_le (by omega) (by omega))]
    rw [List.take_of_length_le (by omega)] at hc
    exact K ct hc
  | succ d ih =>
    intro i ct x hi hc
    have e0 : ∀ ct, (cd h o ct fw st gv (ws.map nI) wo sy wc gr fl)[o]? = some (.inr (2, [.ref (o + 5), .ref (o + 6), .ref (o + 7), .ref (o + 1), .ref (o + 2), .ref (o + 3), .ref (o + 4), .int wc, .int gr, .int fl])) := fun _ => cd_0 hl
    have e1 : ∀ ct, (cd h o ct fw st gv (ws.map nI) wo sy wc gr fl)[o + 1]? = some (.inl (0, ct)) := fun _ => cd_1 hl
    have e5 : ∀ ct, (cd h o ct fw st gv (ws.map nI) wo sy wc gr fl)[o + 5]? = some (.inl (0, ws.map nI)) := fun _ => cd_5 hl
    have hil : i < ws.length := by omega
    have hx : ws.getD i 0 ≤ 15 := by
      rw [List.getD_eq_getElem?_getD, List.getElem?_eq_getElem hil]
      exact h15 _ (List.getElem_mem hil)
    have hic : (ws.take i).count (ws.getD i 0) ≤ 288 := Nat.le_trans List.count_le_length (by simp; omega)
    rw [g_10_18]
    simp only [g_10_0, g_10_1, g_10_4, g_10_8, g_10_9, g_10_12, g_10_13, g_10_14, g_10_15, g_10_16, g_10_17, g_10_19, g_10_20, g_10_23, g_10_24, g_10_25, g_10_26, g_10_28, g_10_30, g_10_33, g_10_35, g_10_37, g_10_40, g_10_41, g_10_44, g_10_46, g_10_47, g_10_48, g_10_49, g_10_50, g_10_51, g_10_54, g_10_57, gs_nx, db_inx, gs_ldi, gs_lda, gs_ldn, List.getElem?_cons_zero, List.getElem?_cons_succ, List.set_cons_zero, List.set_cons_succ, gs_gx, fx_int, fx_ref, fx_null, gs_px, gs_lx, gs_ax, gs_sx, ft_int, ft_ref, ft_b0, ft_b1, c1_int, c1_ref, List.length_cons, List.length_nil, Nat.reduceAdd, Nat.reduceLT, Nat.reduceLeDiff, true_and, and_true, true_or, or_true, not_false_eq_true, Option.toList_some, Option.toList_none, List.nil_append, List.singleton_append, List.cons_append, e0, e1, e5, ho, ho1, cd_s1, Bool.and_self]
    rw [if_neg (nI_ge (by omega) (by omega)), List.length_map, nI_clamp (by omega), map_getD hil]
    refine ⟨in_nI hil (by omega), ?_⟩
    have hts := take_snoc hil
    by_cases hz : ws.getD i 0 = 0
    · rw [hz, if_pos (nI_le (Nat.le_refl 0) (by decide)), nI_add]
      refine ih (i + 1) ct _ (by omega) ?_
      rw [hts, hz]
      exact cntOK_0 hc
    · rw [if_neg (nI_ge (by omega) (by omega)), if_neg (nI_nlt hx (by decide)), nI_clamp (by omega), hc.1, hc.2 _ (by omega) hx, nI_add, nI_add]
      refine ⟨in_nI (by omega) (by decide), in_nI (by omega) (by decide), ?_⟩
      refine ih (i + 1) _ _ (by omega) ?_
      rw [hts]
      exact cntOK_add hc (by omega) hx
/-- countWidths -/
theorem m10 (ho : ¬ o < db_n) (hl : o + 7 < h.length) (hw : ws.length ≤ 288) (h15 : ∀ x ∈ ws, x ≤ 15) (hct : ct.length = 16) (K : ∀ ct', cntOK ct' ws → P none (cd h o ct' fw st gv (ws.map nI) wo sy wc gr fl)) : db_Go 10 0 [.ref o, .retAddr 0, .retAddr 0, .retAddr 0, .retAddr 0] [] (cd h o ct fw st gv (ws.map nI) wo sy wc gr fl) P := by
  have e0 : ∀ ct, (cd h o ct fw st gv (ws.map nI) wo sy wc gr fl)[o]? = some (.inr (2, [.ref (o + 5), .ref (o + 6), .ref (o + 7), .ref (o + 1), .ref (o + 2), .ref (o + 3), .ref (o + 4), .int wc, .int gr, .int fl])) := fun _ => cd_0 hl
  have e5 : ∀ ct, (cd h o ct fw st gv (ws.map nI) wo sy wc gr fl)[o + 5]? = some (.inl (0, ws.map nI)) := fun _ => cd_5 hl
  simp only [g_10_0, g_10_1, g_10_4, g_10_8, g_10_9, g_10_12, g_10_13, g_10_14, g_10_15, g_10_16, g_10_17, g_10_19, g_10_20, g_10_23, g_10_24, g_10_25, g_10_26, g_10_28, g_10_30, g_10_33, g_10_35, g_10_37, g_10_40, g_10_41, g_10_44, g_10_46, g_10_47, g_10_48, g_10_49, g_10_50, g_10_51, g_10_54, g_10_57, gs_nx, db_inx, gs_ldi, gs_lda, gs_ldn, List.getElem?_cons_zero, List.getElem?_cons_succ, List.set_cons_zero, List.set_cons_succ, gs_gx, fx_int, fx_ref, fx_null, gs_px, gs_lx, gs_ax, gs_sx, ft_int, ft_ref, ft_b0, ft_b1, c1_int, c1_ref, List.length_cons, List.length_nil, Nat.reduceAdd, Nat.reduceLT, Nat.reduceLeDiff, true_and, and_true, true_or, or_true, not_false_eq_true, Option.toList_some, Option.toList_none, List.nil_append, List.singleton_append, List.cons_append, e0, ho]
  refine c_10_5 (by simp) ?_
  refine m11 (by omega) (cd_1 hl) (by omega) ?_
  rw [cd_s1, hct]
  simp only [g_10_0, g_10_1, g_10_4, g_10_8, g_10_9, g_10_12, g_10_13, g_10_14, g_10_15, g_10_16, g_10_17, g_10_19, g_10_20, g_10_23, g_10_24, g_10_25, g_10_26, g_10_28, g_10_30, g_10_33, g_10_35, g_10_37, g_10_40, g_10_41, g_10_44, g_10_46, g_10_47, g_10_48, g_10_49, g_10_50, g_10_51, g_10_54, g_10_57, gs_nx, db_inx, gs_ldi, gs_lda, gs_ldn, List.getElem?_cons_zero, List.getElem?_cons_succ, List.set_cons_zero, List.set_cons_succ, gs_gx, fx_int, fx_ref, fx_null, gs_px, gs_lx, gs_ax, gs_sx, ft_int, ft_ref, ft_b0, ft_b1, c1_int, c1_ref, List.length_cons, List.length_nil, Nat.reduceAdd, Nat.reduceLT, Nat.reduceLeDiff, true_and, and_true, true_or, or_true, not_false_eq_true, Option.toList_some, Option.toList_none, List.nil_append, List.singleton_append, List.cons_append, e0, e5, ho]
  rw [List.length_map]
  exact m10_loop ho hl hw h15 K ws.length 0 _ _ (by omega) (by rw [List.take_zero]; exact cntOK_nil)
/-- what settle's loop has done below width w -/
def seOK (fw st : List Int32) (ws : List Nat) (w : Nat) : Prop := fw.length = 16 ∧ st.length = 16 ∧ ∀ v, 1 ≤ v → v < w → fw.getD v 0 = nI (2 * nx ws (v - 1)) ∧ st.getD v 0 = nI (sn ws (v - 1))
theorem seOK_add {w : Nat} (h : seOK fw st ws (w + 1)) (h2 : w + 1 ≤ 15) : seOK (fw.set (w + 1) (nI (2 * nx ws w))) (st.set (w + 1) (nI (sn ws w))) ws (w + 2) := by
  obtain ⟨a, b, c⟩ := h
  refine ⟨by simpa using a, by simpa using b, fun v h3 h4 => ?_⟩
  by_cases e : w + 1 = v
  · subst e
    rw [gd_self (by omega), gd_self (by omega)]
    exact ⟨rfl, rfl⟩
  · rw [gd_ne e, gd_ne e]
    exact c v h3 (by omega)
theorem sn_le (ws : List Nat) : ∀ w, sn ws w ≤ w * ws.length
  | 0 => by simp [sn]
  | w + 1 => by
    have h1 := sn_le ws w
    have h2 : ws.count (w + 1) ≤ ws.length := List.count_le_length
    rw [sn, Nat.succ_mul]
    omega
def bI (b : Bool) : Int32 := if b then nI 1 else nI 0
theorem ft_bI (b : Bool) : db_ft 1 (.int (bI b)) = true := by cases b <;> rfl
theorem shl1 {w : Nat} (hw : w ≤ 15) : nI 1 <<< (nI w &&& 31) = nI (2 ^ w) := by
  have h2 : 2 ^ w ≤ 2 ^ 15 := Nat.pow_le_pow_right (by decide) hw
  have := pk_shlN (n := 1) (nI w &&& 31) w (s_l w (by omega)) (by omega)
  rw [this, Nat.one_mul]
theorem m9_loop (ho : ¬ o < db_n) (hl : o + 7 < h.length) (hw : ws.length ≤ 288) (hct : cntOK ct ws) (K : ∀ fw' st', seOK fw' st' ws 16 → db_Go 9 110 [.ref o, .int (nI (nx ws 15)), .int (nI 16)] [] (cd h o ct fw' st' gv wd wo sy (nI (sn ws 15)) (nI (gt ws 15)) (bI (fu ws 15))) P) : ∀ (d w : Nat) (fw st : List Int32), w + d = 15 → seOK fw st ws (w + 1) → db_Go 9 23 [.ref o, .int (nI (nx ws w)), .int (nI (w + 1))] [] (cd h o ct fw st gv wd wo sy (nI (sn ws w)) (nI (gt ws w)) (bI (fu ws w))) P := by
  have ho2 : ¬ o + 2 < db_n := by omega
  have ho3 : ¬ o + 3 < db_n := by omega
  have e0 : ∀ fw st a b c, (cd h o ct fw st gv wd wo sy a b c)[o]? = some (.inr (2, [.ref (o + 5), .ref (o + 6), .ref (o + 7), .ref (o + 1), .ref (o + 2), .ref (o + 3), .ref (o + 4), .int a, .int b, .int c])) := fun _ _ _ _ _ => cd_0 hl
  have e1 : ∀ fw st a b c, (cd h o ct fw st gv wd wo sy a b c)[o + 1]? = some (.inl (0, ct)) := fun _ _ _ _ _ => cd_1 hl
  have e2 : ∀ fw st a b c, (cd h o ct fw st gv wd wo sy a b c)[o + 2]? = some (.inl (0, fw)) := fun _ _ _ _ _ => cd_2 hl
  have e3 : ∀ fw st a b c, (cd h o ct fw st gv wd wo sy a b c)[o + 3]? = some (.inl (0, st)) := fun _ _ _ _ _ => cd_3 hl
  intro d
  induction d with
  | zero =>
    intro w fw st hd hs
    have hw15 : w = 15 := by omega
    subst hw15
    rw [g_9_23]
    simp only [g_9_0, g_9_4, g_9_5, g_9_6, g_9_9, g_9_10, g_9_11, g_9_14, g_9_15, g_9_16, g_9_19, g_9_20, g_9_21, g_9_22, g_9_24, g_9_26, g_9_29, g_9_30, g_9_31, g_9_32, g_9_33, g_9_34, g_9_37, g_9_38, g_9_39, g_9_40, g_9_41, g_9_44, g_9_45, g_9_46, g_9_49, g_9_50, g_9_51, g_9_52, g_9_55, g_9_56, g_9_57, g_9_58, g_9_59, g_9_60, g_9_61, g_9_64, g_9_65, g_9_68, g_9_69, g_9_70, g_9_71, g_9_74, g_9_75, g_9_78, g_9_79, g_9_80, g_9_83, g_9_84, g_9_85, g_9_88, g_9_89, g_9_90, g_9_91, g_9_92, g_9_93, g_9_96, g_9_97, g_9_100, g_9_101, g_9_104, g_9_107, g_9_114, gs_nx, db_inx, gs_ldi, gs_lda, gs_ldn, List.getElem?_cons_zero, List.getElem?_cons_succ, List.set_cons_zero, List.set_cons_succ, gs_gx, fx_int, fx_ref, fx_null, gs_px, gs_lx, gs_ax, gs_sx, ft_int, ft_ref, ft_b0, ft_b1, c1_int, c1_ref, List.length_cons, List.length_nil, Nat.reduceAdd, Nat.reduceLT, Nat.reduceLeDiff, true_and, and_true, true_or, or_true, not_false_eq_true, Option.toList_some, Option.toList_none, List.nil_append, List.singleton_append, List.cons_append]
    rw [if_pos (nI_lt (by decide) (by decide))]
    exact K fw st hs
  | succ d ih =>
    intro w fw st hd hs
    have hn := nx_lt (w := w) hw (by omega)
    have hn1 := nx_lt (w := w + 1) hw (by omega)
    have hs1 := sn_le ws (w + 1)
    have hs2 : (w + 1) * ws.length ≤ 15 * 288 := Nat.mul_le_mul (by omega) hw
    have hc0 : ws.count (w + 1) ≤ ws.length := List.count_le_length
    have hcv := hct.2 (w + 1) (by omega) (by omega)
    have em : nI 2 * nI (nx ws w) = nI (2 * nx ws w) := pk_mul 2 _
    have en : nx ws (w + 1) = 2 * nx ws w + ws.count (w + 1) := rfl
    have es : sn ws (w + 1) = sn ws w + ws.count (w + 1) := rfl
    rw [g_9_23]
    simp only [g_9_0, g_9_4, g_9_5, g_9_6, g_9_9, g_9_10, g_9_11, g_9_14, g_9_15, g_9_16, g_9_19, g_9_20, g_9_21, g_9_22, g_9_24, g_9_26, g_9_29, g_9_30, g_9_31, g_9_32, g_9_33, g_9_34, g_9_37, g_9_38, g_9_39, g_9_40, g_9_41, g_9_44, g_9_45, g_9_46, g_9_49, g_9_50, g_9_51, g_9_52, g_9_55, g_9_56, g_9_57, g_9_58, g_9_59, g_9_60, g_9_61, g_9_64, g_9_65, g_9_68, g_9_69, g_9_70, g_9_71, g_9_74, g_9_75, g_9_78, g_9_79, g_9_80, g_9_83, g_9_84, g_9_85, g_9_88, g_9_89, g_9_90, g_9_91, g_9_92, g_9_93, g_9_96, g_9_97, g_9_100, g_9_101, g_9_104, g_9_107, g_9_114, gs_nx, db_inx, gs_ldi, gs_lda, gs_ldn, List.getElem?_cons_zero, List.getElem?_cons_succ, List.set_cons_zero, List.set_cons_succ, gs_gx, fx_int, fx_ref, fx_null, gs_px, gs_lx, gs_ax, gs_sx, ft_int, ft_ref, ft_b0, ft_b1, c1_int, c1_ref, List.length_cons, List.length_nil, Nat.reduceAdd, Nat.reduceLT, Nat.reduceLeDiff, true_and, and_true, true_or, or_true, not_false_eq_true, Option.toList_some, Option.toList_none, List.nil_append, List.singleton_append, List.cons_append, e0, e1, e2, e3, ho, ho2, ho3, cd_s0, cd_s2, cd_s3, ft_bI]
    rw [if_neg (nI_nlt (by omega) (by decide)), nI_clamp (by omega), hs.1, hs.2.1, hct.1, hcv, em, nI_add, nI_add, nI_add, ← en, ← es, shl1 (by omega)]
    refine ⟨in_nI (by omega) (by decide), in_nI (by omega) (by decide), in_nI (by omega) (by decide), in_nI (by omega) (by decide), in_nI (by omega) (by decide), ?_⟩
    have hnext := ih (w + 1) _ _ (by omega) (seOK_add hs (by omega))
    have h2w : 2 ^ (w + 1) ≤ 2 ^ 15 := Nat.pow_le_pow_right (by decide) (by omega)
    by_cases hc : 0 < ws.count (w + 1)
    · rw [gt, if_pos hc, fu, if_pos hc] at hnext
      rw [if_neg (nI_ge hc (by omega))]
      by_cases he : nx ws (w + 1) = 2 ^ (w + 1)
      · rw [decide_eq_true he] at hnext
        rw [if_neg (not_not_intro (by rw [he]))]
        exact hnext
      · rw [decide_eq_false he] at hnext
        rw [if_pos (fun z => he ((nI_eq (by omega) (by omega)).mp z))]
        exact hnext
    · rw [gt, if_neg hc, fu, if_neg hc] at hnext
      rw [if_pos (nI_le (by omega) (by decide))]
      exact hnext
end SE
