/-! giveWords, settle -/
def rk (ws : List Nat) (t : Nat) : Nat := (ws.take t).count (ws.getD t 0)
def wdN (ws : List Nat) (t : Nat) : Nat := 2 * nx ws (ws.getD t 0 - 1) + rk ws t
def ixN (ws : List Nat) (t : Nat) : Nat := sn ws (ws.getD t 0 - 1) + rk ws t
theorem sn_countP (ws : List Nat) : ∀ w, sn ws w = ws.countP (fun x => decide (1 ≤ x ∧ x ≤ w))
  | 0 => by
    rw [sn]
    symm
    rw [List.countP_eq_zero]
    intro x _
    simp
    omega
  | w + 1 => by
    rw [sn, sn_countP ws w]
    induction ws with
    | nil => rfl
    | cons a t ih =>
      rw [List.countP_cons, List.countP_cons, List.count_cons]
      by_cases h1 : a = w + 1
      · subst h1
        have q1 : decide (1 ≤ w + 1 ∧ w + 1 ≤ w + 1) = true := decide_eq_true ⟨by omega, by omega⟩
        have q2 : decide (1 ≤ w + 1 ∧ w + 1 ≤ w) = false := decide_eq_false (by omega)
        simp only [q1, q2, beq_self_eq_true, if_true, Bool.false_eq_true, if_false]
        omega
      · have h2 : (decide (1 ≤ a ∧ a ≤ w + 1)) = (decide (1 ≤ a ∧ a ≤ w)) := by
          apply decide_eq_decide.mpr
          omega
        simp only [h2, beq_iff_eq, h1, if_false]
        omega
theorem sn_len (ws : List Nat) (w : Nat) : sn ws w ≤ ws.length := by
  rw [sn_countP]
  exact List.countP_le_length
theorem sn_mono (ws : List Nat) {a b : Nat} (h : a ≤ b) : sn ws a ≤ sn ws b := by
  induction b with
  | zero => rw [show a = 0 by omega]; exact Nat.le_refl _
  | succ b ih =>
    by_cases e : a = b + 1
    · rw [e]; exact Nat.le_refl _
    · have := ih (by omega)
      rw [sn]
      omega
theorem rk_lt {ws : List Nat} {t : Nat} (ht : t < ws.length) : rk ws t + 1 ≤ ws.count (ws.getD t 0) := by
  have h1 : (ws.take (t + 1)).count (ws.getD t 0) ≤ ws.count (ws.getD t 0) := (List.take_sublist _ _).count_le _
  rw [take_snoc ht, List.count_append, List.count_singleton_self] at h1
  exact h1
theorem ix_lt {ws : List Nat} {t : Nat} (ht : t < ws.length) (h0 : 0 < ws.getD t 0) : ixN ws t < sn ws (ws.getD t 0) := by
  have h1 := rk_lt ht
  have h2 : sn ws (ws.getD t 0) = sn ws (ws.getD t 0 - 1) + ws.count (ws.getD t 0) := by
    obtain ⟨w, hw⟩ : ∃ w, ws.getD t 0 = w + 1 := ⟨ws.getD t 0 - 1, by omega⟩
    rw [hw]
    rfl
  unfold ixN
  omega
theorem ix_ne {ws : List Nat} {t s : Nat} (hts : t < s) (hs : s < ws.length) (h0 : 0 < ws.getD t 0) (h1 : 0 < ws.getD s 0) : ¬ ixN ws s = ixN ws t := by
  have ht : t < ws.length := by omega
  have a1 := ix_lt ht h0
  have a2 := ix_lt hs h1
  by_cases e : ws.getD t 0 = ws.getD s 0
  · have h2 : (ws.take (t + 1)).count (ws.getD t 0) ≤ (ws.take s).count (ws.getD t 0) := (List.take_sublist_take_left (by omega)).count_le _
    rw [take_snoc ht, List.count_append, List.count_singleton_self] at h2
    unfold ixN rk
    rw [← e]
    omega
  · rcases Nat.lt_or_ge (ws.getD t 0) (ws.getD s 0) with q | q
    · have := sn_mono ws (show ws.getD t 0 ≤ ws.getD s 0 - 1 by omega)
      have : sn ws (ws.getD s 0 - 1) ≤ ixN ws s := Nat.le_add_right _ _
      omega
    · have := sn_mono ws (show ws.getD s 0 ≤ ws.getD t 0 - 1 by omega)
      have : sn ws (ws.getD t 0 - 1) ≤ ixN ws t := Nat.le_add_right _ _
      omega
def gwOK (wo sy : List Int32) (ws : List Nat) (s : Nat) : Prop := wo.length = ws.length ∧ sy.length = ws.length ∧ ∀ t, t < s → 0 < ws.getD t 0 → wo.getD t 0 = nI (wdN ws t) ∧ sy.getD (ixN ws t) 0 = nI t
theorem gwOK_0 {wo sy : List Int32} {ws : List Nat} {s : Nat} (h : gwOK wo sy ws s) (h0 : ws.getD s 0 = 0) : gwOK wo sy ws (s + 1) := by
  obtain ⟨a, b, c⟩ := h
  refine ⟨a, b, fun t ht h1 => ?_⟩
  by_cases e : t = s
  · subst e
    omega
  · exact c t (by omega) h1
theorem gwOK_add {wo sy : List Int32} {ws : List Nat} {s : Nat} (h : gwOK wo sy ws s) (hs : s < ws.length) (h0 : 0 < ws.getD s 0) : gwOK (wo.set s (nI (wdN ws s))) (sy.set (ixN ws s) (nI s)) ws (s + 1) := by
  obtain ⟨a, b, c⟩ := h
  have hx := ix_lt hs h0
  have hx2 := sn_len ws (ws.getD s 0)
  refine ⟨by simpa using a, by simpa using b, fun t ht h1 => ?_⟩
  by_cases e : s = t
  · subst e
    rw [gd_self (by omega), gd_self (by omega)]
    exact ⟨rfl, rfl⟩
  · rw [gd_ne e, gd_ne (ix_ne (by omega) hs h1 h0)]
    exact c t (by omega) h1
section GW
variable {h : db_H} {P : Option Value → db_H → Prop} {o : Nat} {ct fw st gv wd wo sy : List Int32} {wc gr fl : Int32} {ws : List Nat}
theorem m12_loop (ho : ¬ o < db_n) (hl : o + 7 < h.length) (hw : ws.length ≤ 288) (h15 : ∀ x ∈ ws, x ≤ 15) (hse : seOK fw st ws 16) (K : ∀ gv' wo' sy', gv'.length = 16 → gwOK wo' sy' ws ws.length → P none (cd h o ct fw st gv' (ws.map nI) wo' sy' wc gr fl)) : ∀ (d s : Nat) (gv wo sy : List Int32) (x2 x3 : Value), s + d = ws.length → cntOK gv (ws.take s) → gwOK wo sy ws s → db_Go 12 10 [.ref o, .int (nI s), x2, x3] [] (cd h o ct fw st gv (ws.map nI) wo sy wc gr fl) P := by
  have ho4 : ¬ o + 4 < db_n := by omega
  have ho6 : ¬ o + 6 < db_n := by omega
  have ho7 : ¬ o + 7 < db_n := by omega
  have e0 : ∀ gv wo sy, (cd h o ct fw st gv (ws.map nI) wo sy wc gr fl)[o]? = some (.inr (2, [.ref (o + 5), .ref (o + 6), .ref (o + 7), .ref (o + 1), .ref (o + 2), .ref (o + 3), .ref (o + 4), .int wc, .int gr, .int fl])) := fun _ _ _ => cd_0 hl
  have e2 : ∀ gv wo sy, (cd h o ct fw st gv (ws.map nI) wo sy wc gr fl)[o + 2]? = some (.inl (0, fw)) := fun _ _ _ => cd_2 hl
  have e3 : ∀ gv wo sy, (cd h o ct fw st gv (ws.map nI) wo sy wc gr fl)[o + 3]? = some (.inl (0, st)) := fun _ _ _ => cd_3 hl
  have e4 : ∀ gv wo sy, (cd h o ct fw st gv (ws.map nI) wo sy wc gr fl)[o + 4]? = some (.inl (0, gv)) := fun _ _ _ => cd_4 hl
  have e5 : ∀ gv wo sy, (cd h o ct fw st gv (ws.map nI) wo sy wc gr fl)[o + 5]? = some (.inl (0, ws.map nI)) := fun _ _ _ => cd_5 hl
  have e6 : ∀ gv wo sy, (cd h o ct fw st gv (ws.map nI) wo sy wc gr fl)[o + 6]? = some (.inl (0, wo)) := fun _ _ _ => cd_6 hl
  have e7 : ∀ gv wo sy, (cd h o ct fw st gv (ws.map nI) wo sy wc gr fl)[o + 7]? = some (.inl (0, sy)) := fun _ _ _ => cd_7 hl
  intro d
  induction d with
  | zero =>
    intro s gv wo sy x2 x3 hd hg hk
    rw [g_12_10]
    simp only [g_12_0, g_12_1, g_12_4, g_12_8, g_12_9, g_12_11, g_12_12, g_12_15, g_12_16, g_12_19, g_12_20, g_12_23, g_12_24, g_12_25, g_12_26, g_12_27, g_12_30, g_12_31, g_12_33, g_12_36, g_12_37, g_12_40, g_12_41, g_12_42, g_12_43, g_12_46, g_12_47, g_12_48, g_12_49, g_12_50, g_12_51, g_12_54, g_12_55, g_12_56, g_12_59, g_12_60, g_12_61, g_12_62, g_12_65, g_12_66, g_12_67, g_12_68, g_12_69, g_12_70, g_12_73, g_12_74, g_12_75, g_12_78, g_12_79, g_12_82, g_12_83, g_12_86, g_12_87, g_12_88, g_12_89, g_12_90, g_12_93, g_12_94, g_12_95, g_12_96, g_12_97, g_12_98, g_12_99, g_12_102, g_12_105, gs_nx, db_inx, gs_ldi, gs_lda, gs_ldn, List.getElem?_cons_zero, List.getElem?_cons_succ, List.set_cons_zero, List.set_cons_succ, gs_gx, fx_int, fx_ref, fx_null, gs_px, gs_lx, gs_ax, gs_sx, ft_int, ft_ref, ft_b0, ft_b1, c1_int, c1_ref, List.length_cons, List.length_nil, Nat.reduceAdd, Nat.reduceLT, Nat.reduceLeDiff, true_and, and_true, true_or, or_true, not_false_eq_true, Option.toList_some, Option.toList_none, List.nil_append, List.singleton_append, List.cons_append, e0, e5, ho]
    rw [List.length_map, if_pos (nI_le (by omega) (by omega))]
    rw [show s = ws.length by omega] at hk
    exact K gv wo sy hg.1 hk
  | succ d ih =>
    intro s gv wo sy x2 x3 hd hg hk
    have hsl : s < ws.length := by omega
    have hx : ws.getD s 0 ≤ 15 := by
      rw [List.getD_eq_getElem?_getD, List.getElem?_eq_getElem hsl]
      exact h15 _ (List.getElem_mem hsl)
    have hts := take_snoc hsl
    have hnx := nx_lt (w := ws.getD s 0 - 1) hw (by omega)
    have hrk : rk ws s ≤ 288 := Nat.le_trans List.count_le_length (by simp; omega)
    rw [g_12_10]
    simp only [g_12_0, g_12_1, g_12_4, g_12_8, g_12_9, g_12_11, g_12_12, g_12_15, g_12_16, g_12_19, g_12_20, g_12_23, g_12_24, g_12_25, g_12_26, g_12_27, g_12_30, g_12_31, g_12_33, g_12_36, g_12_37, g_12_40, g_12_41, g_12_42, g_12_43, g_12_46, g_12_47, g_12_48, g_12_49, g_12_50, g_12_51, g_12_54, g_12_55, g_12_56, g_12_59, g_12_60, g_12_61, g_12_62, g_12_65, g_12_66, g_12_67, g_12_68, g_12_69, g_12_70, g_12_73, g_12_74, g_12_75, g_12_78, g_12_79, g_12_82, g_12_83, g_12_86, g_12_87, g_12_88, g_12_89, g_12_90, g_12_93, g_12_94, g_12_95, g_12_96, g_12_97, g_12_98, g_12_99, g_12_102, g_12_105, gs_nx, db_inx, gs_ldi, gs_lda, gs_ldn, List.getElem?_cons_zero, List.getElem?_cons_succ, List.set_cons_zero, List.set_cons_succ, gs_gx, fx_int, fx_ref, fx_null, gs_px, gs_lx, gs_ax, gs_sx, ft_int, ft_ref, ft_b0, ft_b1, c1_int, c1_ref, List.length_cons, List.length_nil, Nat.reduceAdd, Nat.reduceLT, Nat.reduceLeDiff, true_and, and_true, true_or, or_true, not_false_eq_true, Option.toList_some, Option.toList_none, List.nil_append, List.singleton_append, List.cons_append, e0, e2, e3, e4, e5, e6, e7, ho, ho4, ho6, ho7, cd_s4, cd_s6, cd_s7, Bool.and_self]
    rw [List.length_map, if_neg (nI_ge hsl (by omega)), nI_clamp (show s < 2 ^ 31 by omega), map_getD hsl]
    refine ⟨in_nI hsl (by omega), ?_⟩
    by_cases hz : ws.getD s 0 = 0
    · rw [hz, if_pos (nI_le (Nat.le_refl 0) (by decide)), nI_add]
      refine ih (s + 1) gv wo sy _ _ (by omega) ?_ (gwOK_0 hk hz)
      rw [hts, hz]
      exact cntOK_0 hg
    · have hpos : 0 < ws.getD s 0 := by omega
      have hix := ix_lt hsl hpos
      have hix2 := sn_len ws (ws.getD s 0)
      obtain ⟨s1, s2⟩ := hse.2.2 (ws.getD s 0) (by omega) (by omega)
      have hgv := hg.2 (ws.getD s 0) (by omega) hx
      have ew : nI (2 * nx ws (ws.getD s 0 - 1)) + nI (rk ws s) = nI (wdN ws s) := nI_add _ _
      have ei : nI (sn ws (ws.getD s 0 - 1)) + nI (rk ws s) = nI (ixN ws s) := nI_add _ _
      rw [if_neg (nI_ge hpos (by omega)), if_neg (nI_nlt hx (by decide)), nI_clamp (show ws.getD s 0 < 2 ^ 31 by omega), hse.1, hse.2.1, hg.1, s1, s2, hgv, hk.1, hk.2.1]
      rw [show (ws.take s).count (ws.getD s 0) = rk ws s from rfl, ew, ei, nI_add, nI_add]
      rw [if_neg (nI_lt0 (by omega)), if_neg (nI_ge (by omega) (by omega)), nI_clamp (show ixN ws s < 2 ^ 31 by omega)]
      have hfin := ih (s + 1) (gv.set (ws.getD s 0) (nI (rk ws s + 1))) _ _ (.int (nI (ws.getD s 0))) (.int (nI (ixN ws s))) (by omega) (by rw [hts]; exact cntOK_add hg (by omega) hx) (gwOK_add hk hsl hpos)
      refine ⟨in_nI (by omega) (by decide), in_nI (by omega) (by decide), in_nI (by omega) (by decide), in_nI (by omega) (by decide), in_nI hsl (by omega), in_nI (by omega) (by omega), in_nI (by omega) (by decide), in_nI (by omega) (by decide), ?_⟩
      exact hfin
/-- giveWords -/
theorem m12 (ho : ¬ o < db_n) (hl : o + 7 < h.length) (hw : ws.length ≤ 288) (h15 : ∀ x ∈ ws, x ≤ 15) (hse : seOK fw st ws 16) (hgv : gv.length = 16) (hwo : wo.length = ws.length) (hsy : sy.length = ws.length) (K : ∀ gv' wo' sy', gv'.length = 16 → gwOK wo' sy' ws ws.length → P none (cd h o ct fw st gv' (ws.map nI) wo' sy' wc gr fl)) : db_Go 12 0 [.ref o, .retAddr 0, .retAddr 0, .retAddr 0] [] (cd h o ct fw st gv (ws.map nI) wo sy wc gr fl) P := by
  have e0 : ∀ gv wo sy, (cd h o ct fw st gv (ws.map nI) wo sy wc gr fl)[o]? = some (.inr (2, [.ref (o + 5), .ref (o + 6), .ref (o + 7), .ref (o + 1), .ref (o + 2), .ref (o + 3), .ref (o + 4), .int wc, .int gr, .int fl])) := fun _ _ _ => cd_0 hl
  simp only [g_12_0, g_12_1, g_12_4, g_12_8, g_12_9, g_12_11, g_12_12, g_12_15, g_12_16, g_12_19, g_12_20, g_12_23, g_12_24, g_12_25, g_12_26, g_12_27, g_12_30, g_12_31, g_12_33, g_12_36, g_12_37, g_12_40, g_12_41, g_12_42, g_12_43, g_12_46, g_12_47, g_12_48, g_12_49, g_12_50, g_12_51, g_12_54, g_12_55, g_12_56, g_12_59, g_12_60, g_12_61, g_12_62, g_12_65, g_12_66, g_12_67, g_12_68, g_12_69, g_12_70, g_12_73, g_12_74, g_12_75, g_12_78, g_12_79, g_12_82, g_12_83, g_12_86, g_12_87, g_12_88, g_12_89, g_12_90, g_12_93, g_12_94, g_12_95, g_12_96, g_12_97, g_12_98, g_12_99, g_12_102, g_12_105, gs_nx, db_inx, gs_ldi, gs_lda, gs_ldn, List.getElem?_cons_zero, List.getElem?_cons_succ, List.set_cons_zero, List.set_cons_succ, gs_gx, fx_int, fx_ref, fx_null, gs_px, gs_lx, gs_ax, gs_sx, ft_int, ft_ref, ft_b0, ft_b1, c1_int, c1_ref, List.length_cons, List.length_nil, Nat.reduceAdd, Nat.reduceLT, Nat.reduceLeDiff, true_and, and_true, true_or, or_true, not_false_eq_true, Option.toList_some, Option.toList_none, List.nil_append, List.singleton_append, List.cons_append, e0, ho]
  refine c_12_5 (by simp) ?_
  refine m11 (by omega) (cd_4 hl) (by omega) ?_
  rw [cd_s4, hgv]
  simp only [g_12_0, g_12_1, g_12_4, g_12_8, g_12_9, g_12_11, g_12_12, g_12_15, g_12_16, g_12_19, g_12_20, g_12_23, g_12_24, g_12_25, g_12_26, g_12_27, g_12_30, g_12_31, g_12_33, g_12_36, g_12_37, g_12_40, g_12_41, g_12_42, g_12_43, g_12_46, g_12_47, g_12_48, g_12_49, g_12_50, g_12_51, g_12_54, g_12_55, g_12_56, g_12_59, g_12_60, g_12_61, g_12_62, g_12_65, g_12_66, g_12_67, g_12_68, g_12_69, g_12_70, g_12_73, g_12_74, g_12_75, g_12_78, g_12_79, g_12_82, g_12_83, g_12_86, g_12_87, g_12_88, g_12_89, g_12_90, g_12_93, g_12_94, g_12_95, g_12_96, g_12_97, g_12_98, g_12_99, g_12_102, g_12_105, gs_nx, db_inx, gs_ldi, gs_lda, gs_ldn, List.getElem?_cons_zero, List.getElem?_cons_succ, List.set_cons_zero, List.set_cons_succ, gs_gx, fx_int, fx_ref, fx_null, gs_px, gs_lx, gs_ax, gs_sx, ft_int, ft_ref, ft_b0, ft_b1, c1_int, c1_ref, List.length_cons, List.length_nil, Nat.reduceAdd, Nat.reduceLT, Nat.reduceLeDiff, true_and, and_true, true_or, or_true, not_false_eq_true, Option.toList_some, Option.toList_none, List.nil_append, List.singleton_append, List.cons_append, e0, ho]
  exact m12_loop ho hl hw h15 hse K ws.length 0 _ _ _ _ _ (by omega) (by rw [List.take_zero]; exact cntOK_nil) ⟨hwo, hsy, fun t ht => absurd ht (Nat.not_lt_zero t)⟩
/-- what settle leaves: a CODE worked out -/
def cdOK (ct fw st gv wo sy : List Int32) (ws : List Nat) : Prop := cntOK ct ws ∧ seOK fw st ws 16 ∧ gv.length = 16 ∧ gwOK wo sy ws ws.length
/-- settle -/
theorem m9 (ho : ¬ o < db_n) (hl : o + 7 < h.length) (hw : ws.length ≤ 288) (h15 : ∀ x ∈ ws, x ≤ 15) (hct : ct.length = 16) (hfw : fw.length = 16) (hst : st.length = 16) (hgv : gv.length = 16) (hwo : wo.length = ws.length) (hsy : sy.length = ws.length)
    (K : ∀ ct' fw' st' gv' wo' sy', cdOK ct' fw' st' gv' wo' sy' ws → P none (cd h o ct' fw' st' gv' (ws.map nI) wo' sy' (nI (sn ws 15)) (nI (gt ws 15)) (bI (fu ws 15)))) : db_Go 9 0 [.ref o, .retAddr 0, .retAddr 0] [] (cd h o ct fw st gv (ws.map nI) wo sy wc gr fl) P := by
  have e0 : ∀ ct fw st gv wo sy a b c, (cd h o ct fw st gv (ws.map nI) wo sy a b c)[o]? = some (.inr (2, [.ref (o + 5), .ref (o + 6), .ref (o + 7), .ref (o + 1), .ref (o + 2), .ref (o + 3), .ref (o + 4), .int a, .int b, .int c])) := fun _ _ _ _ _ _ _ _ _ => cd_0 hl
  simp only [g_9_0, g_9_4, g_9_5, g_9_6, g_9_9, g_9_10, g_9_11, g_9_14, g_9_15, g_9_16, g_9_19, g_9_20, g_9_21, g_9_22, g_9_24, g_9_26, g_9_29, g_9_30, g_9_31, g_9_32, g_9_33, g_9_34, g_9_37, g_9_38, g_9_39, g_9_40, g_9_41, g_9_44, g_9_45, g_9_46, g_9_49, g_9_50, g_9_51, g_9_52, g_9_55, g_9_56, g_9_57, g_9_58, g_9_59, g_9_60, g_9_61, g_9_64, g_9_65, g_9_68, g_9_69, g_9_70, g_9_71, g_9_74, g_9_75, g_9_78, g_9_79, g_9_80, g_9_83, g_9_84, g_9_85, g_9_88, g_9_89, g_9_90, g_9_91, g_9_92, g_9_93, g_9_96, g_9_97, g_9_100, g_9_101, g_9_104, g_9_107, g_9_110, g_9_114, gs_nx, db_inx, gs_ldi, gs_lda, gs_ldn, List.getElem?_cons_zero, List.getElem?_cons_succ, List.set_cons_zero, List.set_cons_succ, gs_gx, fx_int, fx_ref, fx_null, gs_px, gs_lx, gs_ax, gs_sx, ft_int, ft_ref, ft_b0, ft_b1, c1_int, c1_ref, List.length_cons, List.length_nil, Nat.reduceAdd, Nat.reduceLT, Nat.reduceLeDiff, true_and, and_true, true_or, or_true, not_false_eq_true, Option.toList_some, Option.toList_none, List.nil_append, List.singleton_append, List.cons_append, e0, ho]
  refine c_9_1 (by simp) ho (e0 _ _ _ _ _ _ _ _ _) ?_
  refine m10 ho hl hw h15 hct (fun ct' hc' => ?_)
  simp only [g_9_0, g_9_4, g_9_5, g_9_6, g_9_9, g_9_10, g_9_11, g_9_14, g_9_15, g_9_16, g_9_19, g_9_20, g_9_21, g_9_22, g_9_24, g_9_26, g_9_29, g_9_30, g_9_31, g_9_32, g_9_33, g_9_34, g_9_37, g_9_38, g_9_39, g_9_40, g_9_41, g_9_44, g_9_45, g_9_46, g_9_49, g_9_50, g_9_51, g_9_52, g_9_55, g_9_56, g_9_57, g_9_58, g_9_59, g_9_60, g_9_61, g_9_64, g_9_65, g_9_68, g_9_69, g_9_70, g_9_71, g_9_74, g_9_75, g_9_78, g_9_79, g_9_80, g_9_83, g_9_84, g_9_85, g_9_88, g_9_89, g_9_90, g_9_91, g_9_92, g_9_93, g_9_96, g_9_97, g_9_100, g_9_101, g_9_104, g_9_107, g_9_110, g_9_114, gs_nx, db_inx, gs_ldi, gs_lda, gs_ldn, List.getElem?_cons_zero, List.getElem?_cons_succ, List.set_cons_zero, List.set_cons_succ, gs_gx, fx_int, fx_ref, fx_null, gs_px, gs_lx, gs_ax, gs_sx, ft_int, ft_ref, ft_b0, ft_b1, c1_int, c1_ref, List.length_cons, List.length_nil, Nat.reduceAdd, Nat.reduceLT, Nat.reduceLeDiff, true_and, and_true, true_or, or_true, not_false_eq_true, Option.toList_some, Option.toList_none, List.nil_append, List.singleton_append, List.cons_append, e0, ho, cd_s0]
  refine m9_loop (ws := ws) ho hl hw hc' (fun fw' st' hs' => ?_) 15 0 fw st rfl ⟨hfw, hst, fun v h1 h2 => by omega⟩
  simp only [g_9_0, g_9_4, g_9_5, g_9_6, g_9_9, g_9_10, g_9_11, g_9_14, g_9_15, g_9_16, g_9_19, g_9_20, g_9_21, g_9_22, g_9_24, g_9_26, g_9_29, g_9_30, g_9_31, g_9_32, g_9_33, g_9_34, g_9_37, g_9_38, g_9_39, g_9_40, g_9_41, g_9_44, g_9_45, g_9_46, g_9_49, g_9_50, g_9_51, g_9_52, g_9_55, g_9_56, g_9_57, g_9_58, g_9_59, g_9_60, g_9_61, g_9_64, g_9_65, g_9_68, g_9_69, g_9_70, g_9_71, g_9_74, g_9_75, g_9_78, g_9_79, g_9_80, g_9_83, g_9_84, g_9_85, g_9_88, g_9_89, g_9_90, g_9_91, g_9_92, g_9_93, g_9_96, g_9_97, g_9_100, g_9_101, g_9_104, g_9_107, g_9_110, g_9_114, gs_nx, db_inx, gs_ldi, gs_lda, gs_ldn, List.getElem?_cons_zero, List.getElem?_cons_succ, List.set_cons_zero, List.set_cons_succ, gs_gx, fx_int, fx_ref, fx_null, gs_px, gs_lx, gs_ax, gs_sx, ft_int, ft_ref, ft_b0, ft_b1, c1_int, c1_ref, List.length_cons, List.length_nil, Nat.reduceAdd, Nat.reduceLT, Nat.reduceLeDiff, true_and, and_true, true_or, or_true, not_false_eq_true, Option.toList_some, Option.toList_none, List.nil_append, List.singleton_append, List.cons_append, e0, ho]
  refine c_9_111 (by simp) ho (e0 _ _ _ _ _ _ _ _ _) ?_
  refine m12 ho hl hw h15 hs' hgv hwo hsy (fun gv' wo' sy' hg' hk' => ?_)
  simp only [g_9_0, g_9_4, g_9_5, g_9_6, g_9_9, g_9_10, g_9_11, g_9_14, g_9_15, g_9_16, g_9_19, g_9_20, g_9_21, g_9_22, g_9_24, g_9_26, g_9_29, g_9_30, g_9_31, g_9_32, g_9_33, g_9_34, g_9_37, g_9_38, g_9_39, g_9_40, g_9_41, g_9_44, g_9_45, g_9_46, g_9_49, g_9_50, g_9_51, g_9_52, g_9_55, g_9_56, g_9_57, g_9_58, g_9_59, g_9_60, g_9_61, g_9_64, g_9_65, g_9_68, g_9_69, g_9_70, g_9_71, g_9_74, g_9_75, g_9_78, g_9_79, g_9_80, g_9_83, g_9_84, g_9_85, g_9_88, g_9_89, g_9_90, g_9_91, g_9_92, g_9_93, g_9_96, g_9_97, g_9_100, g_9_101, g_9_104, g_9_107, g_9_110, g_9_114, gs_nx, db_inx, gs_ldi, gs_lda, gs_ldn, List.getElem?_cons_zero, List.getElem?_cons_succ, List.set_cons_zero, List.set_cons_succ, gs_gx, fx_int, fx_ref, fx_null, gs_px, gs_lx, gs_ax, gs_sx, ft_int, ft_ref, ft_b0, ft_b1, c1_int, c1_ref, List.length_cons, List.length_nil, Nat.reduceAdd, Nat.reduceLT, Nat.reduceLeDiff, true_and, and_true, true_or, or_true, not_false_eq_true, Option.toList_some, Option.toList_none, List.nil_append, List.singleton_append, List.cons_append]
  exact K ct' fw' st' gv' wo' sy' ⟨hc', hs', hg', hk'⟩
end GW
