/-! Arrays.fill; a Code at o: its cells, countWidths, settle, giveWords -/
theorem set_fill {l : List Int32} {v : Int32} {i : Nat} (hi : i < l.length) : (List.replicate i v ++ l.drop i).set i v = List.replicate (i + 1) v ++ l.drop (i + 1) := by
  apply List.ext_getElem?
  intro j
  by_cases e : i = j
  · subst e
    rw [List.getElem?_set_self (by simp; omega), List.getElem?_append_left (by simp)]
    simp
  · rw [List.getElem?_set_ne e]
    by_cases h1 : j < i
    · rw [List.getElem?_append_left (by simpa using h1), List.getElem?_append_left (by simp; omega)]
      simp [h1, show j < i + 1 by omega]
    · rw [List.getElem?_append_right (by simp; omega), List.getElem?_append_right (by simp; omega)]
      simp only [List.length_replicate, List.getElem?_drop]
      congr 1
      omega
section FL
variable {h : db_H} {P : Option Value → db_H → Prop} {l : List Int32} {v : Int32} {k : Nat}
theorem m11_loop (hk : ¬ k < db_n) (hkl : k < h.length) (hl : l.length < 2 ^ 31) (K : P none (h.set k (.inl (0, List.replicate l.length v)))) : ∀ (d i : Nat), i + d = l.length → db_Go 11 5 [.ref k, .int v, .int (nI i), .int (nI l.length)] [] (h.set k (.inl (0, List.replicate i v ++ l.drop i))) P := by
  intro d
  induction d with
  | zero =>
    intro i hi
    rw [g_11_5]
    simp only [g_11_0, g_11_1, g_11_2, g_11_3, g_11_4, g_11_6, g_11_7, g_11_10, g_11_11, g_11_12, g_11_13, g_11_14, g_11_17, g_11_20, gs_nx, db_inx, gs_ldi, gs_lda, gs_ldn, List.getElem?_cons_zero, List.getElem?_cons_succ, List.set_cons_zero, List.set_cons_succ, gs_gx, fx_int, fx_ref, fx_null, gs_px, gs_lx, gs_ax, gs_sx, ft_int, ft_ref, ft_b0, ft_b1, c1_int, c1_ref, List.length_cons, List.length_nil, Nat.reduceAdd, Nat.reduceLT, Nat.reduceLeDiff, true_and, and_true, true_or, or_true, not_false_eq_true, Option.toList_some, Option.toList_none, List.nil_append, List.singleton_append, List.cons_append]
    rw [if_pos (nI_le (by omega) (by omega)), show i = l.length by omega, List.drop_length, List.append_nil]
    exact K
  | succ d ih =>
    intro i hi
    have e1 : (h.set k (.inl (0, List.replicate i v ++ l.drop i)))[k]? = some (.inl (0, List.replicate i v ++ l.drop i)) := hs_at hkl
    rw [g_11_5]
    simp only [g_11_0, g_11_1, g_11_2, g_11_3, g_11_4, g_11_6, g_11_7, g_11_10, g_11_11, g_11_12, g_11_13, g_11_14, g_11_17, g_11_20, gs_nx, db_inx, gs_ldi, gs_lda, gs_ldn, List.getElem?_cons_zero, List.getElem?_cons_succ, List.set_cons_zero, List.set_cons_succ, gs_gx, fx_int, fx_ref, fx_null, gs_px, gs_lx, gs_ax, gs_sx, ft_int, ft_ref, ft_b0, ft_b1, c1_int, c1_ref, List.length_cons, List.length_nil, Nat.reduceAdd, Nat.reduceLT, Nat.reduceLeDiff, true_and, and_true, true_or, or_true, not_false_eq_true, Option.toList_some, Option.toList_none, List.nil_append, List.singleton_append, List.cons_append, e1, hk, hs_over]
    rw [if_neg (nI_ge (by omega) (by omega)), nI_clamp (by omega), nI_add, set_fill (by omega)]
    exact ⟨in_nI (by simp; omega) (by simp; omega), ih (i + 1) (by omega)⟩
/-- Arrays.fill -/
theorem m11 (hk : ¬ k < db_n) (hr : h[k]? = some (.inl (0, l))) (hl : l.length < 2 ^ 31) (K : P none (h.set k (.inl (0, List.replicate l.length v)))) : db_Go 11 0 [.ref k, .int v, .retAddr 0, .retAddr 0] [] h P := by
  simp only [g_11_0, g_11_1, g_11_2, g_11_3, g_11_4, g_11_6, g_11_7, g_11_10, g_11_11, g_11_12, g_11_13, g_11_14, g_11_17, g_11_20, gs_nx, db_inx, gs_ldi, gs_lda, gs_ldn, List.getElem?_cons_zero, List.getElem?_cons_succ, List.set_cons_zero, List.set_cons_succ, gs_gx, fx_int, fx_ref, fx_null, gs_px, gs_lx, gs_ax, gs_sx, ft_int, ft_ref, ft_b0, ft_b1, c1_int, c1_ref, List.length_cons, List.length_nil, Nat.reduceAdd, Nat.reduceLT, Nat.reduceLeDiff, true_and, and_true, true_or, or_true, not_false_eq_true, Option.toList_some, Option.toList_none, List.nil_append, List.singleton_append, List.cons_append, hr]
  have := m11_loop hk (List.getElem?_eq_some_iff.mp hr).1 hl K l.length 0 (by omega)
  rw [List.replicate_zero, List.nil_append, List.drop_zero, hs_self hr] at this
  exact this
end FL
def cd (h : db_H) (o : Nat) (ct fw st gv wd wo sy : List Int32) (wc gr fl : Int32) : db_H := (((((((h.set (o + 1) (.inl (0, ct))).set (o + 2) (.inl (0, fw))).set (o + 3) (.inl (0, st))).set (o + 4) (.inl (0, gv))).set (o + 5) (.inl (0, wd))).set (o + 6) (.inl (0, wo))).set (o + 7) (.inl (0, sy))).set o (.inr (2, [.ref (o + 5), .ref (o + 6), .ref (o + 7), .ref (o + 1), .ref (o + 2), .ref (o + 3), .ref (o + 4), .int wc, .int gr, .int fl]))
section CD
variable {h : db_H} {P : Option Value → db_H → Prop} {o : Nat} {ct fw st gv wd wo sy : List Int32} {wc gr fl : Int32}
theorem cd_0 (hl : o + 7 < h.length) : (cd h o ct fw st gv wd wo sy wc gr fl)[o]? = some (.inr (2, [.ref (o + 5), .ref (o + 6), .ref (o + 7), .ref (o + 1), .ref (o + 2), .ref (o + 3), .ref (o + 4), .int wc, .int gr, .int fl])) := hs_at (by simp only [List.length_set]; omega)
theorem cd_1 (hl : o + 7 < h.length) : (cd h o ct fw st gv wd wo sy wc gr fl)[o + 1]? = some (.inl (0, ct)) := (hs_ne (by omega)).trans ((hs_ne (by omega)).trans ((hs_ne (by omega)).trans ((hs_ne (by omega)).trans ((hs_ne (by omega)).trans ((hs_ne (by omega)).trans ((hs_ne (by omega)).trans (hs_at (by first | omega | (simp only [List.length_set]; omega)))))))))
theorem cd_s1 {x : List Int32} : (cd h o ct fw st gv wd wo sy wc gr fl).set (o + 1) (.inl (0, x)) = cd h o x fw st gv wd wo sy wc gr fl := by
  unfold cd
  rw [hs_comm (o := o) (r := o + 1) (by omega), hs_comm (o := o + 7) (r := o + 1) (by omega), hs_comm (o := o + 6) (r := o + 1) (by omega), hs_comm (o := o + 5) (r := o + 1) (by omega), hs_comm (o := o + 4) (r := o + 1) (by omega), hs_comm (o := o + 3) (r := o + 1) (by omega), hs_comm (o := o + 2) (r := o + 1) (by omega), hs_over]
theorem cd_2 (hl : o + 7 < h.length) : (cd h o ct fw st gv wd wo sy wc gr fl)[o + 2]? = some (.inl (0, fw)) := (hs_ne (by omega)).trans ((hs_ne (by omega)).trans ((hs_ne (by omega)).trans ((hs_ne (by omega)).trans ((hs_ne (by omega)).trans ((hs_ne (by omega)).trans (hs_at (by first | omega | (simp only [List.length_set]; omega))))))))
theorem cd_s2 {x : List Int32} : (cd h o ct fw st gv wd wo sy wc gr fl).set (o + 2) (.inl (0, x)) = cd h o ct x st gv wd wo sy wc gr fl := by
  unfold cd
  rw [hs_comm (o := o) (r := o + 2) (by omega), hs_comm (o := o + 7) (r := o + 2) (by omega), hs_comm (o := o + 6) (r := o + 2) (by omega), hs_comm (o := o + 5) (r := o + 2) (by omega), hs_comm (o := o + 4) (r := o + 2) (by omega), hs_comm (o := o + 3) (r := o + 2) (by omega), hs_over]
theorem cd_3 (hl : o + 7 < h.length) : (cd h o ct fw st gv wd wo sy wc gr fl)[o + 3]? = some (.inl (0, st)) := (hs_ne (by omega)).trans ((hs_ne (by omega)).trans ((hs_ne (by omega)).trans ((hs_ne (by omega)).trans ((hs_ne (by omega)).trans (hs_at (by first | omega | (simp only [List.length_set]; omega)))))))
theorem cd_s3 {x : List Int32} : (cd h o ct fw st gv wd wo sy wc gr fl).set (o + 3) (.inl (0, x)) = cd h o ct fw x gv wd wo sy wc gr fl := by
  unfold cd
  rw [hs_comm (o := o) (r := o + 3) (by omega), hs_comm (o := o + 7) (r := o + 3) (by omega), hs_comm (o := o + 6) (r := o + 3) (by omega), hs_comm (o := o + 5) (r := o + 3) (by omega), hs_comm (o := o + 4) (r := o + 3) (by omega), hs_over]
theorem cd_4 (hl : o + 7 < h.length) : (cd h o ct fw st gv wd wo sy wc gr fl)[o + 4]? = some (.inl (0, gv)) := (hs_ne (by omega)).trans ((hs_ne (by omega)).trans ((hs_ne (by omega)).trans ((hs_ne (by omega)).trans (hs_at (by first | omega | (simp only [List.length_set]; omega))))))
theorem cd_s4 {x : List Int32} : (cd h o ct fw st gv wd wo sy wc gr fl).set (o + 4) (.inl (0, x)) = cd h o ct fw st x wd wo sy wc gr fl := by
  unfold cd
  rw [hs_comm (o := o) (r := o + 4) (by omega), hs_comm (o := o + 7) (r := o + 4) (by omega), hs_comm (o := o + 6) (r := o + 4) (by omega), hs_comm (o := o + 5) (r := o + 4) (by omega), hs_over]
theorem cd_5 (hl : o + 7 < h.length) : (cd h o ct fw st gv wd wo sy wc gr fl)[o + 5]? = some (.inl (0, wd)) := (hs_ne (by omega)).trans ((hs_ne (by omega)).trans ((hs_ne (by omega)).trans (hs_at (by first | omega | (simp only [List.length_set]; omega)))))
theorem cd_s5 {x : List Int32} : (cd h o ct fw st gv wd wo sy wc gr fl).set (o + 5) (.inl (0, x)) = cd h o ct fw st gv x wo sy wc gr fl := by
  unfold cd
  rw [hs_comm (o := o) (r := o + 5) (by omega), hs_comm (o := o + 7) (r := o + 5) (by omega), hs_comm (o := o + 6) (r := o + 5) (by omega), hs_over]
theorem cd_6 (hl : o + 7 < h.length) : (cd h o ct fw st gv wd wo sy wc gr fl)[o + 6]? = some (.inl (0, wo)) := (hs_ne (by omega)).trans ((hs_ne (by omega)).trans (hs_at (by first | omega | (simp only [List.length_set]; omega))))
theorem cd_s6 {x : List Int32} : (cd h o ct fw st gv wd wo sy wc gr fl).set (o + 6) (.inl (0, x)) = cd h o ct fw st gv wd x sy wc gr fl := by
  unfold cd
  rw [hs_comm (o := o) (r := o + 6) (by omega), hs_comm (o := o + 7) (r := o + 6) (by omega), hs_over]
theorem cd_7 (hl : o + 7 < h.length) : (cd h o ct fw st gv wd wo sy wc gr fl)[o + 7]? = some (.inl (0, sy)) := (hs_ne (by omega)).trans (hs_at (by first | omega | (simp only [List.length_set]; omega)))
theorem cd_s7 {x : List Int32} : (cd h o ct fw st gv wd wo sy wc gr fl).set (o + 7) (.inl (0, x)) = cd h o ct fw st gv wd wo x wc gr fl := by
  unfold cd
  rw [hs_comm (o := o) (r := o + 7) (by omega), hs_over]
theorem cd_s0 {a b c : Int32} : (cd h o ct fw st gv wd wo sy wc gr fl).set o (.inr (2, [.ref (o + 5), .ref (o + 6), .ref (o + 7), .ref (o + 1), .ref (o + 2), .ref (o + 3), .ref (o + 4), .int a, .int b, .int c])) = cd h o ct fw st gv wd wo sy a b c := hs_over
theorem cd_ne {k : Nat} (hk : k < o ∨ o + 7 < k) : (cd h o ct fw st gv wd wo sy wc gr fl)[k]? = h[k]? := (hs_ne (by omega)).trans ((hs_ne (by omega)).trans ((hs_ne (by omega)).trans ((hs_ne (by omega)).trans ((hs_ne (by omega)).trans ((hs_ne (by omega)).trans ((hs_ne (by omega)).trans (hs_ne (by omega))))))))
theorem cd_len : (cd h o ct fw st gv wd wo sy wc gr fl).length = h.length := by simp only [cd, List.length_set]
end CD
