/-! the model: BLOCKS that are read, the call that reads THE TAPE -/
theorem rd1 {B : List Bool} {s : Rd} : rdF B 1 s = rb B s := by
  show rf B 0 1 (0 + (rb B s).1 * 2 ^ 0) (rb B s).2 = rb B s
  rw [rf, Nat.pow_zero, Nat.mul_one, Nat.zero_add]
theorem fxS_7 {v : Nat} (h : 0 < fxS.count v) : 7 ≤ v := by
  have := List.count_pos_iff.mp h
  unfold fxS at this
  simp only [List.mem_append, List.mem_replicate] at this
  omega
theorem spF_0 {B : List Bool} {ws ds : List Nat} {d : Nat} {x : List Nat × Rd} (hx : okR B x.2) (h : (spF B ws ds (d + 1) x).2.2 = 0) : x.2.2 = 0 ∧ ∃ v, 0 < ws.count v ∧ x.2.1 + v ≤ (spF B ws ds (d + 1) x).2.1 := by
  have q : x.2.2 = 0 := by
    rcases Nat.eq_zero_or_pos x.2.2 with e | e
    · exact e
    · rw [spF_f (by omega)] at h
      exact h
  refine ⟨q, ?_⟩
  rw [spF, if_pos q] at h ⊢
  have so := @sym_ok B ws x.2 hx
  have s0 := @sym_0 B ws x.2
  generalize sym B ws x.2 = t at *
  by_cases q1 : t.2.2 = 0
  · obtain ⟨_, _, v, v1, v2, v3, v4⟩ := s0 q1
    refine ⟨v, v3, ?_⟩
    rw [if_pos q1] at h ⊢
    have m : moR B x (x.1, t.2) := ⟨so.1, so.2, Nat.le_refl _⟩
    by_cases q2 : t.1 = 256
    · rw [if_pos q2]
      show _ ≤ t.2.1
      omega
    · rw [if_neg q2] at h ⊢
      by_cases q3 : t.1 < 256
      · rw [if_pos q3]
        have b := cm_m (B := B) (v := t.1) (x := (x.1, t.2)) so.1
        have c := spF_m (ws := ws) (ds := ds) d _ b.1
        have := b.2.1
        have := c.2.1
        simp only at *
        omega
      · rw [if_neg q3] at h ⊢
        by_cases q4 : 285 < t.1
        · rw [if_pos q4] at h
          exact absurd h (fl_ne (by decide))
        · rw [if_neg q4]
          have b := stR_m (B := B) (ds := ds) (i := t.1 - 257) (x := (x.1, t.2)) so.1
          have c := spF_m (ws := ws) (ds := ds) d _ b.1
          have := b.2.1
          have := c.2.1
          simp only at *
          omega
  · rw [if_neg q1] at h
    exact absurd h q1
theorem plF_0 {B : List Bool} {n : Nat} {x : List Nat × Rd} (h : (plF B n x).2.2 = 0) : x.2.2 = 0 := by
  rcases Nat.eq_zero_or_pos x.2.2 with e | e
  · exact e
  · rw [plF_f (by omega)] at h
    exact h
/-- a BLOCK without a FAULT has ten bits at least -/
theorem bk3_10 {B : List Bool} {x : List Nat × Rd} (h8 : B.length % 8 = 0) (hx : okR B x.2) (h : (bk3 B x).2.2 = 0) : x.2.2 = 0 ∧ x.2.1 + 10 ≤ (bk3 B x).2.1 := by
  unfold bk3 bk2 bk1 at h ⊢
  have a := @rdF_ok B 1 x.2 hx
  have a0 := @rdF_0 B 1 x.2
  generalize rdF B 1 x.2 = t1 at *
  have b := @rdF_ok B 2 t1.2 a.1
  have b0 := @rdF_0 B 2 t1.2
  generalize rdF B 2 t1.2 = t2 at *
  have fin : t2.2.2 = 0 → t2.2.1 + 7 ≤ (bkY B t2.1 (x.1, t2.2)).2.1 → x.2.2 = 0 ∧ x.2.1 + 10 ≤ (bkY B t2.1 (x.1, t2.2)).2.1 := fun z w => by
    have b0 := b0 z
    have a0 := a0 b0.1
    exact ⟨a0.1, by omega⟩
  refine fin ?_ ?_
  · unfold bkY at h
    by_cases k0 : t2.1 = 0
    · rw [if_pos k0] at h
      rcases Nat.eq_zero_or_pos t2.2.2 with e | e
      · exact e
      · rw [rPl_f (by show ¬ t2.2.2 = 0; omega)] at h
        exact h
    · rw [if_neg k0] at h
      by_cases k1 : t2.1 = 1
      · rw [if_pos k1] at h
        exact (spF_0 (d := 300) (x := (x.1, t2.2)) b.1 h).1
      · rw [if_neg k1] at h
        by_cases k2 : t2.1 = 2
        · rw [if_pos k2] at h
          have om := ownF_m (B := B) (s := t2.2) b.1
          simp only at h
          generalize ownF B t2.2 = w at *
          exact (om.2.2 (spF_0 (d := 300) (x := (x.1, w.2.2.2)) om.1 h).1).1
        · rw [if_neg k2] at h
          exact absurd h (fl_ne (by decide))
  · unfold bkY at h ⊢
    by_cases k0 : t2.1 = 0
    · rw [if_pos k0] at h ⊢
      unfold rPl at h ⊢
      simp only at h ⊢
      have al := alg_o h8 b.1
      generalize alg t2.2 = s1 at *
      have c := @rdF_ok B 16 s1 al.1
      have c0 := @rdF_0 B 16 s1
      generalize rdF B 16 s1 = u1 at *
      have d := @rdF_ok B 16 u1.2 c.1
      have d0 := @rdF_0 B 16 u1.2
      generalize rdF B 16 u1.2 = u2 at *
      by_cases g : u2.1 + u1.1 = 65535
      · rw [if_pos g] at h ⊢
        have z := plF_0 h
        have d0 := d0 z
        have c0 := c0 d0.1
        have pm := plF_m u1.1 (x.1, u2.2) d.1
        have := pm.2.1
        simp only at this
        omega
      · rw [if_neg g] at h
        exact absurd (plF_0 h) (fl_ne (by decide))
    · rw [if_neg k0] at h ⊢
      by_cases k1 : t2.1 = 1
      · rw [if_pos k1] at h ⊢
        obtain ⟨_, v, v1, v2⟩ := spF_0 (d := 300) (x := (x.1, t2.2)) b.1 h
        have := fxS_7 v1
        have v2 : t2.2.1 + v ≤ (spF B fxS fxD 301 (x.1, t2.2)).2.1 := v2
        omega
      · rw [if_neg k1] at h ⊢
        by_cases k2 : t2.1 = 2
        · rw [if_pos k2] at h ⊢
          have om := ownF_m (B := B) (s := t2.2) b.1
          simp only at h ⊢
          generalize ownF B t2.2 = w at *
          have o2 := om.2.2 (spF_0 (d := 300) (x := (x.1, w.2.2.2)) om.1 h).1
          have sm := spF_m (ws := w.1) (ds := w.2.1) 301 (x.1, w.2.2.2) om.1
          have := sm.2.1
          simp only at this
          omega
        · rw [if_neg k2] at h
          exact absurd h (fl_ne (by decide))
theorem hof {B : List Bool} (s : Rd) (ho : okR B s) (h : ¬ s.2 = 0) : (ownF B s).2.2.2 = s := by
  have a : (onA B s).2.2.2 = s := by
    unfold onA
    simp only [rdF_f h]
    split
    · exact fl_f h
    · rfl
  have c : (onC B (onA B s).2.2.1 (onA B s).2.2.2).2 = s := by
    unfold onC
    simp only
    rw [a, rcF_f _ _ _ _ h]
    split
    · rfl
    · exact fl_f h
  have r : (onR B ((onA B s).1 + (onA B s).2.1) (onC B (onA B s).2.2.1 (onA B s).2.2.2)).2 = s := by
    unfold onR
    rw [rwF_f (by rw [c]; exact h), c]
  unfold ownF
  simp only
  rw [r, if_neg h]
section MOP
variable {P : Option Value → db_H → Prop} {B : List Bool}
theorem fxS_g : gcd fxS ∧ gcd fxD := by
  have a : nx fxS 15 = 32768 := by decide +kernel
  have b : nx fxD 15 = 32768 := by decide +kernel
  exact ⟨Or.inl a, Or.inl b⟩
def F155 : List Nat := [127, 142, 147, 148, 149, 154, 156, 157, 158, 159, 160, 161, 162, 163, 164]
def V155 : List Nat := [42, 46, 47, 48, 50]
theorem mV_self {M : Nat → Int32} {x : List Nat × Rd} (h1 : M 47 = nI x.2.1) (h2 : M 48 = nI x.2.2) (h3 : M 50 = nI x.1.length) : mV M x = M := by
  unfold mV
  rw [vup_self (k := 47) h1, vup_self (k := 48) h2, vup_self (k := 50) h3]
theorem m155_loop {fr : Int32} : ∀ (d : Nat) (x : List Nat × Rd) (N : List Nt) (own : Option Ow) (h : db_H) (M : Nat → Int32) (x3 x4 x5 : Value), (x.2.2 = 0 → N.length + d = 321 ∧ 10 * N.length ≤ x.2.1) → mX h M B x → mO h → mNw h M N own → (∀ h2 M2 N2 own2 z2' z3 z4 z5, Fr F155 h h2 → vEq V155 M M2 → mX h2 M2 B (opF B d x N own).1 → mO h2 → mNw h2 M2 N2 own2 → ((opF B d x N own).1.2.2 = 0 → N2 = (opF B d x N own).2.1 ∧ own2 = (opF B d x N own).2.2 ∧ N2.length ≤ 321) → db_Go 155 182 [.ref 127, .int fr, z2', z3, z4, z5] [] h2 P) → db_Go 155 44 [.ref 127, .int fr, .int (nI 0), x3, x4, x5] [] h P := by
  intro d
  induction d with
  | zero =>
    intro x N own h M x3 x4 x5 hN X O A K
    rw [opF] at K
    have hM := X.2.1
    have v9 : x.2.2 ≤ 15 := X.2.2.2.1.2
    have v1 : x.2.1 ≤ B.length := X.2.2.2.1.1
    have bl := X.2.2.1.choose_spec.2.2.2.2.1
    have z : ¬ x.2.2 = 0 := fun w => by
      have := hN w
      omega
    unfold mV at hM
    rw [g_155_44]
    simp (disch := first | omega | (simp only [List.length_set]; omega)) only [g_155_0, g_155_1, g_155_2, g_155_6, g_155_9, g_155_11, g_155_12, g_155_13, g_155_14, g_155_17, g_155_18, g_155_19, g_155_22, g_155_23, g_155_24, g_155_27, g_155_28, g_155_29, g_155_32, g_155_33, g_155_34, g_155_37, g_155_38, g_155_42, g_155_43, g_155_45, g_155_48, g_155_49, g_155_52, g_155_55, g_155_56, g_155_59, g_155_60, g_155_61, g_155_64, g_155_66, g_155_70, g_155_71, g_155_74, g_155_75, g_155_78, g_155_79, g_155_80, g_155_81, g_155_85, g_155_87, g_155_88, g_155_91, g_155_94, g_155_96, g_155_97, g_155_100, g_155_101, g_155_105, g_155_106, g_155_109, g_155_112, g_155_114, g_155_117, g_155_121, g_155_124, g_155_125, g_155_128, g_155_131, g_155_133, g_155_134, g_155_137, g_155_141, g_155_144, g_155_148, g_155_152, g_155_153, g_155_156, g_155_159, g_155_160, g_155_162, g_155_164, g_155_165, g_155_168, g_155_170, g_155_171, g_155_172, g_155_173, g_155_179, g_155_183, g_155_187, g_155_188, g_155_189, g_155_192, g_155_195, g_155_196, g_155_199, g_155_200, g_155_203, g_155_206, g_155_207, g_155_210, g_155_213, g_155_215, g_155_216, g_155_219, g_155_220, g_155_221, g_155_222, g_155_224, g_155_225, g_155_228, g_155_231, g_155_232, g_155_235, g_155_236, g_155_237, g_155_240, g_155_241, g_155_242, g_155_243, g_155_246, g_155_249, g_155_250, g_155_251, g_155_254, g_155_257, g_155_258, g_155_259, g_155_262, g_155_266, g_155_267, g_155_270, gs_nx, db_inx, gs_ldi, gs_lda, gs_ldn, List.getElem?_cons_zero, List.getElem?_cons_succ, List.set_cons_zero, List.set_cons_succ, gx5, fx_int, fx_ref, fx_null, px5, gs_lx, gs_ax, sx5, ft_int, ft_ref, ft_b0, ft_b1, c1_int, c1_ref, List.length_cons, List.length_nil, Nat.reduceAdd, Nat.reduceLT, Nat.reduceLeDiff, true_and, and_true, true_or, or_true, not_false_eq_true, Option.toList_some, Option.toList_none, List.nil_append, List.singleton_append, List.cons_append, ↓reduceIte, Bool.and_self, eq_self, z_max, z_min, nI_add, z_sub, z_dec, z_mul, z_div, z_mod, nI_clamp, z_lt, z_nlt, z_le, z_nle, z_ne, z_eq, z_in, not_true_eq_false, if_true, if_false, hs_at, hs_ne, hs_sort, hset_eq, vupp_eq, hs_over, List.length_set, vup_at, vup_ne, vup_over, vup_sort, mfs_len, n5_f, map_getD, List.length_map, gd_self, gd_ne, Nat.add_sub_cancel, mg_0, mg_1, mg_47, mg_48, mg_49, mg_50, ms_1, ms_3, ms_42, ms_46, ms_47, ms_48, ms_50, ms_6, hM]
    exact K h M N own _ _ _ _ Fr_refl vEq_rf X O A (fun w => absurd w z)
  | succ d ih =>
    intro x N own h M x3 x4 x5 hN X O A K
    have hM := X.2.1
    have v9 : x.2.2 ≤ 15 := X.2.2.2.1.2
    have hM' := hM
    unfold mV at hM
    rw [opF] at K
    by_cases q : x.2.2 = 0
    · rw [if_pos q] at K
      have hN := hN q
      have b8 := X.2.2.1.choose_spec.2.2.2.1
      have bl := X.2.2.1.choose_spec.2.2.2.2.1
      have v1 : x.2.1 ≤ B.length := X.2.2.2.1.1
      have t10 := @bk3_10 B x b8 X.2.2.2.1
      have el : x.1.length ≤ 300 := X.2.2.2.2.2.choose_spec.2.2.1
      rw [q] at hM
      rw [g_155_44]
      simp (disch := first | omega | (simp only [List.length_set]; omega)) only [g_155_0, g_155_1, g_155_2, g_155_6, g_155_9, g_155_11, g_155_12, g_155_13, g_155_14, g_155_17, g_155_18, g_155_19, g_155_22, g_155_23, g_155_24, g_155_27, g_155_28, g_155_29, g_155_32, g_155_33, g_155_34, g_155_37, g_155_38, g_155_42, g_155_43, g_155_45, g_155_48, g_155_49, g_155_52, g_155_55, g_155_56, g_155_59, g_155_60, g_155_61, g_155_64, g_155_66, g_155_70, g_155_71, g_155_74, g_155_75, g_155_78, g_155_79, g_155_80, g_155_81, g_155_85, g_155_87, g_155_88, g_155_91, g_155_94, g_155_96, g_155_97, g_155_100, g_155_101, g_155_105, g_155_106, g_155_109, g_155_112, g_155_114, g_155_117, g_155_121, g_155_124, g_155_125, g_155_128, g_155_131, g_155_133, g_155_134, g_155_137, g_155_141, g_155_144, g_155_148, g_155_152, g_155_153, g_155_156, g_155_159, g_155_160, g_155_162, g_155_164, g_155_165, g_155_168, g_155_170, g_155_171, g_155_172, g_155_173, g_155_179, g_155_183, g_155_187, g_155_188, g_155_189, g_155_192, g_155_195, g_155_196, g_155_199, g_155_200, g_155_203, g_155_206, g_155_207, g_155_210, g_155_213, g_155_215, g_155_216, g_155_219, g_155_220, g_155_221, g_155_222, g_155_224, g_155_225, g_155_228, g_155_231, g_155_232, g_155_235, g_155_236, g_155_237, g_155_240, g_155_241, g_155_242, g_155_243, g_155_246, g_155_249, g_155_250, g_155_251, g_155_254, g_155_257, g_155_258, g_155_259, g_155_262, g_155_266, g_155_267, g_155_270, gs_nx, db_inx, gs_ldi, gs_lda, gs_ldn, List.getElem?_cons_zero, List.getElem?_cons_succ, List.set_cons_zero, List.set_cons_succ, gx5, fx_int, fx_ref, fx_null, px5, gs_lx, gs_ax, sx5, ft_int, ft_ref, ft_b0, ft_b1, c1_int, c1_ref, List.length_cons, List.length_nil, Nat.reduceAdd, Nat.reduceLT, Nat.reduceLeDiff, true_and, and_true, true_or, or_true, not_false_eq_true, Option.toList_some, Option.toList_none, List.nil_append, List.singleton_append, List.cons_append, ↓reduceIte, Bool.and_self, eq_self, z_max, z_min, nI_add, z_sub, z_dec, z_mul, z_div, z_mod, nI_clamp, z_lt, z_nlt, z_le, z_nle, z_ne, z_eq, z_in, not_true_eq_false, if_true, if_false, hs_at, hs_ne, hs_sort, hset_eq, vupp_eq, hs_over, List.length_set, vup_at, vup_ne, vup_over, vup_sort, mfs_len, n5_f, map_getD, List.length_map, gd_self, gd_ne, Nat.add_sub_cancel, mg_0, mg_1, mg_47, mg_48, mg_49, mg_50, ms_1, ms_3, ms_42, ms_46, ms_47, ms_48, ms_50, ms_6, hM]
      refine c_155_67 (by simp) (n5_ge (by decide)) hM' ?_
      refine f158 (E := x.1) (s := x.2) X (fun h2 F2 X2 => ?_)
      have e1 : rb B x.2 = bk1 B x := rd1.symm
      rw [e1] at X2 ⊢
      have a1 : (bk1 B x).1 ≤ 1 := by
        rw [← e1]
        exact rb_b
      have m1 := (@rdF_ok B 1 x.2 X.2.2.2.1).2
      have m1 : x.2.1 ≤ (bk1 B x).2.1 := m1
      have main : ∀ (v : Int32), v = (if (bk1 B x).1 = 1 then nI 1 else nI 0) → db_Go 155 79 [.ref 127, .int fr, .int (nI 0), .int (nI x.2.1), .int (nI x.1.length), x5] [.int v] h2 P := by
        intro v ev
        simp (disch := first | omega | (simp only [List.length_set]; omega)) only [g_155_0, g_155_1, g_155_2, g_155_6, g_155_9, g_155_11, g_155_12, g_155_13, g_155_14, g_155_17, g_155_18, g_155_19, g_155_22, g_155_23, g_155_24, g_155_27, g_155_28, g_155_29, g_155_32, g_155_33, g_155_34, g_155_37, g_155_38, g_155_42, g_155_43, g_155_45, g_155_48, g_155_49, g_155_52, g_155_55, g_155_56, g_155_59, g_155_60, g_155_61, g_155_64, g_155_66, g_155_70, g_155_71, g_155_74, g_155_75, g_155_78, g_155_79, g_155_80, g_155_81, g_155_85, g_155_87, g_155_88, g_155_91, g_155_94, g_155_96, g_155_97, g_155_100, g_155_101, g_155_105, g_155_106, g_155_109, g_155_112, g_155_114, g_155_117, g_155_121, g_155_124, g_155_125, g_155_128, g_155_131, g_155_133, g_155_134, g_155_137, g_155_141, g_155_144, g_155_148, g_155_152, g_155_153, g_155_156, g_155_159, g_155_160, g_155_162, g_155_164, g_155_165, g_155_168, g_155_170, g_155_171, g_155_172, g_155_173, g_155_179, g_155_183, g_155_187, g_155_188, g_155_189, g_155_192, g_155_195, g_155_196, g_155_199, g_155_200, g_155_203, g_155_206, g_155_207, g_155_210, g_155_213, g_155_215, g_155_216, g_155_219, g_155_220, g_155_221, g_155_222, g_155_224, g_155_225, g_155_228, g_155_231, g_155_232, g_155_235, g_155_236, g_155_237, g_155_240, g_155_241, g_155_242, g_155_243, g_155_246, g_155_249, g_155_250, g_155_251, g_155_254, g_155_257, g_155_258, g_155_259, g_155_262, g_155_266, g_155_267, g_155_270, gs_nx, db_inx, gs_ldi, gs_lda, gs_ldn, List.getElem?_cons_zero, List.getElem?_cons_succ, List.set_cons_zero, List.set_cons_succ, gx5, fx_int, fx_ref, fx_null, px5, gs_lx, gs_ax, sx5, ft_int, ft_ref, ft_b0, ft_b1, c1_int, c1_ref, List.length_cons, List.length_nil, Nat.reduceAdd, Nat.reduceLT, Nat.reduceLeDiff, true_and, and_true, true_or, or_true, not_false_eq_true, Option.toList_some, Option.toList_none, List.nil_append, List.singleton_append, List.cons_append, ↓reduceIte, Bool.and_self, eq_self, z_max, z_min, nI_add, z_sub, z_dec, z_mul, z_div, z_mod, nI_clamp, z_lt, z_nlt, z_le, z_nle, z_ne, z_eq, z_in, not_true_eq_false, if_true, if_false, hs_at, hs_ne, hs_sort, hset_eq, vupp_eq, hs_over, List.length_set, vup_at, vup_ne, vup_over, vup_sort, mfs_len, n5_f, map_getD, List.length_map, gd_self, gd_ne, Nat.add_sub_cancel, mg_0, mg_1, mg_47, mg_48, mg_49, mg_50, ms_1, ms_3, ms_42, ms_46, ms_47, ms_48, ms_50, ms_6]
        refine c_155_82 (by simp) (n5_ge (by decide)) X2.2.1 ?_
        refine f157 (by decide) X2 (fun h3 F3 X3 => ?_)
        have X3 : mX h3 M B (x.1, (bk2 B x).2) := X3
        have l3 : (bk2 B x).1 < 4 := rdF_lt
        have m2 := (@rdF_ok B 2 (bk1 B x).2 X2.2.2.2.1).2
        have m2 : (bk1 B x).2.1 ≤ (bk2 B x).2.1 := m2
        have e2 : rdF B 2 (bk1 B x).2 = bk2 B x := rfl
        rw [e2]
        have F3' : Fr [127] h h3 := Fr_tr F2 F3
        have O3 := mO_fr F3' (by decide) O
        have e3 : bk3 B x = bkY B (bk2 B x).1 (x.1, (bk2 B x).2) := rfl
        have e4 : bkN B x = ((bk2 B x).1, x.1.length, (bk3 B x).1.length - x.1.length, x.2.1, (bk3 B x).2.1 - x.2.1) := rfl
        have bm := bkY_m (B := B) (k := (bk2 B x).1) (y := (x.1, (bk2 B x).2)) b8 X3.2.2.2.1
        rw [← e3] at bm
        have tail : ∀ (h5 : db_H) (W3 : Ow), Fr F155 h h5 → Fr [127, 142, 147, 148, 149, 154, 164] h h5 → mX h5 M B (bk3 B x) → mO h5 → ((bk3 B x).2.2 = 0 → (bk2 B x).1 ≤ 2 ∧ ((bk2 B x).1 = 2 → h5[147]? = some (.inl (0, (W3.1 ++ z2).map nI)) ∧ h5[148]? = some (.inl (0, (W3.2.1 ++ z2).map nI)) ∧ h5[149]? = some (.inl (0, W3.2.2.map nI))) ∧ bkO B (bk2 B x).1 (bk2 B x).2 own = (if (bk2 B x).1 = 2 then some W3 else own)) → db_Go 155 152 [.ref 127, .int fr, .int v, .int (nI x.2.1), .int (nI x.1.length), .int (nI (bk2 B x).1)] [] h5 P := by
          intro h5 W3 F5 F5b X5 O5 w5
          have hM5 := X5.2.1
          have y9 : (bk3 B x).2.2 ≤ 15 := X5.2.2.2.1.2
          have hM5' := hM5
          have bm1 := bm.2.1
          have bm2 := bm.2.2
          simp only at bm1 bm2
          unfold mV at hM5
          generalize bk3 B x = y at *
          generalize bk2 B x = k at *
          generalize bk1 B x = a at *
          by_cases z : y.2.2 = 0
          · rw [if_pos z] at K
            have t10 := t10 z
            have w5 := w5 z
            rw [z] at hM5
            rw [e4] at K
            have A5 : mNw h5 (mV M y) N own := by
              obtain ⟨n1, n2, n3, n4⟩ := A
              exact ⟨n5R_fr F5b (by decide) n1, by unfold mV; rw [vup_ne (by decide), vup_ne (by decide), vup_ne (by decide)]; exact n2, by unfold mV; rw [vup_ne (by decide), vup_ne (by decide), vup_ne (by decide)]; exact n3, owM_fr F5b (by decide) n4⟩
            simp (disch := first | omega | (simp only [List.length_set]; omega)) only [g_155_0, g_155_1, g_155_2, g_155_6, g_155_9, g_155_11, g_155_12, g_155_13, g_155_14, g_155_17, g_155_18, g_155_19, g_155_22, g_155_23, g_155_24, g_155_27, g_155_28, g_155_29, g_155_32, g_155_33, g_155_34, g_155_37, g_155_38, g_155_42, g_155_43, g_155_45, g_155_48, g_155_49, g_155_52, g_155_55, g_155_56, g_155_59, g_155_60, g_155_61, g_155_64, g_155_66, g_155_70, g_155_71, g_155_74, g_155_75, g_155_78, g_155_79, g_155_80, g_155_81, g_155_85, g_155_87, g_155_88, g_155_91, g_155_94, g_155_96, g_155_97, g_155_100, g_155_101, g_155_105, g_155_106, g_155_109, g_155_112, g_155_114, g_155_117, g_155_121, g_155_124, g_155_125, g_155_128, g_155_131, g_155_133, g_155_134, g_155_137, g_155_141, g_155_144, g_155_148, g_155_152, g_155_153, g_155_156, g_155_159, g_155_160, g_155_162, g_155_164, g_155_165, g_155_168, g_155_170, g_155_171, g_155_172, g_155_173, g_155_179, g_155_183, g_155_187, g_155_188, g_155_189, g_155_192, g_155_195, g_155_196, g_155_199, g_155_200, g_155_203, g_155_206, g_155_207, g_155_210, g_155_213, g_155_215, g_155_216, g_155_219, g_155_220, g_155_221, g_155_222, g_155_224, g_155_225, g_155_228, g_155_231, g_155_232, g_155_235, g_155_236, g_155_237, g_155_240, g_155_241, g_155_242, g_155_243, g_155_246, g_155_249, g_155_250, g_155_251, g_155_254, g_155_257, g_155_258, g_155_259, g_155_262, g_155_266, g_155_267, g_155_270, gs_nx, db_inx, gs_ldi, gs_lda, gs_ldn, List.getElem?_cons_zero, List.getElem?_cons_succ, List.set_cons_zero, List.set_cons_succ, gx5, fx_int, fx_ref, fx_null, px5, gs_lx, gs_ax, sx5, ft_int, ft_ref, ft_b0, ft_b1, c1_int, c1_ref, List.length_cons, List.length_nil, Nat.reduceAdd, Nat.reduceLT, Nat.reduceLeDiff, true_and, and_true, true_or, or_true, not_false_eq_true, Option.toList_some, Option.toList_none, List.nil_append, List.singleton_append, List.cons_append, ↓reduceIte, Bool.and_self, eq_self, z_max, z_min, nI_add, z_sub, z_dec, z_mul, z_div, z_mod, nI_clamp, z_lt, z_nlt, z_le, z_nle, z_ne, z_eq, z_in, not_true_eq_false, if_true, if_false, hs_at, hs_ne, hs_sort, hset_eq, vupp_eq, hs_over, List.length_set, vup_at, vup_ne, vup_over, vup_sort, mfs_len, n5_f, map_getD, List.length_map, gd_self, gd_ne, Nat.add_sub_cancel, mg_0, mg_1, mg_47, mg_48, mg_49, mg_50, ms_1, ms_3, ms_42, ms_46, ms_47, ms_48, ms_50, ms_6, hM5]
            refine c_155_176 (by simp) (n5_ge (by decide)) hM5' ?_
            refine f152 (W3 := W3) X5.1 hM5' A5 (by omega) w5.1 (by omega) ⟨O5.1, O5.2.1, O5.2.2.1⟩ w5.2.1 (fun h6 M6 F6 hM6 v6 A6 => ?_)
            rw [← w5.2.2] at A6
            have v6' : vEq V155 M M6 := fun j hj => by
              unfold V155 at hj
              simp only [List.mem_cons, List.not_mem_nil, or_false, not_or] at hj
              rw [v6 j hj.1 hj.2.1]
              unfold mV
              rw [vup_ne hj.2.2.2.2, vup_ne hj.2.2.2.1, vup_ne hj.2.2.1]
            have es : mV M6 y = M6 := mV_self (by rw [v6 47 (by decide) (by decide)]; unfold mV; rw [vup_ne (by decide), vup_ne (by decide), vup_at]) (by rw [v6 48 (by decide) (by decide)]; unfold mV; rw [vup_ne (by decide), vup_at]) (by rw [v6 50 (by decide) (by decide)]; unfold mV; rw [vup_at])
            have X6 : mX h6 M6 B y := by
              obtain ⟨x1, x2, x3, x4, x5, l, x6, xr⟩ := X5
              exact ⟨Fr_len F6 x1, by rw [es]; exact hM6, mTp_fr F6 (by decide) (v6' 5 (by decide)) x3, x4, ar_fr F6 (by decide) x5, l, Fr_get F6 (by decide) x6, xr⟩
            have F6' : Fr F155 h h6 := Fr_tr F5 (Fr_mono F6 (by decide))
            have O6 := mO_fr F6 (by decide) O5
            simp (disch := first | omega | (simp only [List.length_set]; omega)) only [g_155_0, g_155_1, g_155_2, g_155_6, g_155_9, g_155_11, g_155_12, g_155_13, g_155_14, g_155_17, g_155_18, g_155_19, g_155_22, g_155_23, g_155_24, g_155_27, g_155_28, g_155_29, g_155_32, g_155_33, g_155_34, g_155_37, g_155_38, g_155_42, g_155_43, g_155_45, g_155_48, g_155_49, g_155_52, g_155_55, g_155_56, g_155_59, g_155_60, g_155_61, g_155_64, g_155_66, g_155_70, g_155_71, g_155_74, g_155_75, g_155_78, g_155_79, g_155_80, g_155_81, g_155_85, g_155_87, g_155_88, g_155_91, g_155_94, g_155_96, g_155_97, g_155_100, g_155_101, g_155_105, g_155_106, g_155_109, g_155_112, g_155_114, g_155_117, g_155_121, g_155_124, g_155_125, g_155_128, g_155_131, g_155_133, g_155_134, g_155_137, g_155_141, g_155_144, g_155_148, g_155_152, g_155_153, g_155_156, g_155_159, g_155_160, g_155_162, g_155_164, g_155_165, g_155_168, g_155_170, g_155_171, g_155_172, g_155_173, g_155_179, g_155_183, g_155_187, g_155_188, g_155_189, g_155_192, g_155_195, g_155_196, g_155_199, g_155_200, g_155_203, g_155_206, g_155_207, g_155_210, g_155_213, g_155_215, g_155_216, g_155_219, g_155_220, g_155_221, g_155_222, g_155_224, g_155_225, g_155_228, g_155_231, g_155_232, g_155_235, g_155_236, g_155_237, g_155_240, g_155_241, g_155_242, g_155_243, g_155_246, g_155_249, g_155_250, g_155_251, g_155_254, g_155_257, g_155_258, g_155_259, g_155_262, g_155_266, g_155_267, g_155_270, gs_nx, db_inx, gs_ldi, gs_lda, gs_ldn, List.getElem?_cons_zero, List.getElem?_cons_succ, List.set_cons_zero, List.set_cons_succ, gx5, fx_int, fx_ref, fx_null, px5, gs_lx, gs_ax, sx5, ft_int, ft_ref, ft_b0, ft_b1, c1_int, c1_ref, List.length_cons, List.length_nil, Nat.reduceAdd, Nat.reduceLT, Nat.reduceLeDiff, true_and, and_true, true_or, or_true, not_false_eq_true, Option.toList_some, Option.toList_none, List.nil_append, List.singleton_append, List.cons_append, ↓reduceIte, Bool.and_self, eq_self, z_max, z_min, nI_add, z_sub, z_dec, z_mul, z_div, z_mod, nI_clamp, z_lt, z_nlt, z_le, z_nle, z_ne, z_eq, z_in, not_true_eq_false, if_true, if_false, hs_at, hs_ne, hs_sort, hset_eq, vupp_eq, hs_over, List.length_set, vup_at, vup_ne, vup_over, vup_sort, mfs_len, n5_f, map_getD, List.length_map, gd_self, gd_ne, Nat.add_sub_cancel, mg_0, mg_1, mg_47, mg_48, mg_49, mg_50, ms_1, ms_3, ms_42, ms_46, ms_47, ms_48, ms_50, ms_6]
            by_cases g : a.1 = 1
            · rw [if_pos g] at K ev
              rw [ev]
              rw [g_155_44]
              simp (disch := first | omega | (simp only [List.length_set]; omega)) only [g_155_0, g_155_1, g_155_2, g_155_6, g_155_9, g_155_11, g_155_12, g_155_13, g_155_14, g_155_17, g_155_18, g_155_19, g_155_22, g_155_23, g_155_24, g_155_27, g_155_28, g_155_29, g_155_32, g_155_33, g_155_34, g_155_37, g_155_38, g_155_42, g_155_43, g_155_45, g_155_48, g_155_49, g_155_52, g_155_55, g_155_56, g_155_59, g_155_60, g_155_61, g_155_64, g_155_66, g_155_70, g_155_71, g_155_74, g_155_75, g_155_78, g_155_79, g_155_80, g_155_81, g_155_85, g_155_87, g_155_88, g_155_91, g_155_94, g_155_96, g_155_97, g_155_100, g_155_101, g_155_105, g_155_106, g_155_109, g_155_112, g_155_114, g_155_117, g_155_121, g_155_124, g_155_125, g_155_128, g_155_131, g_155_133, g_155_134, g_155_137, g_155_141, g_155_144, g_155_148, g_155_152, g_155_153, g_155_156, g_155_159, g_155_160, g_155_162, g_155_164, g_155_165, g_155_168, g_155_170, g_155_171, g_155_172, g_155_173, g_155_179, g_155_183, g_155_187, g_155_188, g_155_189, g_155_192, g_155_195, g_155_196, g_155_199, g_155_200, g_155_203, g_155_206, g_155_207, g_155_210, g_155_213, g_155_215, g_155_216, g_155_219, g_155_220, g_155_221, g_155_222, g_155_224, g_155_225, g_155_228, g_155_231, g_155_232, g_155_235, g_155_236, g_155_237, g_155_240, g_155_241, g_155_242, g_155_243, g_155_246, g_155_249, g_155_250, g_155_251, g_155_254, g_155_257, g_155_258, g_155_259, g_155_262, g_155_266, g_155_267, g_155_270, gs_nx, db_inx, gs_ldi, gs_lda, gs_ldn, List.getElem?_cons_zero, List.getElem?_cons_succ, List.set_cons_zero, List.set_cons_succ, gx5, fx_int, fx_ref, fx_null, px5, gs_lx, gs_ax, sx5, ft_int, ft_ref, ft_b0, ft_b1, c1_int, c1_ref, List.length_cons, List.length_nil, Nat.reduceAdd, Nat.reduceLT, Nat.reduceLeDiff, true_and, and_true, true_or, or_true, not_false_eq_true, Option.toList_some, Option.toList_none, List.nil_append, List.singleton_append, List.cons_append, ↓reduceIte, Bool.and_self, eq_self, z_max, z_min, nI_add, z_sub, z_dec, z_mul, z_div, z_mod, nI_clamp, z_lt, z_nlt, z_le, z_nle, z_ne, z_eq, z_in, not_true_eq_false, if_true, if_false, hs_at, hs_ne, hs_sort, hset_eq, vupp_eq, hs_over, List.length_set, vup_at, vup_ne, vup_over, vup_sort, mfs_len, n5_f, map_getD, List.length_map, gd_self, gd_ne, Nat.add_sub_cancel, mg_0, mg_1, mg_47, mg_48, mg_49, mg_50, ms_1, ms_3, ms_42, ms_46, ms_47, ms_48, ms_50, ms_6]
              exact K h6 M6 _ _ _ _ _ _ F6' v6' X6 O6 A6 (fun _ => ⟨rfl, rfl, by rw [List.length_append, List.length_singleton]; omega⟩)
            · rw [if_neg g] at K ev
              rw [ev]
              exact ih y _ _ h6 M6 _ _ _ (fun _ => by rw [List.length_append, List.length_singleton]; omega) X6 O6 A6 (fun h7 M7 N2 own2 z2' z3 z4 z5 F7 v7 X7 O7 A7 e7 => K h7 M7 N2 own2 z2' z3 z4 z5 (Fr_tr F6' F7) (vEq_tr v6' v7) X7 O7 A7 e7)
          · rw [if_neg z] at K
            have A5 : mNw h5 M N own := ⟨n5R_fr F5b (by decide) A.1, A.2.1, A.2.2.1, owM_fr F5b (by decide) A.2.2.2⟩
            have K := fun z2' z3 z4 z5 => K h5 M N own z2' z3 z4 z5 F5 vEq_rf X5 O5 A5 (fun w => absurd w z)
            simp (disch := first | omega | (simp only [List.length_set]; omega)) only [g_155_0, g_155_1, g_155_2, g_155_6, g_155_9, g_155_11, g_155_12, g_155_13, g_155_14, g_155_17, g_155_18, g_155_19, g_155_22, g_155_23, g_155_24, g_155_27, g_155_28, g_155_29, g_155_32, g_155_33, g_155_34, g_155_37, g_155_38, g_155_42, g_155_43, g_155_45, g_155_48, g_155_49, g_155_52, g_155_55, g_155_56, g_155_59, g_155_60, g_155_61, g_155_64, g_155_66, g_155_70, g_155_71, g_155_74, g_155_75, g_155_78, g_155_79, g_155_80, g_155_81, g_155_85, g_155_87, g_155_88, g_155_91, g_155_94, g_155_96, g_155_97, g_155_100, g_155_101, g_155_105, g_155_106, g_155_109, g_155_112, g_155_114, g_155_117, g_155_121, g_155_124, g_155_125, g_155_128, g_155_131, g_155_133, g_155_134, g_155_137, g_155_141, g_155_144, g_155_148, g_155_152, g_155_153, g_155_156, g_155_159, g_155_160, g_155_162, g_155_164, g_155_165, g_155_168, g_155_170, g_155_171, g_155_172, g_155_173, g_155_179, g_155_183, g_155_187, g_155_188, g_155_189, g_155_192, g_155_195, g_155_196, g_155_199, g_155_200, g_155_203, g_155_206, g_155_207, g_155_210, g_155_213, g_155_215, g_155_216, g_155_219, g_155_220, g_155_221, g_155_222, g_155_224, g_155_225, g_155_228, g_155_231, g_155_232, g_155_235, g_155_236, g_155_237, g_155_240, g_155_241, g_155_242, g_155_243, g_155_246, g_155_249, g_155_250, g_155_251, g_155_254, g_155_257, g_155_258, g_155_259, g_155_262, g_155_266, g_155_267, g_155_270, gs_nx, db_inx, gs_ldi, gs_lda, gs_ldn, List.getElem?_cons_zero, List.getElem?_cons_succ, List.set_cons_zero, List.set_cons_succ, gx5, fx_int, fx_ref, fx_null, px5, gs_lx, gs_ax, sx5, ft_int, ft_ref, ft_b0, ft_b1, c1_int, c1_ref, List.length_cons, List.length_nil, Nat.reduceAdd, Nat.reduceLT, Nat.reduceLeDiff, true_and, and_true, true_or, or_true, not_false_eq_true, Option.toList_some, Option.toList_none, List.nil_append, List.singleton_append, List.cons_append, ↓reduceIte, Bool.and_self, eq_self, z_max, z_min, nI_add, z_sub, z_dec, z_mul, z_div, z_mod, nI_clamp, z_lt, z_nlt, z_le, z_nle, z_ne, z_eq, z_in, not_true_eq_false, if_true, if_false, hs_at, hs_ne, hs_sort, hset_eq, vupp_eq, hs_over, List.length_set, vup_at, vup_ne, vup_over, vup_sort, mfs_len, n5_f, map_getD, List.length_map, gd_self, gd_ne, Nat.add_sub_cancel, mg_0, mg_1, mg_47, mg_48, mg_49, mg_50, ms_1, ms_3, ms_42, ms_46, ms_47, ms_48, ms_50, ms_6, hM5]
            rw [g_155_44]
            rw [ev]
            by_cases g : a.1 = 1
            · rw [if_pos g]
              simp (disch := first | omega | (simp only [List.length_set]; omega)) only [g_155_0, g_155_1, g_155_2, g_155_6, g_155_9, g_155_11, g_155_12, g_155_13, g_155_14, g_155_17, g_155_18, g_155_19, g_155_22, g_155_23, g_155_24, g_155_27, g_155_28, g_155_29, g_155_32, g_155_33, g_155_34, g_155_37, g_155_38, g_155_42, g_155_43, g_155_45, g_155_48, g_155_49, g_155_52, g_155_55, g_155_56, g_155_59, g_155_60, g_155_61, g_155_64, g_155_66, g_155_70, g_155_71, g_155_74, g_155_75, g_155_78, g_155_79, g_155_80, g_155_81, g_155_85, g_155_87, g_155_88, g_155_91, g_155_94, g_155_96, g_155_97, g_155_100, g_155_101, g_155_105, g_155_106, g_155_109, g_155_112, g_155_114, g_155_117, g_155_121, g_155_124, g_155_125, g_155_128, g_155_131, g_155_133, g_155_134, g_155_137, g_155_141, g_155_144, g_155_148, g_155_152, g_155_153, g_155_156, g_155_159, g_155_160, g_155_162, g_155_164, g_155_165, g_155_168, g_155_170, g_155_171, g_155_172, g_155_173, g_155_179, g_155_183, g_155_187, g_155_188, g_155_189, g_155_192, g_155_195, g_155_196, g_155_199, g_155_200, g_155_203, g_155_206, g_155_207, g_155_210, g_155_213, g_155_215, g_155_216, g_155_219, g_155_220, g_155_221, g_155_222, g_155_224, g_155_225, g_155_228, g_155_231, g_155_232, g_155_235, g_155_236, g_155_237, g_155_240, g_155_241, g_155_242, g_155_243, g_155_246, g_155_249, g_155_250, g_155_251, g_155_254, g_155_257, g_155_258, g_155_259, g_155_262, g_155_266, g_155_267, g_155_270, gs_nx, db_inx, gs_ldi, gs_lda, gs_ldn, List.getElem?_cons_zero, List.getElem?_cons_succ, List.set_cons_zero, List.set_cons_succ, gx5, fx_int, fx_ref, fx_null, px5, gs_lx, gs_ax, sx5, ft_int, ft_ref, ft_b0, ft_b1, c1_int, c1_ref, List.length_cons, List.length_nil, Nat.reduceAdd, Nat.reduceLT, Nat.reduceLeDiff, true_and, and_true, true_or, or_true, not_false_eq_true, Option.toList_some, Option.toList_none, List.nil_append, List.singleton_append, List.cons_append, ↓reduceIte, Bool.and_self, eq_self, z_max, z_min, nI_add, z_sub, z_dec, z_mul, z_div, z_mod, nI_clamp, z_lt, z_nlt, z_le, z_nle, z_ne, z_eq, z_in, not_true_eq_false, if_true, if_false, hs_at, hs_ne, hs_sort, hset_eq, vupp_eq, hs_over, List.length_set, vup_at, vup_ne, vup_over, vup_sort, mfs_len, n5_f, map_getD, List.length_map, gd_self, gd_ne, Nat.add_sub_cancel, mg_0, mg_1, mg_47, mg_48, mg_49, mg_50, ms_1, ms_3, ms_42, ms_46, ms_47, ms_48, ms_50, ms_6, hM5]
              exact K _ _ _ _
            · rw [if_neg g]
              simp (disch := first | omega | (simp only [List.length_set]; omega)) only [g_155_0, g_155_1, g_155_2, g_155_6, g_155_9, g_155_11, g_155_12, g_155_13, g_155_14, g_155_17, g_155_18, g_155_19, g_155_22, g_155_23, g_155_24, g_155_27, g_155_28, g_155_29, g_155_32, g_155_33, g_155_34, g_155_37, g_155_38, g_155_42, g_155_43, g_155_45, g_155_48, g_155_49, g_155_52, g_155_55, g_155_56, g_155_59, g_155_60, g_155_61, g_155_64, g_155_66, g_155_70, g_155_71, g_155_74, g_155_75, g_155_78, g_155_79, g_155_80, g_155_81, g_155_85, g_155_87, g_155_88, g_155_91, g_155_94, g_155_96, g_155_97, g_155_100, g_155_101, g_155_105, g_155_106, g_155_109, g_155_112, g_155_114, g_155_117, g_155_121, g_155_124, g_155_125, g_155_128, g_155_131, g_155_133, g_155_134, g_155_137, g_155_141, g_155_144, g_155_148, g_155_152, g_155_153, g_155_156, g_155_159, g_155_160, g_155_162, g_155_164, g_155_165, g_155_168, g_155_170, g_155_171, g_155_172, g_155_173, g_155_179, g_155_183, g_155_187, g_155_188, g_155_189, g_155_192, g_155_195, g_155_196, g_155_199, g_155_200, g_155_203, g_155_206, g_155_207, g_155_210, g_155_213, g_155_215, g_155_216, g_155_219, g_155_220, g_155_221, g_155_222, g_155_224, g_155_225, g_155_228, g_155_231, g_155_232, g_155_235, g_155_236, g_155_237, g_155_240, g_155_241, g_155_242, g_155_243, g_155_246, g_155_249, g_155_250, g_155_251, g_155_254, g_155_257, g_155_258, g_155_259, g_155_262, g_155_266, g_155_267, g_155_270, gs_nx, db_inx, gs_ldi, gs_lda, gs_ldn, List.getElem?_cons_zero, List.getElem?_cons_succ, List.set_cons_zero, List.set_cons_succ, gx5, fx_int, fx_ref, fx_null, px5, gs_lx, gs_ax, sx5, ft_int, ft_ref, ft_b0, ft_b1, c1_int, c1_ref, List.length_cons, List.length_nil, Nat.reduceAdd, Nat.reduceLT, Nat.reduceLeDiff, true_and, and_true, true_or, or_true, not_false_eq_true, Option.toList_some, Option.toList_none, List.nil_append, List.singleton_append, List.cons_append, ↓reduceIte, Bool.and_self, eq_self, z_max, z_min, nI_add, z_sub, z_dec, z_mul, z_div, z_mod, nI_clamp, z_lt, z_nlt, z_le, z_nle, z_ne, z_eq, z_in, not_true_eq_false, if_true, if_false, hs_at, hs_ne, hs_sort, hset_eq, vupp_eq, hs_over, List.length_set, vup_at, vup_ne, vup_over, vup_sort, mfs_len, n5_f, map_getD, List.length_map, gd_self, gd_ne, Nat.add_sub_cancel, mg_0, mg_1, mg_47, mg_48, mg_49, mg_50, ms_1, ms_3, ms_42, ms_46, ms_47, ms_48, ms_50, ms_6, hM5]
              exact K _ _ _ _
        have hM3 := X3.2.1
        have k9 : (bk2 B x).2.2 ≤ 15 := X3.2.2.2.1.2
        have hM3' := hM3
        unfold mV at hM3
        simp only at hM3
        rw [e3] at tail
        generalize bk2 B x = k at *
        have F3a : Fr F155 h h3 := Fr_mono F3' (by decide)
        have F3b : Fr [127, 142, 147, 148, 149, 154, 164] h h3 := Fr_mono F3' (by decide)
        by_cases z : k.2.2 = 0
        · rw [z] at hM3
          unfold bkY bkO at tail
          simp only at tail
          by_cases k3 : k.1 = 3
          · rw [if_neg (by omega), if_neg (by omega), if_neg (by omega)] at tail
            simp (disch := first | omega | (simp only [List.length_set]; omega)) only [g_155_0, g_155_1, g_155_2, g_155_6, g_155_9, g_155_11, g_155_12, g_155_13, g_155_14, g_155_17, g_155_18, g_155_19, g_155_22, g_155_23, g_155_24, g_155_27, g_155_28, g_155_29, g_155_32, g_155_33, g_155_34, g_155_37, g_155_38, g_155_42, g_155_43, g_155_45, g_155_48, g_155_49, g_155_52, g_155_55, g_155_56, g_155_59, g_155_60, g_155_61, g_155_64, g_155_66, g_155_70, g_155_71, g_155_74, g_155_75, g_155_78, g_155_79, g_155_80, g_155_81, g_155_85, g_155_87, g_155_88, g_155_91, g_155_94, g_155_96, g_155_97, g_155_100, g_155_101, g_155_106, g_155_109, g_155_112, g_155_114, g_155_117, g_155_121, g_155_124, g_155_125, g_155_128, g_155_131, g_155_133, g_155_134, g_155_137, g_155_141, g_155_144, g_155_148, g_155_153, g_155_156, g_155_159, g_155_160, g_155_162, g_155_164, g_155_165, g_155_168, g_155_170, g_155_171, g_155_172, g_155_173, g_155_179, g_155_183, g_155_187, g_155_188, g_155_189, g_155_192, g_155_195, g_155_196, g_155_199, g_155_200, g_155_203, g_155_206, g_155_207, g_155_210, g_155_213, g_155_215, g_155_216, g_155_219, g_155_220, g_155_221, g_155_222, g_155_224, g_155_225, g_155_228, g_155_231, g_155_232, g_155_235, g_155_236, g_155_237, g_155_240, g_155_241, g_155_242, g_155_243, g_155_246, g_155_249, g_155_250, g_155_251, g_155_254, g_155_257, g_155_258, g_155_259, g_155_262, g_155_266, g_155_267, g_155_270, gs_nx, db_inx, gs_ldi, gs_lda, gs_ldn, List.getElem?_cons_zero, List.getElem?_cons_succ, List.set_cons_zero, List.set_cons_succ, gx5, fx_int, fx_ref, fx_null, px5, gs_lx, gs_ax, sx5, ft_int, ft_ref, ft_b0, ft_b1, c1_int, c1_ref, List.length_cons, List.length_nil, Nat.reduceAdd, Nat.reduceLT, Nat.reduceLeDiff, true_and, and_true, true_or, or_true, not_false_eq_true, Option.toList_some, Option.toList_none, List.nil_append, List.singleton_append, List.cons_append, ↓reduceIte, Bool.and_self, eq_self, z_max, z_min, nI_add, z_sub, z_dec, z_mul, z_div, z_mod, nI_clamp, z_lt, z_nlt, z_le, z_nle, z_ne, z_eq, z_in, not_true_eq_false, if_true, if_false, hs_at, hs_ne, hs_sort, hset_eq, vupp_eq, hs_over, List.length_set, vup_at, vup_ne, vup_over, vup_sort, mfs_len, n5_f, map_getD, List.length_map, gd_self, gd_ne, Nat.add_sub_cancel, mg_0, mg_1, mg_47, mg_48, mg_49, mg_50, ms_1, ms_3, ms_42, ms_46, ms_47, ms_48, ms_50, ms_6, hM3, k3]
            refine c_155_102 (by simp) (n5_ge (by decide)) hM3' ?_
            refine f159 (by decide) X3 (fun h4 F4 X4 => ?_)
            have hM4 := X4.2.1
            have n4 : ¬ (fl 2 k.2).2 = 0 := fl_ne (by decide)
            have b4 : (fl 2 k.2).2 ≤ 15 := X4.2.2.2.1.2
            unfold mV at hM4
            simp only at hM4
            have tl := tail h4 ([], [], []) (Fr_tr F3a (Fr_mono F4 (by decide))) (Fr_tr F3b (Fr_mono F4 (by decide))) X4 (mO_fr F4 (by decide) O3) (fun w => absurd w n4)
            rw [k3] at tl
            simp (disch := first | omega | (simp only [List.length_set]; omega)) only [g_155_0, g_155_1, g_155_2, g_155_6, g_155_9, g_155_11, g_155_12, g_155_13, g_155_14, g_155_17, g_155_18, g_155_19, g_155_22, g_155_23, g_155_24, g_155_27, g_155_28, g_155_29, g_155_32, g_155_33, g_155_34, g_155_37, g_155_38, g_155_42, g_155_43, g_155_45, g_155_48, g_155_49, g_155_52, g_155_55, g_155_56, g_155_59, g_155_60, g_155_61, g_155_64, g_155_66, g_155_70, g_155_71, g_155_74, g_155_75, g_155_78, g_155_79, g_155_80, g_155_81, g_155_85, g_155_87, g_155_88, g_155_91, g_155_94, g_155_96, g_155_97, g_155_100, g_155_101, g_155_105, g_155_106, g_155_109, g_155_112, g_155_114, g_155_117, g_155_121, g_155_124, g_155_125, g_155_128, g_155_131, g_155_133, g_155_134, g_155_137, g_155_141, g_155_144, g_155_148, g_155_153, g_155_156, g_155_159, g_155_160, g_155_162, g_155_164, g_155_165, g_155_168, g_155_170, g_155_171, g_155_172, g_155_173, g_155_179, g_155_183, g_155_187, g_155_188, g_155_189, g_155_192, g_155_195, g_155_196, g_155_199, g_155_200, g_155_203, g_155_206, g_155_207, g_155_210, g_155_213, g_155_215, g_155_216, g_155_219, g_155_220, g_155_221, g_155_222, g_155_224, g_155_225, g_155_228, g_155_231, g_155_232, g_155_235, g_155_236, g_155_237, g_155_240, g_155_241, g_155_242, g_155_243, g_155_246, g_155_249, g_155_250, g_155_251, g_155_254, g_155_257, g_155_258, g_155_259, g_155_262, g_155_266, g_155_267, g_155_270, gs_nx, db_inx, gs_ldi, gs_lda, gs_ldn, List.getElem?_cons_zero, List.getElem?_cons_succ, List.set_cons_zero, List.set_cons_succ, gx5, fx_int, fx_ref, fx_null, px5, gs_lx, gs_ax, sx5, ft_int, ft_ref, ft_b0, ft_b1, c1_int, c1_ref, List.length_cons, List.length_nil, Nat.reduceAdd, Nat.reduceLT, Nat.reduceLeDiff, true_and, and_true, true_or, or_true, not_false_eq_true, Option.toList_some, Option.toList_none, List.nil_append, List.singleton_append, List.cons_append, ↓reduceIte, Bool.and_self, eq_self, z_max, z_min, nI_add, z_sub, z_dec, z_mul, z_div, z_mod, nI_clamp, z_lt, z_nlt, z_le, z_nle, z_ne, z_eq, z_in, not_true_eq_false, if_true, if_false, hs_at, hs_ne, hs_sort, hset_eq, vupp_eq, hs_over, List.length_set, vup_at, vup_ne, vup_over, vup_sort, mfs_len, n5_f, map_getD, List.length_map, gd_self, gd_ne, Nat.add_sub_cancel, mg_0, mg_1, mg_47, mg_48, mg_49, mg_50, ms_1, ms_3, ms_42, ms_46, ms_47, ms_48, ms_50, ms_6, hM4]
            exact tl
          · by_cases k0 : k.1 = 0
            · rw [if_pos k0, if_neg (by omega)] at tail
              simp (disch := first | omega | (simp only [List.length_set]; omega)) only [g_155_0, g_155_1, g_155_2, g_155_6, g_155_9, g_155_11, g_155_12, g_155_13, g_155_14, g_155_17, g_155_18, g_155_19, g_155_22, g_155_23, g_155_24, g_155_27, g_155_28, g_155_29, g_155_32, g_155_33, g_155_34, g_155_37, g_155_38, g_155_42, g_155_43, g_155_45, g_155_48, g_155_49, g_155_52, g_155_55, g_155_56, g_155_59, g_155_60, g_155_61, g_155_64, g_155_66, g_155_70, g_155_71, g_155_74, g_155_75, g_155_78, g_155_79, g_155_80, g_155_81, g_155_85, g_155_87, g_155_88, g_155_91, g_155_94, g_155_96, g_155_97, g_155_100, g_155_101, g_155_105, g_155_106, g_155_109, g_155_112, g_155_114, g_155_117, g_155_121, g_155_124, g_155_125, g_155_128, g_155_131, g_155_133, g_155_134, g_155_137, g_155_141, g_155_144, g_155_148, g_155_153, g_155_156, g_155_159, g_155_160, g_155_162, g_155_164, g_155_165, g_155_168, g_155_170, g_155_171, g_155_172, g_155_173, g_155_179, g_155_183, g_155_187, g_155_188, g_155_189, g_155_192, g_155_195, g_155_196, g_155_199, g_155_200, g_155_203, g_155_206, g_155_207, g_155_210, g_155_213, g_155_215, g_155_216, g_155_219, g_155_220, g_155_221, g_155_222, g_155_224, g_155_225, g_155_228, g_155_231, g_155_232, g_155_235, g_155_236, g_155_237, g_155_240, g_155_241, g_155_242, g_155_243, g_155_246, g_155_249, g_155_250, g_155_251, g_155_254, g_155_257, g_155_258, g_155_259, g_155_262, g_155_266, g_155_267, g_155_270, gs_nx, db_inx, gs_ldi, gs_lda, gs_ldn, List.getElem?_cons_zero, List.getElem?_cons_succ, List.set_cons_zero, List.set_cons_succ, gx5, fx_int, fx_ref, fx_null, px5, gs_lx, gs_ax, sx5, ft_int, ft_ref, ft_b0, ft_b1, c1_int, c1_ref, List.length_cons, List.length_nil, Nat.reduceAdd, Nat.reduceLT, Nat.reduceLeDiff, true_and, and_true, true_or, or_true, not_false_eq_true, Option.toList_some, Option.toList_none, List.nil_append, List.singleton_append, List.cons_append, ↓reduceIte, Bool.and_self, eq_self, z_max, z_min, nI_add, z_sub, z_dec, z_mul, z_div, z_mod, nI_clamp, z_lt, z_nlt, z_le, z_nle, z_ne, z_eq, z_in, not_true_eq_false, if_true, if_false, hs_at, hs_ne, hs_sort, hset_eq, vupp_eq, hs_over, List.length_set, vup_at, vup_ne, vup_over, vup_sort, mfs_len, n5_f, map_getD, List.length_map, gd_self, gd_ne, Nat.add_sub_cancel, mg_0, mg_1, mg_47, mg_48, mg_49, mg_50, ms_1, ms_3, ms_42, ms_46, ms_47, ms_48, ms_50, ms_6, hM3, k0]
              refine c_155_118 (by simp) (n5_ge (by decide)) hM3' ?_
              refine f160 z X3 (fun h4 F4 X4 => ?_)
              have tl := tail h4 ([], [], []) (Fr_tr F3a (Fr_mono F4 (by decide))) (Fr_tr F3b (Fr_mono F4 (by decide))) X4 (mO_fr F4 (by decide) O3) (fun w => ⟨by omega, fun w => by omega, by rw [if_neg (by omega)]⟩)
              rw [k0] at tl
              simp (disch := first | omega | (simp only [List.length_set]; omega)) only [g_155_0, g_155_1, g_155_2, g_155_6, g_155_9, g_155_11, g_155_12, g_155_13, g_155_14, g_155_17, g_155_18, g_155_19, g_155_22, g_155_23, g_155_24, g_155_27, g_155_28, g_155_29, g_155_32, g_155_33, g_155_34, g_155_37, g_155_38, g_155_42, g_155_43, g_155_45, g_155_48, g_155_49, g_155_52, g_155_55, g_155_56, g_155_59, g_155_60, g_155_61, g_155_64, g_155_66, g_155_70, g_155_71, g_155_74, g_155_75, g_155_78, g_155_79, g_155_80, g_155_81, g_155_85, g_155_87, g_155_88, g_155_91, g_155_94, g_155_96, g_155_97, g_155_100, g_155_101, g_155_105, g_155_106, g_155_109, g_155_112, g_155_114, g_155_117, g_155_121, g_155_124, g_155_125, g_155_128, g_155_131, g_155_133, g_155_134, g_155_137, g_155_141, g_155_144, g_155_148, g_155_153, g_155_156, g_155_159, g_155_160, g_155_162, g_155_164, g_155_165, g_155_168, g_155_170, g_155_171, g_155_172, g_155_173, g_155_179, g_155_183, g_155_187, g_155_188, g_155_189, g_155_192, g_155_195, g_155_196, g_155_199, g_155_200, g_155_203, g_155_206, g_155_207, g_155_210, g_155_213, g_155_215, g_155_216, g_155_219, g_155_220, g_155_221, g_155_222, g_155_224, g_155_225, g_155_228, g_155_231, g_155_232, g_155_235, g_155_236, g_155_237, g_155_240, g_155_241, g_155_242, g_155_243, g_155_246, g_155_249, g_155_250, g_155_251, g_155_254, g_155_257, g_155_258, g_155_259, g_155_262, g_155_266, g_155_267, g_155_270, gs_nx, db_inx, gs_ldi, gs_lda, gs_ldn, List.getElem?_cons_zero, List.getElem?_cons_succ, List.set_cons_zero, List.set_cons_succ, gx5, fx_int, fx_ref, fx_null, px5, gs_lx, gs_ax, sx5, ft_int, ft_ref, ft_b0, ft_b1, c1_int, c1_ref, List.length_cons, List.length_nil, Nat.reduceAdd, Nat.reduceLT, Nat.reduceLeDiff, true_and, and_true, true_or, or_true, not_false_eq_true, Option.toList_some, Option.toList_none, List.nil_append, List.singleton_append, List.cons_append, ↓reduceIte, Bool.and_self, eq_self, z_max, z_min, nI_add, z_sub, z_dec, z_mul, z_div, z_mod, nI_clamp, z_lt, z_nlt, z_le, z_nle, z_ne, z_eq, z_in, not_true_eq_false, if_true, if_false, hs_at, hs_ne, hs_sort, hset_eq, vupp_eq, hs_over, List.length_set, vup_at, vup_ne, vup_over, vup_sort, mfs_len, n5_f, map_getD, List.length_map, gd_self, gd_ne, Nat.add_sub_cancel, mg_0, mg_1, mg_47, mg_48, mg_49, mg_50, ms_1, ms_3, ms_42, ms_46, ms_47, ms_48, ms_50, ms_6]
              exact tl
            · rw [if_neg k0] at tail
              by_cases k1 : k.1 = 1
              · rw [if_pos k1, if_neg (by omega)] at tail
                obtain ⟨⟨c1, o1, q1⟩, ⟨c2, o2, q2⟩, O3'⟩ := id O3
                simp (disch := first | omega | (simp only [List.length_set]; omega)) only [g_155_0, g_155_1, g_155_2, g_155_6, g_155_9, g_155_11, g_155_12, g_155_13, g_155_14, g_155_17, g_155_18, g_155_19, g_155_22, g_155_23, g_155_24, g_155_27, g_155_28, g_155_29, g_155_32, g_155_33, g_155_34, g_155_37, g_155_38, g_155_42, g_155_43, g_155_45, g_155_48, g_155_49, g_155_52, g_155_55, g_155_56, g_155_59, g_155_60, g_155_61, g_155_64, g_155_66, g_155_70, g_155_71, g_155_74, g_155_75, g_155_78, g_155_79, g_155_80, g_155_81, g_155_85, g_155_87, g_155_88, g_155_91, g_155_94, g_155_96, g_155_97, g_155_100, g_155_101, g_155_105, g_155_106, g_155_109, g_155_112, g_155_114, g_155_117, g_155_121, g_155_124, g_155_125, g_155_128, g_155_131, g_155_133, g_155_134, g_155_137, g_155_141, g_155_144, g_155_148, g_155_153, g_155_156, g_155_159, g_155_160, g_155_162, g_155_164, g_155_165, g_155_168, g_155_170, g_155_171, g_155_172, g_155_173, g_155_179, g_155_183, g_155_187, g_155_188, g_155_189, g_155_192, g_155_195, g_155_196, g_155_199, g_155_200, g_155_203, g_155_206, g_155_207, g_155_210, g_155_213, g_155_215, g_155_216, g_155_219, g_155_220, g_155_221, g_155_222, g_155_224, g_155_225, g_155_228, g_155_231, g_155_232, g_155_235, g_155_236, g_155_237, g_155_240, g_155_241, g_155_242, g_155_243, g_155_246, g_155_249, g_155_250, g_155_251, g_155_254, g_155_257, g_155_258, g_155_259, g_155_262, g_155_266, g_155_267, g_155_270, gs_nx, db_inx, gs_ldi, gs_lda, gs_ldn, List.getElem?_cons_zero, List.getElem?_cons_succ, List.set_cons_zero, List.set_cons_succ, gx5, fx_int, fx_ref, fx_null, px5, gs_lx, gs_ax, sx5, ft_int, ft_ref, ft_b0, ft_b1, c1_int, c1_ref, List.length_cons, List.length_nil, Nat.reduceAdd, Nat.reduceLT, Nat.reduceLeDiff, true_and, and_true, true_or, or_true, not_false_eq_true, Option.toList_some, Option.toList_none, List.nil_append, List.singleton_append, List.cons_append, ↓reduceIte, Bool.and_self, eq_self, z_max, z_min, nI_add, z_sub, z_dec, z_mul, z_div, z_mod, nI_clamp, z_lt, z_nlt, z_le, z_nle, z_ne, z_eq, z_in, not_true_eq_false, if_true, if_false, hs_at, hs_ne, hs_sort, hset_eq, vupp_eq, hs_over, List.length_set, vup_at, vup_ne, vup_over, vup_sort, mfs_len, n5_f, map_getD, List.length_map, gd_self, gd_ne, Nat.add_sub_cancel, mg_0, mg_1, mg_47, mg_48, mg_49, mg_50, ms_1, ms_3, ms_42, ms_46, ms_47, ms_48, ms_50, ms_6, hM3, k1]
                refine c_155_138 (by simp) (n5_ge (by decide)) hM3' ?_
                refine m133 X3.1 hM3' o1 o2 q1 q2 (fun h4 F4 w1 w2 => ?_)
                have X4 := mX_fr F4 (by decide) X3
                have O4 : mO h4 := by
                  obtain ⟨_, _, b3, b4, b5, b6, b7, b8, b9⟩ := O3
                  exact ⟨⟨_, w1, by rw [List.length_map]; exact fxS_len⟩, ⟨_, w2, by rw [List.length_map]; rfl⟩, ar_fr F4 (by decide) b3, ar_fr F4 (by decide) b4, ar_fr F4 (by decide) b5, ar_fr F4 (by decide) b6, ar_fr F4 (by decide) b7, ar_fr F4 (by decide) b8, ar_fr F4 (by decide) b9⟩
                simp (disch := first | omega | (simp only [List.length_set]; omega)) only [g_155_0, g_155_1, g_155_2, g_155_6, g_155_9, g_155_11, g_155_12, g_155_13, g_155_14, g_155_17, g_155_18, g_155_19, g_155_22, g_155_23, g_155_24, g_155_27, g_155_28, g_155_29, g_155_32, g_155_33, g_155_34, g_155_37, g_155_38, g_155_42, g_155_43, g_155_45, g_155_48, g_155_49, g_155_52, g_155_55, g_155_56, g_155_59, g_155_60, g_155_61, g_155_64, g_155_66, g_155_70, g_155_71, g_155_74, g_155_75, g_155_78, g_155_79, g_155_80, g_155_81, g_155_85, g_155_87, g_155_88, g_155_91, g_155_94, g_155_96, g_155_97, g_155_100, g_155_101, g_155_105, g_155_106, g_155_109, g_155_112, g_155_114, g_155_117, g_155_121, g_155_124, g_155_125, g_155_128, g_155_131, g_155_133, g_155_134, g_155_137, g_155_141, g_155_144, g_155_148, g_155_153, g_155_156, g_155_159, g_155_160, g_155_162, g_155_164, g_155_165, g_155_168, g_155_170, g_155_171, g_155_172, g_155_173, g_155_179, g_155_183, g_155_187, g_155_188, g_155_189, g_155_192, g_155_195, g_155_196, g_155_199, g_155_200, g_155_203, g_155_206, g_155_207, g_155_210, g_155_213, g_155_215, g_155_216, g_155_219, g_155_220, g_155_221, g_155_222, g_155_224, g_155_225, g_155_228, g_155_231, g_155_232, g_155_235, g_155_236, g_155_237, g_155_240, g_155_241, g_155_242, g_155_243, g_155_246, g_155_249, g_155_250, g_155_251, g_155_254, g_155_257, g_155_258, g_155_259, g_155_262, g_155_266, g_155_267, g_155_270, gs_nx, db_inx, gs_ldi, gs_lda, gs_ldn, List.getElem?_cons_zero, List.getElem?_cons_succ, List.set_cons_zero, List.set_cons_succ, gx5, fx_int, fx_ref, fx_null, px5, gs_lx, gs_ax, sx5, ft_int, ft_ref, ft_b0, ft_b1, c1_int, c1_ref, List.length_cons, List.length_nil, Nat.reduceAdd, Nat.reduceLT, Nat.reduceLeDiff, true_and, and_true, true_or, or_true, not_false_eq_true, Option.toList_some, Option.toList_none, List.nil_append, List.singleton_append, List.cons_append, ↓reduceIte, Bool.and_self, eq_self, z_max, z_min, nI_add, z_sub, z_dec, z_mul, z_div, z_mod, nI_clamp, z_lt, z_nlt, z_le, z_nle, z_ne, z_eq, z_in, not_true_eq_false, if_true, if_false, hs_at, hs_ne, hs_sort, hset_eq, vupp_eq, hs_over, List.length_set, vup_at, vup_ne, vup_over, vup_sort, mfs_len, n5_f, map_getD, List.length_map, gd_self, gd_ne, Nat.add_sub_cancel, mg_0, mg_1, mg_47, mg_48, mg_49, mg_50, ms_1, ms_3, ms_42, ms_46, ms_47, ms_48, ms_50, ms_6]
                refine c_155_149 (by simp) (n5_ge (by decide)) X4.2.1 ?_
                refine f166 fxS_len (by decide) fxS_15 fxD_15 fxS_g.1 fxS_g.2 X4 w1 w2 (fun h5 F5 X5 => ?_)
                have tl := tail h5 ([], [], []) (Fr_tr F3a (Fr_tr (Fr_mono F4 (by decide)) (Fr_mono F5 (by decide)))) (Fr_tr F3b (Fr_tr (Fr_mono F4 (by decide)) (Fr_mono F5 (by decide)))) X5 (mO_fr F5 (by decide) O4) (fun w => ⟨by omega, fun w => by omega, by rw [if_neg (by omega)]⟩)
                rw [k1] at tl
                simp (disch := first | omega | (simp only [List.length_set]; omega)) only [g_155_0, g_155_1, g_155_2, g_155_6, g_155_9, g_155_11, g_155_12, g_155_13, g_155_14, g_155_17, g_155_18, g_155_19, g_155_22, g_155_23, g_155_24, g_155_27, g_155_28, g_155_29, g_155_32, g_155_33, g_155_34, g_155_37, g_155_38, g_155_42, g_155_43, g_155_45, g_155_48, g_155_49, g_155_52, g_155_55, g_155_56, g_155_59, g_155_60, g_155_61, g_155_64, g_155_66, g_155_70, g_155_71, g_155_74, g_155_75, g_155_78, g_155_79, g_155_80, g_155_81, g_155_85, g_155_87, g_155_88, g_155_91, g_155_94, g_155_96, g_155_97, g_155_100, g_155_101, g_155_105, g_155_106, g_155_109, g_155_112, g_155_114, g_155_117, g_155_121, g_155_124, g_155_125, g_155_128, g_155_131, g_155_133, g_155_134, g_155_137, g_155_141, g_155_144, g_155_148, g_155_153, g_155_156, g_155_159, g_155_160, g_155_162, g_155_164, g_155_165, g_155_168, g_155_170, g_155_171, g_155_172, g_155_173, g_155_179, g_155_183, g_155_187, g_155_188, g_155_189, g_155_192, g_155_195, g_155_196, g_155_199, g_155_200, g_155_203, g_155_206, g_155_207, g_155_210, g_155_213, g_155_215, g_155_216, g_155_219, g_155_220, g_155_221, g_155_222, g_155_224, g_155_225, g_155_228, g_155_231, g_155_232, g_155_235, g_155_236, g_155_237, g_155_240, g_155_241, g_155_242, g_155_243, g_155_246, g_155_249, g_155_250, g_155_251, g_155_254, g_155_257, g_155_258, g_155_259, g_155_262, g_155_266, g_155_267, g_155_270, gs_nx, db_inx, gs_ldi, gs_lda, gs_ldn, List.getElem?_cons_zero, List.getElem?_cons_succ, List.set_cons_zero, List.set_cons_succ, gx5, fx_int, fx_ref, fx_null, px5, gs_lx, gs_ax, sx5, ft_int, ft_ref, ft_b0, ft_b1, c1_int, c1_ref, List.length_cons, List.length_nil, Nat.reduceAdd, Nat.reduceLT, Nat.reduceLeDiff, true_and, and_true, true_or, or_true, not_false_eq_true, Option.toList_some, Option.toList_none, List.nil_append, List.singleton_append, List.cons_append, ↓reduceIte, Bool.and_self, eq_self, z_max, z_min, nI_add, z_sub, z_dec, z_mul, z_div, z_mod, nI_clamp, z_lt, z_nlt, z_le, z_nle, z_ne, z_eq, z_in, not_true_eq_false, if_true, if_false, hs_at, hs_ne, hs_sort, hset_eq, vupp_eq, hs_over, List.length_set, vup_at, vup_ne, vup_over, vup_sort, mfs_len, n5_f, map_getD, List.length_map, gd_self, gd_ne, Nat.add_sub_cancel, mg_0, mg_1, mg_47, mg_48, mg_49, mg_50, ms_1, ms_3, ms_42, ms_46, ms_47, ms_48, ms_50, ms_6]
                exact tl
              · have k2 : k.1 = 2 := by omega
                rw [if_neg k1, if_pos k2, if_pos k2] at tail
                simp (disch := first | omega | (simp only [List.length_set]; omega)) only [g_155_0, g_155_1, g_155_2, g_155_6, g_155_9, g_155_11, g_155_12, g_155_13, g_155_14, g_155_17, g_155_18, g_155_19, g_155_22, g_155_23, g_155_24, g_155_27, g_155_28, g_155_29, g_155_32, g_155_33, g_155_34, g_155_37, g_155_38, g_155_42, g_155_43, g_155_45, g_155_48, g_155_49, g_155_52, g_155_55, g_155_56, g_155_59, g_155_60, g_155_61, g_155_64, g_155_66, g_155_70, g_155_71, g_155_74, g_155_75, g_155_78, g_155_79, g_155_80, g_155_81, g_155_85, g_155_87, g_155_88, g_155_91, g_155_94, g_155_96, g_155_97, g_155_100, g_155_101, g_155_105, g_155_106, g_155_109, g_155_112, g_155_114, g_155_117, g_155_121, g_155_124, g_155_125, g_155_128, g_155_131, g_155_133, g_155_134, g_155_137, g_155_141, g_155_144, g_155_148, g_155_153, g_155_156, g_155_159, g_155_160, g_155_162, g_155_164, g_155_165, g_155_168, g_155_170, g_155_171, g_155_172, g_155_173, g_155_179, g_155_183, g_155_187, g_155_188, g_155_189, g_155_192, g_155_195, g_155_196, g_155_199, g_155_200, g_155_203, g_155_206, g_155_207, g_155_210, g_155_213, g_155_215, g_155_216, g_155_219, g_155_220, g_155_221, g_155_222, g_155_224, g_155_225, g_155_228, g_155_231, g_155_232, g_155_235, g_155_236, g_155_237, g_155_240, g_155_241, g_155_242, g_155_243, g_155_246, g_155_249, g_155_250, g_155_251, g_155_254, g_155_257, g_155_258, g_155_259, g_155_262, g_155_266, g_155_267, g_155_270, gs_nx, db_inx, gs_ldi, gs_lda, gs_ldn, List.getElem?_cons_zero, List.getElem?_cons_succ, List.set_cons_zero, List.set_cons_succ, gx5, fx_int, fx_ref, fx_null, px5, gs_lx, gs_ax, sx5, ft_int, ft_ref, ft_b0, ft_b1, c1_int, c1_ref, List.length_cons, List.length_nil, Nat.reduceAdd, Nat.reduceLT, Nat.reduceLeDiff, true_and, and_true, true_or, or_true, not_false_eq_true, Option.toList_some, Option.toList_none, List.nil_append, List.singleton_append, List.cons_append, ↓reduceIte, Bool.and_self, eq_self, z_max, z_min, nI_add, z_sub, z_dec, z_mul, z_div, z_mod, nI_clamp, z_lt, z_nlt, z_le, z_nle, z_ne, z_eq, z_in, not_true_eq_false, if_true, if_false, hs_at, hs_ne, hs_sort, hset_eq, vupp_eq, hs_over, List.length_set, vup_at, vup_ne, vup_over, vup_sort, mfs_len, n5_f, map_getD, List.length_map, gd_self, gd_ne, Nat.add_sub_cancel, mg_0, mg_1, mg_47, mg_48, mg_49, mg_50, ms_1, ms_3, ms_42, ms_46, ms_47, ms_48, ms_50, ms_6, hM3, k2]
                refine c_155_145 (by simp) (n5_ge (by decide)) hM3' ?_
                refine f162 X3 O3 (fun h4 F4 X4 O4 w4 => ?_)
                generalize ownF B k.2 = w at *
                simp (disch := first | omega | (simp only [List.length_set]; omega)) only [g_155_0, g_155_1, g_155_2, g_155_6, g_155_9, g_155_11, g_155_12, g_155_13, g_155_14, g_155_17, g_155_18, g_155_19, g_155_22, g_155_23, g_155_24, g_155_27, g_155_28, g_155_29, g_155_32, g_155_33, g_155_34, g_155_37, g_155_38, g_155_42, g_155_43, g_155_45, g_155_48, g_155_49, g_155_52, g_155_55, g_155_56, g_155_59, g_155_60, g_155_61, g_155_64, g_155_66, g_155_70, g_155_71, g_155_74, g_155_75, g_155_78, g_155_79, g_155_80, g_155_81, g_155_85, g_155_87, g_155_88, g_155_91, g_155_94, g_155_96, g_155_97, g_155_100, g_155_101, g_155_105, g_155_106, g_155_109, g_155_112, g_155_114, g_155_117, g_155_121, g_155_124, g_155_125, g_155_128, g_155_131, g_155_133, g_155_134, g_155_137, g_155_141, g_155_144, g_155_148, g_155_153, g_155_156, g_155_159, g_155_160, g_155_162, g_155_164, g_155_165, g_155_168, g_155_170, g_155_171, g_155_172, g_155_173, g_155_179, g_155_183, g_155_187, g_155_188, g_155_189, g_155_192, g_155_195, g_155_196, g_155_199, g_155_200, g_155_203, g_155_206, g_155_207, g_155_210, g_155_213, g_155_215, g_155_216, g_155_219, g_155_220, g_155_221, g_155_222, g_155_224, g_155_225, g_155_228, g_155_231, g_155_232, g_155_235, g_155_236, g_155_237, g_155_240, g_155_241, g_155_242, g_155_243, g_155_246, g_155_249, g_155_250, g_155_251, g_155_254, g_155_257, g_155_258, g_155_259, g_155_262, g_155_266, g_155_267, g_155_270, gs_nx, db_inx, gs_ldi, gs_lda, gs_ldn, List.getElem?_cons_zero, List.getElem?_cons_succ, List.set_cons_zero, List.set_cons_succ, gx5, fx_int, fx_ref, fx_null, px5, gs_lx, gs_ax, sx5, ft_int, ft_ref, ft_b0, ft_b1, c1_int, c1_ref, List.length_cons, List.length_nil, Nat.reduceAdd, Nat.reduceLT, Nat.reduceLeDiff, true_and, and_true, true_or, or_true, not_false_eq_true, Option.toList_some, Option.toList_none, List.nil_append, List.singleton_append, List.cons_append, ↓reduceIte, Bool.and_self, eq_self, z_max, z_min, nI_add, z_sub, z_dec, z_mul, z_div, z_mod, nI_clamp, z_lt, z_nlt, z_le, z_nle, z_ne, z_eq, z_in, not_true_eq_false, if_true, if_false, hs_at, hs_ne, hs_sort, hset_eq, vupp_eq, hs_over, List.length_set, vup_at, vup_ne, vup_over, vup_sort, mfs_len, n5_f, map_getD, List.length_map, gd_self, gd_ne, Nat.add_sub_cancel, mg_0, mg_1, mg_47, mg_48, mg_49, mg_50, ms_1, ms_3, ms_42, ms_46, ms_47, ms_48, ms_50, ms_6]
                refine c_155_149 (by simp) (n5_ge (by decide)) X4.2.1 ?_
                have F4a : Fr F155 h h4 := Fr_tr F3a (Fr_mono F4 (by decide))
                have F4b : Fr [127, 142, 147, 148, 149, 154, 164] h h4 := Fr_tr F3b (Fr_mono F4 (by decide))
                by_cases g : w.2.2.2.2 = 0
                · obtain ⟨g1, g2, g3, g4, g5, g6, g7, g8, g9, g10⟩ := w4 g
                  have p1 : ∀ x ∈ w.1 ++ z2, x ≤ 15 := fun x hx => (List.mem_append.mp hx).elim (g9 x) (fun hz => by have := List.eq_of_mem_replicate hz; omega)
                  have p2 : ∀ x ∈ w.2.1 ++ z2, x ≤ 15 := fun x hx => (List.mem_append.mp hx).elim (g10 x) (fun hz => by have := List.eq_of_mem_replicate hz; omega)
                  have lz : z2.length = 2 := rfl
                  refine f166 (by rw [List.length_append, g6, lz]) (by rw [List.length_append, g7, lz]) p1 p2 (gcd_z.mpr g4) (gcd_z.mpr g5) X4 g1 g2 (fun h5 F5 X5 => ?_)
                  have ez : spF B (w.1 ++ z2) (w.2.1 ++ z2) 301 (x.1, w.2.2.2) = spF B w.1 w.2.1 301 (x.1, w.2.2.2) := spF_z 301 _
                  rw [ez] at X5
                  have tl := tail h5 (w.1, w.2.1, w.2.2.1) (Fr_tr F4a (Fr_mono F5 (by decide))) (Fr_tr F4b (Fr_mono F5 (by decide))) X5 (mO_fr F5 (by decide) O4) (fun _ => ⟨by omega, fun _ => ⟨Fr_get F5 (by decide) g1, Fr_get F5 (by decide) g2, Fr_get F5 (by decide) g3⟩, by rw [if_pos k2]⟩)
                  rw [k2] at tl
                  simp (disch := first | omega | (simp only [List.length_set]; omega)) only [g_155_0, g_155_1, g_155_2, g_155_6, g_155_9, g_155_11, g_155_12, g_155_13, g_155_14, g_155_17, g_155_18, g_155_19, g_155_22, g_155_23, g_155_24, g_155_27, g_155_28, g_155_29, g_155_32, g_155_33, g_155_34, g_155_37, g_155_38, g_155_42, g_155_43, g_155_45, g_155_48, g_155_49, g_155_52, g_155_55, g_155_56, g_155_59, g_155_60, g_155_61, g_155_64, g_155_66, g_155_70, g_155_71, g_155_74, g_155_75, g_155_78, g_155_79, g_155_80, g_155_81, g_155_85, g_155_87, g_155_88, g_155_91, g_155_94, g_155_96, g_155_97, g_155_100, g_155_101, g_155_105, g_155_106, g_155_109, g_155_112, g_155_114, g_155_117, g_155_121, g_155_124, g_155_125, g_155_128, g_155_131, g_155_133, g_155_134, g_155_137, g_155_141, g_155_144, g_155_148, g_155_153, g_155_156, g_155_159, g_155_160, g_155_162, g_155_164, g_155_165, g_155_168, g_155_170, g_155_171, g_155_172, g_155_173, g_155_179, g_155_183, g_155_187, g_155_188, g_155_189, g_155_192, g_155_195, g_155_196, g_155_199, g_155_200, g_155_203, g_155_206, g_155_207, g_155_210, g_155_213, g_155_215, g_155_216, g_155_219, g_155_220, g_155_221, g_155_222, g_155_224, g_155_225, g_155_228, g_155_231, g_155_232, g_155_235, g_155_236, g_155_237, g_155_240, g_155_241, g_155_242, g_155_243, g_155_246, g_155_249, g_155_250, g_155_251, g_155_254, g_155_257, g_155_258, g_155_259, g_155_262, g_155_266, g_155_267, g_155_270, gs_nx, db_inx, gs_ldi, gs_lda, gs_ldn, List.getElem?_cons_zero, List.getElem?_cons_succ, List.set_cons_zero, List.set_cons_succ, gx5, fx_int, fx_ref, fx_null, px5, gs_lx, gs_ax, sx5, ft_int, ft_ref, ft_b0, ft_b1, c1_int, c1_ref, List.length_cons, List.length_nil, Nat.reduceAdd, Nat.reduceLT, Nat.reduceLeDiff, true_and, and_true, true_or, or_true, not_false_eq_true, Option.toList_some, Option.toList_none, List.nil_append, List.singleton_append, List.cons_append, ↓reduceIte, Bool.and_self, eq_self, z_max, z_min, nI_add, z_sub, z_dec, z_mul, z_div, z_mod, nI_clamp, z_lt, z_nlt, z_le, z_nle, z_ne, z_eq, z_in, not_true_eq_false, if_true, if_false, hs_at, hs_ne, hs_sort, hset_eq, vupp_eq, hs_over, List.length_set, vup_at, vup_ne, vup_over, vup_sort, mfs_len, n5_f, map_getD, List.length_map, gd_self, gd_ne, Nat.add_sub_cancel, mg_0, mg_1, mg_47, mg_48, mg_49, mg_50, ms_1, ms_3, ms_42, ms_46, ms_47, ms_48, ms_50, ms_6]
                  exact tl
                · refine f166n (x := (x.1, w.2.2.2)) g X4 ?_
                  have ez : spF B w.1 w.2.1 301 (x.1, w.2.2.2) = (x.1, w.2.2.2) := spF_f (x := (x.1, w.2.2.2)) g 301
                  rw [ez] at tail
                  have tl := tail h4 ([], [], []) F4a F4b X4 O4 (fun w => absurd w g)
                  rw [k2] at tl
                  simp (disch := first | omega | (simp only [List.length_set]; omega)) only [g_155_0, g_155_1, g_155_2, g_155_6, g_155_9, g_155_11, g_155_12, g_155_13, g_155_14, g_155_17, g_155_18, g_155_19, g_155_22, g_155_23, g_155_24, g_155_27, g_155_28, g_155_29, g_155_32, g_155_33, g_155_34, g_155_37, g_155_38, g_155_42, g_155_43, g_155_45, g_155_48, g_155_49, g_155_52, g_155_55, g_155_56, g_155_59, g_155_60, g_155_61, g_155_64, g_155_66, g_155_70, g_155_71, g_155_74, g_155_75, g_155_78, g_155_79, g_155_80, g_155_81, g_155_85, g_155_87, g_155_88, g_155_91, g_155_94, g_155_96, g_155_97, g_155_100, g_155_101, g_155_105, g_155_106, g_155_109, g_155_112, g_155_114, g_155_117, g_155_121, g_155_124, g_155_125, g_155_128, g_155_131, g_155_133, g_155_134, g_155_137, g_155_141, g_155_144, g_155_148, g_155_153, g_155_156, g_155_159, g_155_160, g_155_162, g_155_164, g_155_165, g_155_168, g_155_170, g_155_171, g_155_172, g_155_173, g_155_179, g_155_183, g_155_187, g_155_188, g_155_189, g_155_192, g_155_195, g_155_196, g_155_199, g_155_200, g_155_203, g_155_206, g_155_207, g_155_210, g_155_213, g_155_215, g_155_216, g_155_219, g_155_220, g_155_221, g_155_222, g_155_224, g_155_225, g_155_228, g_155_231, g_155_232, g_155_235, g_155_236, g_155_237, g_155_240, g_155_241, g_155_242, g_155_243, g_155_246, g_155_249, g_155_250, g_155_251, g_155_254, g_155_257, g_155_258, g_155_259, g_155_262, g_155_266, g_155_267, g_155_270, gs_nx, db_inx, gs_ldi, gs_lda, gs_ldn, List.getElem?_cons_zero, List.getElem?_cons_succ, List.set_cons_zero, List.set_cons_succ, gx5, fx_int, fx_ref, fx_null, px5, gs_lx, gs_ax, sx5, ft_int, ft_ref, ft_b0, ft_b1, c1_int, c1_ref, List.length_cons, List.length_nil, Nat.reduceAdd, Nat.reduceLT, Nat.reduceLeDiff, true_and, and_true, true_or, or_true, not_false_eq_true, Option.toList_some, Option.toList_none, List.nil_append, List.singleton_append, List.cons_append, ↓reduceIte, Bool.and_self, eq_self, z_max, z_min, nI_add, z_sub, z_dec, z_mul, z_div, z_mod, nI_clamp, z_lt, z_nlt, z_le, z_nle, z_ne, z_eq, z_in, not_true_eq_false, if_true, if_false, hs_at, hs_ne, hs_sort, hset_eq, vupp_eq, hs_over, List.length_set, vup_at, vup_ne, vup_over, vup_sort, mfs_len, n5_f, map_getD, List.length_map, gd_self, gd_ne, Nat.add_sub_cancel, mg_0, mg_1, mg_47, mg_48, mg_49, mg_50, ms_1, ms_3, ms_42, ms_46, ms_47, ms_48, ms_50, ms_6]
                  exact tl
        · have ey : bkY B k.1 (x.1, k.2) = (x.1, k.2) := by
            unfold bkY
            simp only
            rw [rPl_f (by exact z), spF_f (by exact z), fl_f z]
            have eo : (ownF B k.2).2.2.2 = k.2 := hof k.2 X3.2.2.2.1 z
            rw [eo, spF_f (by exact z)]
            split
            · rfl
            · split
              · rfl
              · split <;> rfl
          rw [ey] at tail
          have tl := tail h3 ([], [], []) F3a F3b X3 O3 (fun w => absurd w z)
          simp (disch := first | omega | (simp only [List.length_set]; omega)) only [g_155_0, g_155_1, g_155_2, g_155_6, g_155_9, g_155_11, g_155_12, g_155_13, g_155_14, g_155_17, g_155_18, g_155_19, g_155_22, g_155_23, g_155_24, g_155_27, g_155_28, g_155_29, g_155_32, g_155_33, g_155_34, g_155_37, g_155_38, g_155_42, g_155_43, g_155_45, g_155_48, g_155_49, g_155_52, g_155_55, g_155_56, g_155_59, g_155_60, g_155_61, g_155_64, g_155_66, g_155_70, g_155_71, g_155_74, g_155_75, g_155_78, g_155_79, g_155_80, g_155_81, g_155_85, g_155_87, g_155_88, g_155_91, g_155_94, g_155_96, g_155_97, g_155_100, g_155_101, g_155_105, g_155_106, g_155_109, g_155_112, g_155_114, g_155_117, g_155_121, g_155_124, g_155_125, g_155_128, g_155_131, g_155_133, g_155_134, g_155_137, g_155_141, g_155_144, g_155_148, g_155_153, g_155_156, g_155_159, g_155_160, g_155_162, g_155_164, g_155_165, g_155_168, g_155_170, g_155_171, g_155_172, g_155_173, g_155_179, g_155_183, g_155_187, g_155_188, g_155_189, g_155_192, g_155_195, g_155_196, g_155_199, g_155_200, g_155_203, g_155_206, g_155_207, g_155_210, g_155_213, g_155_215, g_155_216, g_155_219, g_155_220, g_155_221, g_155_222, g_155_224, g_155_225, g_155_228, g_155_231, g_155_232, g_155_235, g_155_236, g_155_237, g_155_240, g_155_241, g_155_242, g_155_243, g_155_246, g_155_249, g_155_250, g_155_251, g_155_254, g_155_257, g_155_258, g_155_259, g_155_262, g_155_266, g_155_267, g_155_270, gs_nx, db_inx, gs_ldi, gs_lda, gs_ldn, List.getElem?_cons_zero, List.getElem?_cons_succ, List.set_cons_zero, List.set_cons_succ, gx5, fx_int, fx_ref, fx_null, px5, gs_lx, gs_ax, sx5, ft_int, ft_ref, ft_b0, ft_b1, c1_int, c1_ref, List.length_cons, List.length_nil, Nat.reduceAdd, Nat.reduceLT, Nat.reduceLeDiff, true_and, and_true, true_or, or_true, not_false_eq_true, Option.toList_some, Option.toList_none, List.nil_append, List.singleton_append, List.cons_append, ↓reduceIte, Bool.and_self, eq_self, z_max, z_min, nI_add, z_sub, z_dec, z_mul, z_div, z_mod, nI_clamp, z_lt, z_nlt, z_le, z_nle, z_ne, z_eq, z_in, not_true_eq_false, if_true, if_false, hs_at, hs_ne, hs_sort, hset_eq, vupp_eq, hs_over, List.length_set, vup_at, vup_ne, vup_over, vup_sort, mfs_len, n5_f, map_getD, List.length_map, gd_self, gd_ne, Nat.add_sub_cancel, mg_0, mg_1, mg_47, mg_48, mg_49, mg_50, ms_1, ms_3, ms_42, ms_46, ms_47, ms_48, ms_50, ms_6, hM3]
          exact tl
      by_cases g : (bk1 B x).1 = 1
      · have m := main (nI 1) (by rw [if_pos g])
        simp (disch := first | omega | (simp only [List.length_set]; omega)) only [g_155_0, g_155_1, g_155_2, g_155_6, g_155_9, g_155_11, g_155_12, g_155_13, g_155_14, g_155_17, g_155_18, g_155_19, g_155_22, g_155_23, g_155_24, g_155_27, g_155_28, g_155_29, g_155_32, g_155_33, g_155_34, g_155_37, g_155_38, g_155_42, g_155_43, g_155_45, g_155_48, g_155_49, g_155_52, g_155_55, g_155_56, g_155_59, g_155_60, g_155_61, g_155_64, g_155_66, g_155_70, g_155_71, g_155_74, g_155_75, g_155_78, g_155_80, g_155_81, g_155_85, g_155_87, g_155_88, g_155_91, g_155_94, g_155_96, g_155_97, g_155_100, g_155_101, g_155_105, g_155_106, g_155_109, g_155_112, g_155_114, g_155_117, g_155_121, g_155_124, g_155_125, g_155_128, g_155_131, g_155_133, g_155_134, g_155_137, g_155_141, g_155_144, g_155_148, g_155_152, g_155_153, g_155_156, g_155_159, g_155_160, g_155_162, g_155_164, g_155_165, g_155_168, g_155_170, g_155_171, g_155_172, g_155_173, g_155_179, g_155_183, g_155_187, g_155_188, g_155_189, g_155_192, g_155_195, g_155_196, g_155_199, g_155_200, g_155_203, g_155_206, g_155_207, g_155_210, g_155_213, g_155_215, g_155_216, g_155_219, g_155_220, g_155_221, g_155_222, g_155_224, g_155_225, g_155_228, g_155_231, g_155_232, g_155_235, g_155_236, g_155_237, g_155_240, g_155_241, g_155_242, g_155_243, g_155_246, g_155_249, g_155_250, g_155_251, g_155_254, g_155_257, g_155_258, g_155_259, g_155_262, g_155_266, g_155_267, g_155_270, gs_nx, db_inx, gs_ldi, gs_lda, gs_ldn, List.getElem?_cons_zero, List.getElem?_cons_succ, List.set_cons_zero, List.set_cons_succ, gx5, fx_int, fx_ref, fx_null, px5, gs_lx, gs_ax, sx5, ft_int, ft_ref, ft_b0, ft_b1, c1_int, c1_ref, List.length_cons, List.length_nil, Nat.reduceAdd, Nat.reduceLT, Nat.reduceLeDiff, true_and, and_true, true_or, or_true, not_false_eq_true, Option.toList_some, Option.toList_none, List.nil_append, List.singleton_append, List.cons_append, ↓reduceIte, Bool.and_self, eq_self, z_max, z_min, nI_add, z_sub, z_dec, z_mul, z_div, z_mod, nI_clamp, z_lt, z_nlt, z_le, z_nle, z_ne, z_eq, z_in, not_true_eq_false, if_true, if_false, hs_at, hs_ne, hs_sort, hset_eq, vupp_eq, hs_over, List.length_set, vup_at, vup_ne, vup_over, vup_sort, mfs_len, n5_f, map_getD, List.length_map, gd_self, gd_ne, Nat.add_sub_cancel, mg_0, mg_1, mg_47, mg_48, mg_49, mg_50, ms_1, ms_3, ms_42, ms_46, ms_47, ms_48, ms_50, ms_6, g]
        exact m
      · have m := main (nI 0) (by rw [if_neg g])
        have g0 : (bk1 B x).1 = 0 := by omega
        simp (disch := first | omega | (simp only [List.length_set]; omega)) only [g_155_0, g_155_1, g_155_2, g_155_6, g_155_9, g_155_11, g_155_12, g_155_13, g_155_14, g_155_17, g_155_18, g_155_19, g_155_22, g_155_23, g_155_24, g_155_27, g_155_28, g_155_29, g_155_32, g_155_33, g_155_34, g_155_37, g_155_38, g_155_42, g_155_43, g_155_45, g_155_48, g_155_49, g_155_52, g_155_55, g_155_56, g_155_59, g_155_60, g_155_61, g_155_64, g_155_66, g_155_70, g_155_71, g_155_74, g_155_75, g_155_78, g_155_80, g_155_81, g_155_85, g_155_87, g_155_88, g_155_91, g_155_94, g_155_96, g_155_97, g_155_100, g_155_101, g_155_105, g_155_106, g_155_109, g_155_112, g_155_114, g_155_117, g_155_121, g_155_124, g_155_125, g_155_128, g_155_131, g_155_133, g_155_134, g_155_137, g_155_141, g_155_144, g_155_148, g_155_152, g_155_153, g_155_156, g_155_159, g_155_160, g_155_162, g_155_164, g_155_165, g_155_168, g_155_170, g_155_171, g_155_172, g_155_173, g_155_179, g_155_183, g_155_187, g_155_188, g_155_189, g_155_192, g_155_195, g_155_196, g_155_199, g_155_200, g_155_203, g_155_206, g_155_207, g_155_210, g_155_213, g_155_215, g_155_216, g_155_219, g_155_220, g_155_221, g_155_222, g_155_224, g_155_225, g_155_228, g_155_231, g_155_232, g_155_235, g_155_236, g_155_237, g_155_240, g_155_241, g_155_242, g_155_243, g_155_246, g_155_249, g_155_250, g_155_251, g_155_254, g_155_257, g_155_258, g_155_259, g_155_262, g_155_266, g_155_267, g_155_270, gs_nx, db_inx, gs_ldi, gs_lda, gs_ldn, List.getElem?_cons_zero, List.getElem?_cons_succ, List.set_cons_zero, List.set_cons_succ, gx5, fx_int, fx_ref, fx_null, px5, gs_lx, gs_ax, sx5, ft_int, ft_ref, ft_b0, ft_b1, c1_int, c1_ref, List.length_cons, List.length_nil, Nat.reduceAdd, Nat.reduceLT, Nat.reduceLeDiff, true_and, and_true, true_or, or_true, not_false_eq_true, Option.toList_some, Option.toList_none, List.nil_append, List.singleton_append, List.cons_append, ↓reduceIte, Bool.and_self, eq_self, z_max, z_min, nI_add, z_sub, z_dec, z_mul, z_div, z_mod, nI_clamp, z_lt, z_nlt, z_le, z_nle, z_ne, z_eq, z_in, not_true_eq_false, if_true, if_false, hs_at, hs_ne, hs_sort, hset_eq, vupp_eq, hs_over, List.length_set, vup_at, vup_ne, vup_over, vup_sort, mfs_len, n5_f, map_getD, List.length_map, gd_self, gd_ne, Nat.add_sub_cancel, mg_0, mg_1, mg_47, mg_48, mg_49, mg_50, ms_1, ms_3, ms_42, ms_46, ms_47, ms_48, ms_50, ms_6, g0]
        exact m
    · rw [if_neg q] at K
      rw [g_155_44]
      simp (disch := first | omega | (simp only [List.length_set]; omega)) only [g_155_0, g_155_1, g_155_2, g_155_6, g_155_9, g_155_11, g_155_12, g_155_13, g_155_14, g_155_17, g_155_18, g_155_19, g_155_22, g_155_23, g_155_24, g_155_27, g_155_28, g_155_29, g_155_32, g_155_33, g_155_34, g_155_37, g_155_38, g_155_42, g_155_43, g_155_45, g_155_48, g_155_49, g_155_52, g_155_55, g_155_56, g_155_59, g_155_60, g_155_61, g_155_64, g_155_66, g_155_70, g_155_71, g_155_74, g_155_75, g_155_78, g_155_79, g_155_80, g_155_81, g_155_85, g_155_87, g_155_88, g_155_91, g_155_94, g_155_96, g_155_97, g_155_100, g_155_101, g_155_105, g_155_106, g_155_109, g_155_112, g_155_114, g_155_117, g_155_121, g_155_124, g_155_125, g_155_128, g_155_131, g_155_133, g_155_134, g_155_137, g_155_141, g_155_144, g_155_148, g_155_152, g_155_153, g_155_156, g_155_159, g_155_160, g_155_162, g_155_164, g_155_165, g_155_168, g_155_170, g_155_171, g_155_172, g_155_173, g_155_179, g_155_183, g_155_187, g_155_188, g_155_189, g_155_192, g_155_195, g_155_196, g_155_199, g_155_200, g_155_203, g_155_206, g_155_207, g_155_210, g_155_213, g_155_215, g_155_216, g_155_219, g_155_220, g_155_221, g_155_222, g_155_224, g_155_225, g_155_228, g_155_231, g_155_232, g_155_235, g_155_236, g_155_237, g_155_240, g_155_241, g_155_242, g_155_243, g_155_246, g_155_249, g_155_250, g_155_251, g_155_254, g_155_257, g_155_258, g_155_259, g_155_262, g_155_266, g_155_267, g_155_270, gs_nx, db_inx, gs_ldi, gs_lda, gs_ldn, List.getElem?_cons_zero, List.getElem?_cons_succ, List.set_cons_zero, List.set_cons_succ, gx5, fx_int, fx_ref, fx_null, px5, gs_lx, gs_ax, sx5, ft_int, ft_ref, ft_b0, ft_b1, c1_int, c1_ref, List.length_cons, List.length_nil, Nat.reduceAdd, Nat.reduceLT, Nat.reduceLeDiff, true_and, and_true, true_or, or_true, not_false_eq_true, Option.toList_some, Option.toList_none, List.nil_append, List.singleton_append, List.cons_append, ↓reduceIte, Bool.and_self, eq_self, z_max, z_min, nI_add, z_sub, z_dec, z_mul, z_div, z_mod, nI_clamp, z_lt, z_nlt, z_le, z_nle, z_ne, z_eq, z_in, not_true_eq_false, if_true, if_false, hs_at, hs_ne, hs_sort, hset_eq, vupp_eq, hs_over, List.length_set, vup_at, vup_ne, vup_over, vup_sort, mfs_len, n5_f, map_getD, List.length_map, gd_self, gd_ne, Nat.add_sub_cancel, mg_0, mg_1, mg_47, mg_48, mg_49, mg_50, ms_1, ms_3, ms_42, ms_46, ms_47, ms_48, ms_50, ms_6, hM]
      exact K h M N own _ _ _ _ Fr_refl vEq_rf X O A (fun w => absurd w q)
end MOP
