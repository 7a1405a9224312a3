/-! pack of the class: findRepeats, takeSpareLog, pack -/
section CPB
variable {P : Option Value → db_H → Prop}
/-- cells of Repeats -/
def cRp (h : db_H) : Prop := ∃ pl ln vl a b c, h[12]? = some (.inr (9, [.ref 13, .ref 14, .ref 15, .int a, .int b, .int c])) ∧ h[13]? = some (.inl (0, pl)) ∧ h[14]? = some (.inl (0, ln)) ∧ h[15]? = some (.inl (0, vl)) ∧ pl.length = 300 ∧ ln.length = 300 ∧ vl.length = 300
theorem cRp_fr {h h2 : db_H} {F : List Nat} (f : Fr F h h2) (hF : 12 ∉ F ∧ 13 ∉ F ∧ 14 ∉ F ∧ 15 ∉ F) (A : cRp h) : cRp h2 := by
  obtain ⟨pl, ln, vl, a, b, c, h1, h2, h3, h4, r⟩ := A
  exact ⟨pl, ln, vl, a, b, c, Fr_get f hF.1 h1, Fr_get f hF.2.1 h2, Fr_get f hF.2.2.1 h3, Fr_get f hF.2.2.2 h4, r⟩
/-- the first n of l are bytes -/
def byt (l : List Int32) (n : Nat) : Prop := ∀ j, j < n → ∃ v, v < 256 ∧ l.getD j 0 = nI v
theorem steps_V {l : List Int32} {C : List Nat} {n : Nat} (hb : byt l n) (hn : n ≤ 300) : (∀ t ∈ steps l C n, stV t) ∧ (steps l C n).Pairwise (fun a b => a.1 < b.1) ∧ (steps l C n).length ≤ 300 ∧ lnS (steps l C n) ≤ 300 := by
  have s := stF_sum (l := l) (C := C) (n := n) n 0
  have a : ∀ t ∈ steps l C n, stV t := fun t ht => (stF_V hb hn n 0 t ht).1
  have b := lnS_len (V := steps l C n) (fun t ht => (stF_V hb hn n 0 t ht).2.2.1)
  unfold steps at *
  exact ⟨a, stF_sorted hb hn n 0, by omega, by omega⟩
/-- findRepeats -/
theorem f29 {h : db_H} {l : List Int32} {n a b : Nat} {C : List Nat} {r : Bool} {fp : Int32} (hl : 164 < h.length) (h5 : h[5]? = some (tob a b (bI r) fp)) (hD : cD h l n) (hb : byt l n) (hC : cC h C) (A : cRp h) (hr : r = true → cR h (steps l C n)) (K : ∀ h2, Fr [5, 12, 13, 14, 15] h h2 → cR h2 (steps l C n) → cRp h2 → h2[5]? = some (tob a b (bI true) fp) → P none h2) : db_Go 29 0 [.ref 5] [] h P := by
  have h5' := h5
  unfold tob at h5'
  by_cases q : r = true
  · rw [q] at h5 h5'
    have e : bI true = nI 1 := rfl
    rw [e] at h5'
    simp (disch := first | omega | (simp only [List.length_set]; omega)) only [g_29_0, g_29_1, g_29_4, g_29_7, g_29_8, g_29_11, g_29_12, g_29_15, g_29_16, g_29_22, g_29_23, g_29_24, g_29_27, gs_nx, db_inx, gs_ldi, gs_lda, gs_ldn, List.getElem?_cons_zero, List.getElem?_cons_succ, List.set_cons_zero, List.set_cons_succ, gx5, fx_int, fx_ref, fx_null, px5, gs_lx, gs_ax, sx5, ft_int, ft_ref, ft_b0, ft_b1, c1_int, c1_ref, List.length_cons, List.length_nil, Nat.reduceAdd, Nat.reduceLT, Nat.reduceLeDiff, true_and, and_true, true_or, or_true, not_false_eq_true, Option.toList_some, Option.toList_none, List.nil_append, List.singleton_append, List.cons_append, ↓reduceIte, Bool.and_self, eq_self, z_max, z_min, nI_add, z_sub, z_dec, z_mul, z_div, z_mod, nI_clamp, z_lt, z_nlt, z_le, z_nle, z_ne, z_eq, z_in, not_true_eq_false, if_true, if_false, hs_at, hs_ne, hs_sort, hset_eq, vupp_eq, hs_over, List.length_set, vup_at, vup_ne, vup_over, vup_sort, mfs_len, n5_f, map_getD, List.length_map, gd_self, gd_ne, Nat.add_sub_cancel, h5']
    exact K h Fr_refl (hr q) A h5
  · have e : bI r = nI 0 := by
      rw [Bool.eq_false_iff.mpr q]
      rfl
    rw [e] at h5'
    obtain ⟨pl, ln, vl, x, y, z, h12, h13, h14, h15, l1, l2, l3⟩ := A
    obtain ⟨h6, h7, l4, l5⟩ := hD
    obtain ⟨cr, h10, h11, c1, c2, c3, c4⟩ := hC
    have sv := steps_V (C := C) hb l5
    have FI : fdI h l cr n C := ⟨by omega, h6, h7, l4, l5, h10, h11, c1, c2, c3, fun x hx => (c4 x hx).2⟩
    have er : rs h pl ln vl x y z = h := by
      unfold rs rp
      rw [hs_self h13, hs_self h14, hs_self h15, hs_self h12]
    simp (disch := first | omega | (simp only [List.length_set]; omega)) only [g_29_0, g_29_1, g_29_4, g_29_7, g_29_8, g_29_11, g_29_12, g_29_15, g_29_16, g_29_22, g_29_23, g_29_24, g_29_27, gs_nx, db_inx, gs_ldi, gs_lda, gs_ldn, List.getElem?_cons_zero, List.getElem?_cons_succ, List.set_cons_zero, List.set_cons_succ, gx5, fx_int, fx_ref, fx_null, px5, gs_lx, gs_ax, sx5, ft_int, ft_ref, ft_b0, ft_b1, c1_int, c1_ref, List.length_cons, List.length_nil, Nat.reduceAdd, Nat.reduceLT, Nat.reduceLeDiff, true_and, and_true, true_or, or_true, not_false_eq_true, Option.toList_some, Option.toList_none, List.nil_append, List.singleton_append, List.cons_append, ↓reduceIte, Bool.and_self, eq_self, z_max, z_min, nI_add, z_sub, z_dec, z_mul, z_div, z_mod, nI_clamp, z_lt, z_nlt, z_le, z_nle, z_ne, z_eq, z_in, not_true_eq_false, if_true, if_false, hs_at, hs_ne, hs_sort, hset_eq, vupp_eq, hs_over, List.length_set, vup_at, vup_ne, vup_over, vup_sort, mfs_len, n5_f, map_getD, List.length_map, gd_self, gd_ne, Nat.add_sub_cancel, h5']
    refine c_29_19 (by simp) (n5_ge (by decide)) h12 ?_
    have k := @m30 h (fun (o : Option Value) h2 => db_Go 29 22 [.ref 5] (o.toList ++ []) h2 P) l cr pl ln vl x y z n C FI l1 l2 l3 ?_
    · rw [er] at k
      exact k
    · intro pl' ln' vl' b' c' so
      have F : Fr [12, 13, 14, 15] h (rs h pl' ln' vl' (nI (steps l C n).length) b' c') := by
        unfold rs rp
        exact Fr_s (Fr_s (Fr_s (Fr_set (by decide)) (by decide)) (by decide)) (by decide)
      have R : cR (rs h pl' ln' vl' (nI (steps l C n).length) b' c') (steps l C n) := ⟨pl', ln', vl', _, _, rs_12 (by omega), rs_13 (by omega), rs_14 (by omega), rs_15 (by omega), so, sv.2.2.1, sv.1⟩
      have Rp : cRp (rs h pl' ln' vl' (nI (steps l C n).length) b' c') := ⟨pl', ln', vl', _, _, _, rs_12 (by omega), rs_13 (by omega), rs_14 (by omega), rs_15 (by omega), so.1, so.2.1, so.2.2.1⟩
      generalize rs h pl' ln' vl' (nI (steps l C n).length) b' c' = h2 at *
      have h52 := Fr_get F (by decide) h5'
      have hl2 := Fr_len F hl
      simp (disch := first | omega | (simp only [List.length_set]; omega)) only [g_29_0, g_29_1, g_29_4, g_29_7, g_29_8, g_29_11, g_29_12, g_29_15, g_29_16, g_29_22, g_29_23, g_29_24, g_29_27, gs_nx, db_inx, gs_ldi, gs_lda, gs_ldn, List.getElem?_cons_zero, List.getElem?_cons_succ, List.set_cons_zero, List.set_cons_succ, gx5, fx_int, fx_ref, fx_null, px5, gs_lx, gs_ax, sx5, ft_int, ft_ref, ft_b0, ft_b1, c1_int, c1_ref, List.length_cons, List.length_nil, Nat.reduceAdd, Nat.reduceLT, Nat.reduceLeDiff, true_and, and_true, true_or, or_true, not_false_eq_true, Option.toList_some, Option.toList_none, List.nil_append, List.singleton_append, List.cons_append, ↓reduceIte, Bool.and_self, eq_self, z_max, z_min, nI_add, z_sub, z_dec, z_mul, z_div, z_mod, nI_clamp, z_lt, z_nlt, z_le, z_nle, z_ne, z_eq, z_in, not_true_eq_false, if_true, if_false, hs_at, hs_ne, hs_sort, hset_eq, vupp_eq, hs_over, List.length_set, vup_at, vup_ne, vup_over, vup_sort, mfs_len, n5_f, map_getD, List.length_map, gd_self, gd_ne, Nat.add_sub_cancel, h52]
      have F2 : ∀ z, Fr [5] h2 (h2.set 5 z) := fun z => Fr_set (by decide)
      refine K _ (Fr_s (Fr_mono F (by decide)) (by decide)) (cR_fr (F2 _) (by decide) R) (cRp_fr (F2 _) (by decide) Rp) ?_
      simp (disch := first | omega | (simp only [List.length_set]; omega)) only [hs_at, hs_ne, List.length_set]
      rfl
/-- takeSpareLog -/
theorem f78 {h : db_H} {a b : Nat} {r fp : Int32} (hl : 164 < h.length) (h5 : h[5]? = some (tob a b r fp)) (K : P none (h.set 5 (tob b a r fp))) : db_Go 78 0 [.ref 5, .retAddr 0] [] h P := by
  unfold tob at h5 K
  simp (disch := first | omega | (simp only [List.length_set]; omega)) only [g_78_0, g_78_1, g_78_4, g_78_5, g_78_6, g_78_7, g_78_10, g_78_13, g_78_14, g_78_15, g_78_18, gs_nx, db_inx, gs_ldi, gs_lda, gs_ldn, List.getElem?_cons_zero, List.getElem?_cons_succ, List.set_cons_zero, List.set_cons_succ, gx5, fx_int, fx_ref, fx_null, px5, gs_lx, gs_ax, sx5, ft_int, ft_ref, ft_b0, ft_b1, c1_int, c1_ref, List.length_cons, List.length_nil, Nat.reduceAdd, Nat.reduceLT, Nat.reduceLeDiff, true_and, and_true, true_or, or_true, not_false_eq_true, Option.toList_some, Option.toList_none, List.nil_append, List.singleton_append, List.cons_append, ↓reduceIte, Bool.and_self, eq_self, z_max, z_min, nI_add, z_sub, z_dec, z_mul, z_div, z_mod, nI_clamp, z_lt, z_nlt, z_le, z_nle, z_ne, z_eq, z_in, not_true_eq_false, if_true, if_false, hs_at, hs_ne, hs_sort, hset_eq, vupp_eq, hs_over, List.length_set, vup_at, vup_ne, vup_over, vup_sort, mfs_len, n5_f, map_getD, List.length_map, gd_self, gd_ne, Nat.add_sub_cancel, h5]
  exact K
theorem pkF_len {D : List Int32} {T : List St} {n : Nat} {C : List Nat} {level : Nat} (hD : D.length = n) (hD2 : n ≤ 300) (hT : T.length ≤ 300) (hV : ∀ t ∈ T, stV t) {Z : Nat} : ∀ (f : Nat) (W : List Bool) (b : Nat) (N : List Nt) (o : Option (List St)), b ≤ n → W.length + 4600 * f + 16 * lnS (T.filter (fun t => decide (b ≤ t.1))) ≤ Z → (pkF D T n C level f W b N o).1.length ≤ Z
  | 0, W, b, N, o, hb, h => by
    rw [pkF]
    show W.length ≤ Z
    omega
  | f + 1, W, b, N, o, hb, h => by
    have es := eo_spec b C n
    have hbe : b ≤ eo C b n := by
      rcases es.2.2 with q | q
      · omega
      · omega
    have split := @lnS_split b (eo C b n) T
    rw [Nat.max_eq_right hbe] at split
    have bb := bkW_len (D := D) (T := T) (n := n) (k := kdO D T n W level b (eo C b n)) (b := b) (e := eo C b n) (W := W) (by omega) (by omega) hT hV
    rw [pkF]
    split
    · exact pkF_len hD hD2 hT hV f _ _ _ _ es.1 (by omega)
    · show (bkW D T n W (kdO D T n W level b (eo C b n)) b (eo C b n)).length ≤ Z
      omega
/-- the BLOCKS, and THE TAPE in full -/
def pkR (l : List Int32) (C : List Nat) (n fr level : Nat) : List Bool × List Nt × Option (List St) := pkF (l.take n) (steps l C n) n C level 3 (HB fr) 0 [] none
def pkT (l : List Int32) (C : List Nat) (n fr level : Nat) : List Bool := (pkR l C n fr level).1 ++ List.replicate (pad (pkR l C n fr level).1.length) false ++ TBt fr (l.take n) n
theorem pkR_len {l : List Int32} {C : List Nat} {n fr level : Nat} (hb : byt l n) (hn : n ≤ 300) (hl : l.length = 300) : (pkR l C n fr level).1.length ≤ 23900 := by
  have sv := steps_V (C := C) hb hn
  unfold pkR
  refine pkF_len (by rw [List.length_take]; omega) hn sv.2.2.1 sv.1 3 _ 0 [] none (by omega) ?_
  have e0 : lnS ((steps l C n).filter (fun t => decide (0 ≤ t.1))) = lnS (steps l C n) := by rw [List.filter_eq_self.mpr (fun t _ => by rw [decide_eq_true_eq]; omega)]
  have := HB_len fr
  rw [e0]
  omega
theorem TBt_len {fr n : Nat} {D : List Int32} : (TBt fr D n).length % 8 = 0 ∧ (TBt fr D n).length ≤ 64 := by
  unfold TBt
  split
  · rw [hfB_len]
    decide
  · split
    · rw [List.length_append, fb_len, fb_len]
      decide
    · decide
theorem pad_8 (n : Nat) : (n + pad n) % 8 = 0 := by unfold pad; omega
theorem pkT_8 {l : List Int32} {C : List Nat} {n fr level : Nat} : (pkT l C n fr level).length % 8 = 0 := by
  unfold pkT
  rw [List.length_append, List.length_append, List.length_replicate]
  have := pad_8 (pkR l C n fr level).1.length
  have := @TBt_len fr n (l.take n)
  omega
def F28 (o fc : Nat) : List Nat := [5, 8, 9, 12, 13, 14, 15] ++ F38 o fc
theorem F38_28 {o fc : Nat} : ∀ k, k ∈ F38 o fc → k ∈ F28 o fc := fun k hk => List.mem_append_right _ hk
theorem FC_28 {o fc : Nat} : ∀ k, k ∈ FC → k ∈ F28 o fc := fun k hk => F38_28 k (by
  unfold FC at hk
  unfold F38
  simp only [List.mem_append, List.mem_cons, List.not_mem_nil, or_false] at hk ⊢
  omega)
/-- pack -/
theorem f28 {h : db_H} {l : List Int32} {n level fr a b fc fca : Nat} {C : List Nat} {B : List Bool} {N N' : List Nt} {own own' : Option Ow} {r : Bool} {fp : Int32} (hfr : fr ≤ 2) (hlev : level ≤ 3) (hl : 164 < h.length) (h5 : h[5]? = some (tob a b (bI r) fp)) (hD : cD h l n) (hb : byt l n) (hC : cC h C) (A : cRp h) (hr : r = true → cR h (steps l C n)) (hT : cT h) (C1 : cdW h 19 fxS) (C2 : cdW h 27 fxD) (O : cO h) (p16 : ∃ y4 y5 y6 y7, h[16]? = some (pkO y4 y5 y6 y7)) (I : ∃ W, cW h W ∧ W.length < 2 ^ 29) (Tp : cTp h B) (L : cL h b fc N own) (hbb : 117 ≤ b ∧ b ≤ 122) (hf : 117 < fc) (hd : ¬ fc = b ∧ ¬ fc = b + 2 ∧ ¬ fc = b + 3 ∧ ¬ fc = b + 4)
    (K0 : 3200 < (pkT l C n fr level).length → ∀ h2 N2 own2, Fr (F28 b fc) h h2 → h2[5]? = some (tob a b (bI true) fp) → cR h2 (steps l C n) → cRp h2 → cO h2 → (∃ y4 y5 y6 y7, h2[16]? = some (pkO y4 y5 y6 y7)) → (∃ W, cW h2 W ∧ W.length < 2 ^ 29) → cTp h2 B → cL h2 b fc N2 own2 → P (some (.int (-3))) h2)
    (K1 : (pkT l C n fr level).length ≤ 3200 → ∀ h2, Fr (F28 b fc) h h2 → h2[5]? = some (tob b a (bI true) fp) → cR h2 (steps l C n) → cRp h2 → cO h2 → (∃ y4 y5 y6 y7, h2[16]? = some (pkO y4 y5 y6 y7)) → (∃ W, cW h2 W ∧ W.length < 2 ^ 29) → cTp h2 (pkT l C n fr level) → cL h2 b fc (pkR l C n fr level).2.1 ((pkR l C n fr level).2.2.map ownOf) → P (some (.int (nI ((pkT l C n fr level).length / 8)))) h2) : db_Go 28 0 [.ref 5, .int (nI fr), .int (nI level), .retAddr 0] [] h P := by
  obtain ⟨W, I, hW⟩ := I
  have sv := steps_V (C := C) hb hD.2.2.2
  have lR := pkR_len (C := C) (fr := fr) (level := level) hb hD.2.2.2 hD.2.2.1
  have lT := @TBt_len fr n (l.take n)
  have p8 := @pkT_8 l C n fr level
  have eT : (pkT l C n fr level).length = (pkR l C n fr level).1.length + pad (pkR l C n fr level).1.length + (TBt fr (l.take n) n).length := by
    unfold pkT
    rw [List.length_append, List.length_append, List.length_replicate]
  have pd := pad_le (pkR l C n fr level).1.length
  obtain ⟨y4, y5, y6, y7, p16⟩ := p16
  simp (disch := first | omega | (simp only [List.length_set]; omega)) only [g_28_0, g_28_1, g_28_4, g_28_5, g_28_6, g_28_9, g_28_10, g_28_13, g_28_14, g_28_15, g_28_18, g_28_20, g_28_21, g_28_25, g_28_26, g_28_29, g_28_32, g_28_33, g_28_34, g_28_38, g_28_39, g_28_43, g_28_44, g_28_47, g_28_48, g_28_51, g_28_52, g_28_55, g_28_56, g_28_59, g_28_60, g_28_61, g_28_67, g_28_71, g_28_72, g_28_73, g_28_77, g_28_81, g_28_84, g_28_86, g_28_87, g_28_88, g_28_91, g_28_92, g_28_95, g_28_96, g_28_99, g_28_101, g_28_105, g_28_109, g_28_110, g_28_113, g_28_116, gs_nx, db_inx, gs_ldi, gs_lda, gs_ldn, List.getElem?_cons_zero, List.getElem?_cons_succ, List.set_cons_zero, List.set_cons_succ, gx5, fx_int, fx_ref, fx_null, px5, gs_lx, gs_ax, sx5, ft_int, ft_ref, ft_b0, ft_b1, c1_int, c1_ref, List.length_cons, List.length_nil, Nat.reduceAdd, Nat.reduceLT, Nat.reduceLeDiff, true_and, and_true, true_or, or_true, not_false_eq_true, Option.toList_some, Option.toList_none, List.nil_append, List.singleton_append, List.cons_append, ↓reduceIte, Bool.and_self, eq_self, z_max, z_min, nI_add, z_sub, z_dec, z_mul, z_div, z_mod, nI_clamp, z_lt, z_nlt, z_le, z_nle, z_ne, z_eq, z_in, not_true_eq_false, if_true, if_false, hs_at, hs_ne, hs_sort, hset_eq, vupp_eq, hs_over, List.length_set, vup_at, vup_ne, vup_over, vup_sort, mfs_len, n5_f, map_getD, List.length_map, gd_self, gd_ne, Nat.add_sub_cancel]
  refine c_28_22 (by simp) (n5_ge (by decide)) h5 ?_
  refine f29 hl h5 hD hb hC A hr (fun g1 F1 R1 Rp1 h51 => ?_)
  have p161 := Fr_get F1 (by decide) p16
  have I1 := cW_fr F1 (by decide) I
  have T1 := cT_fr F1 (by decide) hT
  have C11 := cdW_fr F1 (by decide) C1
  have C21 := cdW_fr F1 (by decide) C2
  have D1 := cD_fr F1 (by decide) hD
  have CC1 := cC_fr F1 (by decide) hC
  have O1 := cO_fr F1 (by decide) O
  have Tp1 := cTp_fr F1 (by decide) Tp
  have L1 := cL_fr F1 (by simp; omega) L
  have hl1 := Fr_len F1 hl
  have F1 : Fr (F28 b fc) h g1 := Fr_mono F1 (by unfold F28; simp)
  have h51' := h51
  have p161' := p161
  unfold tob at h51'
  unfold pkO at p161'
  simp (disch := first | omega | (simp only [List.length_set]; omega)) only [g_28_0, g_28_1, g_28_4, g_28_5, g_28_6, g_28_9, g_28_10, g_28_13, g_28_14, g_28_15, g_28_18, g_28_20, g_28_21, g_28_25, g_28_26, g_28_29, g_28_32, g_28_33, g_28_34, g_28_38, g_28_39, g_28_43, g_28_44, g_28_47, g_28_48, g_28_51, g_28_52, g_28_55, g_28_56, g_28_59, g_28_60, g_28_61, g_28_67, g_28_71, g_28_72, g_28_73, g_28_77, g_28_81, g_28_84, g_28_86, g_28_87, g_28_88, g_28_91, g_28_92, g_28_95, g_28_96, g_28_99, g_28_101, g_28_105, g_28_109, g_28_110, g_28_113, g_28_116, gs_nx, db_inx, gs_ldi, gs_lda, gs_ldn, List.getElem?_cons_zero, List.getElem?_cons_succ, List.set_cons_zero, List.set_cons_succ, gx5, fx_int, fx_ref, fx_null, px5, gs_lx, gs_ax, sx5, ft_int, ft_ref, ft_b0, ft_b1, c1_int, c1_ref, List.length_cons, List.length_nil, Nat.reduceAdd, Nat.reduceLT, Nat.reduceLeDiff, true_and, and_true, true_or, or_true, not_false_eq_true, Option.toList_some, Option.toList_none, List.nil_append, List.singleton_append, List.cons_append, ↓reduceIte, Bool.and_self, eq_self, z_max, z_min, nI_add, z_sub, z_dec, z_mul, z_div, z_mod, nI_clamp, z_lt, z_nlt, z_le, z_nle, z_ne, z_eq, z_in, not_true_eq_false, if_true, if_false, hs_at, hs_ne, hs_sort, hset_eq, vupp_eq, hs_over, List.length_set, vup_at, vup_ne, vup_over, vup_sort, mfs_len, n5_f, map_getD, List.length_map, gd_self, gd_ne, Nat.add_sub_cancel, h51', p161']
  refine c_28_35 (by simp) (n5_ge (by decide)) (cW_o I1) ?_
  refine f34 I1 (Nat.zero_le _) (by omega) (fun g2 F2 I2 => ?_)
  rw [List.take_zero] at I2
  simp (disch := first | omega | (simp only [List.length_set]; omega)) only [g_28_0, g_28_1, g_28_4, g_28_5, g_28_6, g_28_9, g_28_10, g_28_13, g_28_14, g_28_15, g_28_18, g_28_20, g_28_21, g_28_25, g_28_26, g_28_29, g_28_32, g_28_33, g_28_34, g_28_38, g_28_39, g_28_43, g_28_44, g_28_47, g_28_48, g_28_51, g_28_52, g_28_55, g_28_56, g_28_59, g_28_60, g_28_61, g_28_67, g_28_71, g_28_72, g_28_73, g_28_77, g_28_81, g_28_84, g_28_86, g_28_87, g_28_88, g_28_91, g_28_92, g_28_95, g_28_96, g_28_99, g_28_101, g_28_105, g_28_109, g_28_110, g_28_113, g_28_116, gs_nx, db_inx, gs_ldi, gs_lda, gs_ldn, List.getElem?_cons_zero, List.getElem?_cons_succ, List.set_cons_zero, List.set_cons_succ, gx5, fx_int, fx_ref, fx_null, px5, gs_lx, gs_ax, sx5, ft_int, ft_ref, ft_b0, ft_b1, c1_int, c1_ref, List.length_cons, List.length_nil, Nat.reduceAdd, Nat.reduceLT, Nat.reduceLeDiff, true_and, and_true, true_or, or_true, not_false_eq_true, Option.toList_some, Option.toList_none, List.nil_append, List.singleton_append, List.cons_append, ↓reduceIte, Bool.and_self, eq_self, z_max, z_min, nI_add, z_sub, z_dec, z_mul, z_div, z_mod, nI_clamp, z_lt, z_nlt, z_le, z_nle, z_ne, z_eq, z_in, not_true_eq_false, if_true, if_false, hs_at, hs_ne, hs_sort, hset_eq, vupp_eq, hs_over, List.length_set, vup_at, vup_ne, vup_over, vup_sort, mfs_len, n5_f, map_getD, List.length_map, gd_self, gd_ne, Nat.add_sub_cancel]
  refine c_28_40 (by simp) ?_
  refine f35 hfr I2 (cT_fr F2 (by decide) T1) (by simp) (fun g3 F3 I3 => ?_)
  rw [List.nil_append] at I3
  have F3 := Fr_tr F2 F3
  have h53 := Fr_get F3 (by decide) h51
  have h53' := Fr_get F3 (by decide) h51'
  have p163 := Fr_get F3 (by decide) p161
  have X3 : pX g3 l n (steps l C n) C := ⟨cT_fr F3 (by decide) T1, cR_fr F3 (by decide) R1, cdW_fr F3 (by decide) C11, cdW_fr F3 (by decide) C21, cD_fr F3 (by decide) D1, cC_fr F3 (by decide) CC1⟩
  have O3 := cO_fr F3 (by decide) O1
  have Rp3 := cRp_fr F3 (by decide) Rp1
  have Tp3 := cTp_fr F3 (by decide) Tp1
  have L3 := cL_fr F3 (by unfold FC; simp; omega) L1
  have F3 : Fr (F28 b fc) h g3 := Fr_tr F1 (Fr_mono F3 FC_28)
  simp (disch := first | omega | (simp only [List.length_set]; omega)) only [g_28_0, g_28_1, g_28_4, g_28_5, g_28_6, g_28_9, g_28_10, g_28_13, g_28_14, g_28_15, g_28_18, g_28_20, g_28_21, g_28_25, g_28_26, g_28_29, g_28_32, g_28_33, g_28_34, g_28_38, g_28_39, g_28_43, g_28_44, g_28_47, g_28_48, g_28_51, g_28_52, g_28_55, g_28_56, g_28_59, g_28_60, g_28_61, g_28_67, g_28_71, g_28_72, g_28_73, g_28_77, g_28_81, g_28_84, g_28_86, g_28_87, g_28_88, g_28_91, g_28_92, g_28_95, g_28_96, g_28_99, g_28_101, g_28_105, g_28_109, g_28_110, g_28_113, g_28_116, gs_nx, db_inx, gs_ldi, gs_lda, gs_ldn, List.getElem?_cons_zero, List.getElem?_cons_succ, List.set_cons_zero, List.set_cons_succ, gx5, fx_int, fx_ref, fx_null, px5, gs_lx, gs_ax, sx5, ft_int, ft_ref, ft_b0, ft_b1, c1_int, c1_ref, List.length_cons, List.length_nil, Nat.reduceAdd, Nat.reduceLT, Nat.reduceLeDiff, true_and, and_true, true_or, or_true, not_false_eq_true, Option.toList_some, Option.toList_none, List.nil_append, List.singleton_append, List.cons_append, ↓reduceIte, Bool.and_self, eq_self, z_max, z_min, nI_add, z_sub, z_dec, z_mul, z_div, z_mod, nI_clamp, z_lt, z_nlt, z_le, z_nle, z_ne, z_eq, z_in, not_true_eq_false, if_true, if_false, hs_at, hs_ne, hs_sort, hset_eq, vupp_eq, hs_over, List.length_set, vup_at, vup_ne, vup_over, vup_sort, mfs_len, n5_f, map_getD, List.length_map, gd_self, gd_ne, Nat.add_sub_cancel, h53']
  refine c_28_64 (by simp) (n5_ge (by decide)) p163 ?_
  refine f38 hlev hbb hf hd sv.2.1 sv.1 sv.2.2.1 X3 O3 ⟨_, _, _, _, p163⟩ I3 L3 (by have := HB_len fr; omega) (fun g4 F4 O4 p4 I4 L4 => ?_)
  have fn := @F38_n b fc
  have fn := fun k => @fn k hbb.1 (by omega)
  have I4 : cW g4 (pkR l C n fr level).1 := I4
  have L4 : cL g4 b fc (pkR l C n fr level).2.1 ((pkR l C n fr level).2.2.map ownOf) := L4
  have h54 := Fr_get F4 (fn 5 (by omega)) h53
  have h54' := Fr_get F4 (fn 5 (by omega)) h53'
  have Tp4 := cTp_fr F4 ⟨fn 8 (by omega), fn 9 (by omega)⟩ Tp3
  have Rp4 := cRp_fr F4 ⟨fn 12 (by omega), fn 13 (by omega), fn 14 (by omega), fn 15 (by omega)⟩ Rp3
  have X4 := pX_fr F4 ⟨fun k hk => fn k (by omega), fun k hk => fn (19 + k) (by omega)⟩ X3
  have F4 : Fr (F28 b fc) h g4 := Fr_tr F3 (Fr_mono F4 F38_28)
  simp (disch := first | omega | (simp only [List.length_set]; omega)) only [g_28_0, g_28_1, g_28_4, g_28_5, g_28_6, g_28_9, g_28_10, g_28_13, g_28_14, g_28_15, g_28_18, g_28_20, g_28_21, g_28_25, g_28_26, g_28_29, g_28_32, g_28_33, g_28_34, g_28_38, g_28_39, g_28_43, g_28_44, g_28_47, g_28_48, g_28_51, g_28_52, g_28_55, g_28_56, g_28_59, g_28_60, g_28_61, g_28_67, g_28_71, g_28_72, g_28_73, g_28_77, g_28_81, g_28_84, g_28_86, g_28_87, g_28_88, g_28_91, g_28_92, g_28_95, g_28_96, g_28_99, g_28_101, g_28_105, g_28_109, g_28_110, g_28_113, g_28_116, gs_nx, db_inx, gs_ldi, gs_lda, gs_ldn, List.getElem?_cons_zero, List.getElem?_cons_succ, List.set_cons_zero, List.set_cons_succ, gx5, fx_int, fx_ref, fx_null, px5, gs_lx, gs_ax, sx5, ft_int, ft_ref, ft_b0, ft_b1, c1_int, c1_ref, List.length_cons, List.length_nil, Nat.reduceAdd, Nat.reduceLT, Nat.reduceLeDiff, true_and, and_true, true_or, or_true, not_false_eq_true, Option.toList_some, Option.toList_none, List.nil_append, List.singleton_append, List.cons_append, ↓reduceIte, Bool.and_self, eq_self, z_max, z_min, nI_add, z_sub, z_dec, z_mul, z_div, z_mod, nI_clamp, z_lt, z_nlt, z_le, z_nle, z_ne, z_eq, z_in, not_true_eq_false, if_true, if_false, hs_at, hs_ne, hs_sort, hset_eq, vupp_eq, hs_over, List.length_set, vup_at, vup_ne, vup_over, vup_sort, mfs_len, n5_f, map_getD, List.length_map, gd_self, gd_ne, Nat.add_sub_cancel]
  refine c_28_68 (by simp) (n5_ge (by decide)) (cW_o I4) ?_
  refine f60 I4 (by omega) (fun g5 F5 I5 => ?_)
  have h55 := Fr_get F5 (by decide) h54
  have D5 := cD_fr F5 (by decide) X4.2.2.2.2.1
  simp (disch := first | omega | (simp only [List.length_set]; omega)) only [g_28_0, g_28_1, g_28_4, g_28_5, g_28_6, g_28_9, g_28_10, g_28_13, g_28_14, g_28_15, g_28_18, g_28_20, g_28_21, g_28_25, g_28_26, g_28_29, g_28_32, g_28_33, g_28_34, g_28_38, g_28_39, g_28_43, g_28_44, g_28_47, g_28_48, g_28_51, g_28_52, g_28_55, g_28_56, g_28_59, g_28_60, g_28_61, g_28_67, g_28_71, g_28_72, g_28_73, g_28_77, g_28_81, g_28_84, g_28_86, g_28_87, g_28_88, g_28_91, g_28_92, g_28_95, g_28_96, g_28_99, g_28_101, g_28_105, g_28_109, g_28_110, g_28_113, g_28_116, gs_nx, db_inx, gs_ldi, gs_lda, gs_ldn, List.getElem?_cons_zero, List.getElem?_cons_succ, List.set_cons_zero, List.set_cons_succ, gx5, fx_int, fx_ref, fx_null, px5, gs_lx, gs_ax, sx5, ft_int, ft_ref, ft_b0, ft_b1, c1_int, c1_ref, List.length_cons, List.length_nil, Nat.reduceAdd, Nat.reduceLT, Nat.reduceLeDiff, true_and, and_true, true_or, or_true, not_false_eq_true, Option.toList_some, Option.toList_none, List.nil_append, List.singleton_append, List.cons_append, ↓reduceIte, Bool.and_self, eq_self, z_max, z_min, nI_add, z_sub, z_dec, z_mul, z_div, z_mod, nI_clamp, z_lt, z_nlt, z_le, z_nle, z_ne, z_eq, z_in, not_true_eq_false, if_true, if_false, hs_at, hs_ne, hs_sort, hset_eq, vupp_eq, hs_over, List.length_set, vup_at, vup_ne, vup_over, vup_sort, mfs_len, n5_f, map_getD, List.length_map, gd_self, gd_ne, Nat.add_sub_cancel]
  refine c_28_74 (by simp) (n5_ge (by decide)) h55 ?_
  refine f72 hfr I5 h55 D5 (by simp only [List.length_append, List.length_replicate]; omega) (fun g6 F6 I6 => ?_)
  have I6 : cW g6 (pkT l C n fr level) := I6
  have F6 := Fr_tr F5 F6
  have h56 := Fr_get F6 (by decide) h54
  have h56' := Fr_get F6 (by decide) h54'
  have O6 := cO_fr F6 (by decide) O4
  obtain ⟨z4, z5, z6, z7, p4⟩ := p4
  have p6 := Fr_get F6 (by decide) p4
  have Tp6 := cTp_fr F6 (by decide) Tp4
  have R6 := cR_fr F6 (by decide) X4.2.1
  have Rp6 := cRp_fr F6 (by decide) Rp4
  have L6 := cL_fr F6 (by unfold FC; simp; omega) L4
  have F6 : Fr (F28 b fc) h g6 := Fr_tr F4 (Fr_mono F6 FC_28)
  have w6 := cW_o I6
  simp (disch := first | omega | (simp only [List.length_set]; omega)) only [g_28_0, g_28_1, g_28_4, g_28_5, g_28_6, g_28_9, g_28_10, g_28_13, g_28_14, g_28_15, g_28_18, g_28_20, g_28_21, g_28_25, g_28_26, g_28_29, g_28_32, g_28_33, g_28_34, g_28_38, g_28_39, g_28_43, g_28_44, g_28_47, g_28_48, g_28_51, g_28_52, g_28_55, g_28_56, g_28_59, g_28_60, g_28_61, g_28_67, g_28_71, g_28_72, g_28_73, g_28_77, g_28_81, g_28_84, g_28_86, g_28_87, g_28_88, g_28_91, g_28_92, g_28_95, g_28_96, g_28_99, g_28_101, g_28_105, g_28_109, g_28_110, g_28_113, g_28_116, gs_nx, db_inx, gs_ldi, gs_lda, gs_ldn, List.getElem?_cons_zero, List.getElem?_cons_succ, List.set_cons_zero, List.set_cons_succ, gx5, fx_int, fx_ref, fx_null, px5, gs_lx, gs_ax, sx5, ft_int, ft_ref, ft_b0, ft_b1, c1_int, c1_ref, List.length_cons, List.length_nil, Nat.reduceAdd, Nat.reduceLT, Nat.reduceLeDiff, true_and, and_true, true_or, or_true, not_false_eq_true, Option.toList_some, Option.toList_none, List.nil_append, List.singleton_append, List.cons_append, ↓reduceIte, Bool.and_self, eq_self, z_max, z_min, nI_add, z_sub, z_dec, z_mul, z_div, z_mod, nI_clamp, z_lt, z_nlt, z_le, z_nle, z_ne, z_eq, z_in, not_true_eq_false, if_true, if_false, hs_at, hs_ne, hs_sort, hset_eq, vupp_eq, hs_over, List.length_set, vup_at, vup_ne, vup_over, vup_sort, mfs_len, n5_f, map_getD, List.length_map, gd_self, gd_ne, Nat.add_sub_cancel]
  refine c_28_78 (by simp) (n5_ge (by decide)) w6 ?_
  refine f76 I6 (by omega) ?_
  by_cases q : (pkT l C n fr level).length ≤ 3200
  · have K1 := K1 q
    generalize pkT l C n fr level = W2 at *
    rw [if_pos q]
    simp (disch := first | omega | (simp only [List.length_set]; omega)) only [g_28_0, g_28_1, g_28_4, g_28_5, g_28_6, g_28_9, g_28_10, g_28_13, g_28_14, g_28_15, g_28_18, g_28_20, g_28_21, g_28_25, g_28_26, g_28_29, g_28_32, g_28_33, g_28_34, g_28_38, g_28_39, g_28_43, g_28_44, g_28_47, g_28_48, g_28_51, g_28_52, g_28_55, g_28_56, g_28_59, g_28_60, g_28_61, g_28_67, g_28_71, g_28_72, g_28_73, g_28_77, g_28_81, g_28_84, g_28_86, g_28_87, g_28_88, g_28_91, g_28_92, g_28_95, g_28_96, g_28_99, g_28_101, g_28_105, g_28_109, g_28_110, g_28_113, g_28_116, gs_nx, db_inx, gs_ldi, gs_lda, gs_ldn, List.getElem?_cons_zero, List.getElem?_cons_succ, List.set_cons_zero, List.set_cons_succ, gx5, fx_int, fx_ref, fx_null, px5, gs_lx, gs_ax, sx5, ft_int, ft_ref, ft_b0, ft_b1, c1_int, c1_ref, List.length_cons, List.length_nil, Nat.reduceAdd, Nat.reduceLT, Nat.reduceLeDiff, true_and, and_true, true_or, or_true, not_false_eq_true, Option.toList_some, Option.toList_none, List.nil_append, List.singleton_append, List.cons_append, ↓reduceIte, Bool.and_self, eq_self, z_max, z_min, nI_add, z_sub, z_dec, z_mul, z_div, z_mod, nI_clamp, z_lt, z_nlt, z_le, z_nle, z_ne, z_eq, z_in, not_true_eq_false, if_true, if_false, hs_at, hs_ne, hs_sort, hset_eq, vupp_eq, hs_over, List.length_set, vup_at, vup_ne, vup_over, vup_sort, mfs_len, n5_f, map_getD, List.length_map, gd_self, gd_ne, Nat.add_sub_cancel, h56', w6]
    refine c_28_102 (by simp) (n5_ge (by decide)) Tp6.choose_spec.1 ?_
    refine f77 I6 Tp6 p8 q (fun g7 F7 Tp7 => ?_)
    have h57 := Fr_get F7 (by decide) h56
    have I7 := cW_fr F7 (by decide) I6
    simp (disch := first | omega | (simp only [List.length_set]; omega)) only [g_28_0, g_28_1, g_28_4, g_28_5, g_28_6, g_28_9, g_28_10, g_28_13, g_28_14, g_28_15, g_28_18, g_28_20, g_28_21, g_28_25, g_28_26, g_28_29, g_28_32, g_28_33, g_28_34, g_28_38, g_28_39, g_28_43, g_28_44, g_28_47, g_28_48, g_28_51, g_28_52, g_28_55, g_28_56, g_28_59, g_28_60, g_28_61, g_28_67, g_28_71, g_28_72, g_28_73, g_28_77, g_28_81, g_28_84, g_28_86, g_28_87, g_28_88, g_28_91, g_28_92, g_28_95, g_28_96, g_28_99, g_28_101, g_28_105, g_28_109, g_28_110, g_28_113, g_28_116, gs_nx, db_inx, gs_ldi, gs_lda, gs_ldn, List.getElem?_cons_zero, List.getElem?_cons_succ, List.set_cons_zero, List.set_cons_succ, gx5, fx_int, fx_ref, fx_null, px5, gs_lx, gs_ax, sx5, ft_int, ft_ref, ft_b0, ft_b1, c1_int, c1_ref, List.length_cons, List.length_nil, Nat.reduceAdd, Nat.reduceLT, Nat.reduceLeDiff, true_and, and_true, true_or, or_true, not_false_eq_true, Option.toList_some, Option.toList_none, List.nil_append, List.singleton_append, List.cons_append, ↓reduceIte, Bool.and_self, eq_self, z_max, z_min, nI_add, z_sub, z_dec, z_mul, z_div, z_mod, nI_clamp, z_lt, z_nlt, z_le, z_nle, z_ne, z_eq, z_in, not_true_eq_false, if_true, if_false, hs_at, hs_ne, hs_sort, hset_eq, vupp_eq, hs_over, List.length_set, vup_at, vup_ne, vup_over, vup_sort, mfs_len, n5_f, map_getD, List.length_map, gd_self, gd_ne, Nat.add_sub_cancel]
    refine c_28_106 (by simp) (n5_ge (by decide)) h57 ?_
    refine f78 I7.1 h57 ?_
    have F8 : Fr [5] g7 (g7.set 5 (tob b a (bI true) fp)) := Fr_set (by decide)
    have h58 : (g7.set 5 (tob b a (bI true) fp))[5]? = some (tob b a (bI true) fp) := by
      have := I7.1
      simp (disch := first | omega | (simp only [List.length_set]; omega)) only [hs_at, hs_ne, List.length_set]
    generalize g7.set 5 (tob b a (bI true) fp) = g8 at *
    have F8' := Fr_tr (F := [5, 8, 9]) (Fr_mono F7 (by decide)) (Fr_mono F8 (by decide))
    have Tp8 := cTp_fr F8 (by decide) Tp7
    obtain ⟨row, t1, t2, t3⟩ := id Tp8
    have h58' := h58
    unfold tob at h58'
    simp (disch := first | omega | (simp only [List.length_set]; omega)) only [g_28_0, g_28_1, g_28_4, g_28_5, g_28_6, g_28_9, g_28_10, g_28_13, g_28_14, g_28_15, g_28_18, g_28_20, g_28_21, g_28_25, g_28_26, g_28_29, g_28_32, g_28_33, g_28_34, g_28_38, g_28_39, g_28_43, g_28_44, g_28_47, g_28_48, g_28_51, g_28_52, g_28_55, g_28_56, g_28_59, g_28_60, g_28_61, g_28_67, g_28_71, g_28_72, g_28_73, g_28_77, g_28_81, g_28_84, g_28_86, g_28_87, g_28_88, g_28_91, g_28_92, g_28_95, g_28_96, g_28_99, g_28_101, g_28_105, g_28_109, g_28_110, g_28_113, g_28_116, gs_nx, db_inx, gs_ldi, gs_lda, gs_ldn, List.getElem?_cons_zero, List.getElem?_cons_succ, List.set_cons_zero, List.set_cons_succ, gx5, fx_int, fx_ref, fx_null, px5, gs_lx, gs_ax, sx5, ft_int, ft_ref, ft_b0, ft_b1, c1_int, c1_ref, List.length_cons, List.length_nil, Nat.reduceAdd, Nat.reduceLT, Nat.reduceLeDiff, true_and, and_true, true_or, or_true, not_false_eq_true, Option.toList_some, Option.toList_none, List.nil_append, List.singleton_append, List.cons_append, ↓reduceIte, Bool.and_self, eq_self, z_max, z_min, nI_add, z_sub, z_dec, z_mul, z_div, z_mod, nI_clamp, z_lt, z_nlt, z_le, z_nle, z_ne, z_eq, z_in, not_true_eq_false, if_true, if_false, hs_at, hs_ne, hs_sort, hset_eq, vupp_eq, hs_over, List.length_set, vup_at, vup_ne, vup_over, vup_sort, mfs_len, n5_f, map_getD, List.length_map, gd_self, gd_ne, Nat.add_sub_cancel, h58', t1]
    exact K1 g8 (Fr_tr F6 (Fr_mono F8' (by unfold F28; simp))) h58 (cR_fr F8' (by decide) R6) (cRp_fr F8' (by decide) Rp6) (cO_fr F8' (by decide) O6) ⟨_, _, _, _, Fr_get F8' (by decide) p6⟩ ⟨W2, cW_fr F8' (by decide) I6, by omega⟩ Tp8 (cL_fr F8' (by simp; omega) L6)
  · rw [if_neg q]
    simp (disch := first | omega | (simp only [List.length_set]; omega)) only [g_28_0, g_28_1, g_28_4, g_28_5, g_28_6, g_28_9, g_28_10, g_28_13, g_28_14, g_28_15, g_28_18, g_28_20, g_28_21, g_28_25, g_28_26, g_28_29, g_28_32, g_28_33, g_28_34, g_28_38, g_28_39, g_28_43, g_28_44, g_28_47, g_28_48, g_28_51, g_28_52, g_28_55, g_28_56, g_28_59, g_28_60, g_28_61, g_28_67, g_28_71, g_28_72, g_28_73, g_28_77, g_28_81, g_28_84, g_28_86, g_28_87, g_28_88, g_28_91, g_28_92, g_28_95, g_28_96, g_28_99, g_28_101, g_28_105, g_28_109, g_28_110, g_28_113, g_28_116, gs_nx, db_inx, gs_ldi, gs_lda, gs_ldn, List.getElem?_cons_zero, List.getElem?_cons_succ, List.set_cons_zero, List.set_cons_succ, gx5, fx_int, fx_ref, fx_null, px5, gs_lx, gs_ax, sx5, ft_int, ft_ref, ft_b0, ft_b1, c1_int, c1_ref, List.length_cons, List.length_nil, Nat.reduceAdd, Nat.reduceLT, Nat.reduceLeDiff, true_and, and_true, true_or, or_true, not_false_eq_true, Option.toList_some, Option.toList_none, List.nil_append, List.singleton_append, List.cons_append, ↓reduceIte, Bool.and_self, eq_self, z_max, z_min, nI_add, z_sub, z_dec, z_mul, z_div, z_mod, nI_clamp, z_lt, z_nlt, z_le, z_nle, z_ne, z_eq, z_in, not_true_eq_false, if_true, if_false, hs_at, hs_ne, hs_sort, hset_eq, vupp_eq, hs_over, List.length_set, vup_at, vup_ne, vup_over, vup_sort, mfs_len, n5_f, map_getD, List.length_map, gd_self, gd_ne, Nat.add_sub_cancel]
    exact K0 (by omega) g6 _ _ F6 h56 R6 Rp6 O6 ⟨_, _, _, _, p6⟩ ⟨_, I6, by omega⟩ Tp6 L6
end CPB
