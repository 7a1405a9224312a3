/-! REPEATS: the run from two places, the search of the class (runOf, search) -/
def rl (l : List Int32) (f p : Nat) : Nat → Nat → Nat
  | 0, n => n
  | d + 1, n => if l.getD (f + n) 0 = l.getD (p + n) 0 then rl l f p d (n + 1) else n
theorem rl_le (l : List Int32) (f p : Nat) : ∀ d n, n ≤ rl l f p d n ∧ rl l f p d n ≤ n + d
  | 0, n => by simp [rl]
  | d + 1, n => by
    rw [rl]
    have := rl_le l f p d (n + 1)
    split <;> omega
def run (l : List Int32) (f p most : Nat) : Nat := rl l f p most 0
theorem run_le (l : List Int32) (f p most : Nat) : run l f p most ≤ most := by
  have := (rl_le l f p most 0).2
  unfold run
  omega
/-- the search as the model does it: places d - 1 down to 0, (the longest, how far) -/
def bs (l : List Int32) (p most : Nat) : Nat → Nat × Nat → Nat × Nat
  | 0, q => q
  | d + 1, q => bs l p most d (if q.1 < run l d p most then (run l d p most, p - d) else q)
/-- the search as the class does it -/
def cs (l : List Int32) (p most : Nat) : Nat → Nat × Nat × Nat → Nat × Nat × Nat
  | 0, q => q
  | d + 1, q => if q.1 < most then cs l p most d (if q.1 < run l d p most then (run l d p most, run l d p most, p - d) else q) else q
theorem bs_most (l : List Int32) (p most : Nat) : ∀ (d : Nat) (q : Nat × Nat), most ≤ q.1 → bs l p most d q = q
  | 0, q, _ => rfl
  | d + 1, q, h => by
    have := run_le l d p most
    rw [bs, if_neg (by omega)]
    exact bs_most l p most d q h
theorem bs_two (l : List Int32) (p most : Nat) (hm : most ≤ 2) : ∀ (d : Nat) (q : Nat × Nat), q.1 ≤ 2 → (bs l p most d q).1 ≤ 2
  | 0, q, h => h
  | d + 1, q, h => by
    have := run_le l d p most
    rw [bs]
    refine bs_two l p most hm d _ ?_
    split
    · show run l d p most ≤ 2
      omega
    · exact h
theorem cs_bs (l : List Int32) (p most : Nat) : ∀ (d : Nat) (q : Nat × Nat × Nat) (m : Nat × Nat), ((m.1 ≤ 2 ∧ q = (2, 1, 0)) ∨ (3 ≤ m.1 ∧ q = (m.1, m.1, m.2))) →
    ((bs l p most d m).1 ≤ 2 ∧ cs l p most d q = (2, 1, 0)) ∨ (3 ≤ (bs l p most d m).1 ∧ cs l p most d q = ((bs l p most d m).1, (bs l p most d m).1, (bs l p most d m).2))
  | 0, q, m, h => h
  | d + 1, q, m, h => by
    by_cases hq : q.1 < most
    · rw [cs, if_pos hq, bs]
      refine cs_bs l p most d _ _ ?_
      rcases h with ⟨h1, rfl⟩ | ⟨h1, rfl⟩
      · dsimp only
        by_cases h2 : 2 < run l d p most
        · rw [if_pos h2, if_pos (by omega)]
          exact Or.inr ⟨by show 3 ≤ run l d p most; omega, rfl⟩
        · rw [if_neg h2]
          refine Or.inl ⟨?_, rfl⟩
          split
          · show run l d p most ≤ 2
            omega
          · exact h1
      · dsimp only
        by_cases h2 : m.1 < run l d p most
        · rw [if_pos h2, if_pos h2]
          exact Or.inr ⟨by show 3 ≤ run l d p most; omega, rfl⟩
        · rw [if_neg h2, if_neg h2]
          exact Or.inr ⟨h1, rfl⟩
    · rw [cs, if_neg hq]
      rcases h with ⟨h1, rfl⟩ | ⟨h1, rfl⟩
      · exact Or.inl ⟨bs_two l p most (by dsimp only at hq; omega) _ m h1, rfl⟩
      · rw [bs_most l p most _ m (by dsimp only at hq; omega)]
        exact Or.inr ⟨h1, rfl⟩
/-- a step at place p: its length and value -/
def stpLV (l : List Int32) (p most : Nat) : Nat × Int32 := if 3 ≤ (bs l p most p (0, 0)).1 then ((bs l p most p (0, 0)).1, nI (bs l p most p (0, 0)).2) else (1, l.getD p 0)
theorem cs_0 (l : List Int32) (p most : Nat) : (cs l p most p (2, 1, 0)).2.1 = (stpLV l p most).1 ∧ ((cs l p most p (2, 1, 0)).2.1 = 1 → (stpLV l p most).2 = l.getD p 0) ∧ (¬ (cs l p most p (2, 1, 0)).2.1 = 1 → (stpLV l p most).2 = nI (cs l p most p (2, 1, 0)).2.2) := by
  rcases cs_bs l p most p (2, 1, 0) (0, 0) (Or.inl ⟨by decide, rfl⟩) with ⟨h1, h2⟩ | ⟨h1, h2⟩
  · rw [h2]
    unfold stpLV
    rw [if_neg (by omega)]
    exact ⟨rfl, fun _ => rfl, fun q => absurd rfl q⟩
  · rw [h2]
    unfold stpLV
    rw [if_pos h1]
    dsimp only
    exact ⟨rfl, fun q => by omega, fun _ => rfl⟩
theorem stpLV_le (l : List Int32) (p most : Nat) (hm : 1 ≤ most) : 1 ≤ (stpLV l p most).1 ∧ (stpLV l p most).1 ≤ most := by
  have key : ∀ (d : Nat) (q : Nat × Nat), q.1 ≤ most → (bs l p most d q).1 ≤ most := by
    intro d
    induction d with
    | zero => intro q h; exact h
    | succ d ih =>
      intro q h
      rw [bs]
      refine ih _ ?_
      split
      · exact run_le l d p most
      · exact h
  unfold stpLV
  split
  · exact ⟨by show 1 ≤ (bs l p most p (0, 0)).1; omega, key p (0, 0) (Nat.zero_le _)⟩
  · exact ⟨Nat.le_refl 1, hm⟩
theorem n5_6 : ¬ 6 < db_n := by decide
theorem n5_12 : ¬ 12 < db_n := by decide
section ST
variable {h : db_H} {P : Option Value → db_H → Prop} {l : List Int32} {f p most : Nat} {cn : Int32}
theorem m33_loop (hr : h[7]? = some (.inl (0, l))) (hl : l.length < 2 ^ 30) (hf : f < p) (hp : p + most ≤ l.length) : ∀ (d n : Nat), n + d = most → P (some (.int (nI (rl l f p d n)))) h → db_Go 33 9 [.ref 6, .int (nI f), .int (nI p), .int (nI most), .ref 7, .int (nI n)] [] h P := by
  intro d
  induction d with
  | zero =>
    intro n hn k
    rw [g_33_9]
    simp only [g_33_0, g_33_1, g_33_4, g_33_6, g_33_7, g_33_11, g_33_12, g_33_15, g_33_16, g_33_18, g_33_19, g_33_21, g_33_22, g_33_25, g_33_27, g_33_28, g_33_30, g_33_31, g_33_32, g_33_34, g_33_35, g_33_37, g_33_38, g_33_39, g_33_42, g_33_45, g_33_48, g_33_50, gs_nx, db_inx, gs_ldi, gs_lda, gs_ldn, List.getElem?_cons_zero, List.getElem?_cons_succ, List.set_cons_zero, List.set_cons_succ, gs_gx, fx_int, fx_ref, fx_null, gs_px, gs_lx, gs_ax, gs_sx, ft_int, ft_ref, ft_b0, ft_b1, c1_int, c1_ref, List.length_cons, List.length_nil, Nat.reduceAdd, Nat.reduceLT, Nat.reduceLeDiff, true_and, and_true, true_or, or_true, not_false_eq_true, Option.toList_some, Option.toList_none, List.nil_append, List.singleton_append, List.cons_append, hr]
    rw [if_pos (nI_le (by omega) (by omega))]
    exact k
  | succ d ih =>
    intro n hn k
    rw [g_33_9]
    simp only [g_33_0, g_33_1, g_33_4, g_33_6, g_33_7, g_33_11, g_33_12, g_33_15, g_33_16, g_33_18, g_33_19, g_33_21, g_33_22, g_33_25, g_33_27, g_33_28, g_33_30, g_33_31, g_33_32, g_33_34, g_33_35, g_33_37, g_33_38, g_33_39, g_33_42, g_33_45, g_33_48, g_33_50, gs_nx, db_inx, gs_ldi, gs_lda, gs_ldn, List.getElem?_cons_zero, List.getElem?_cons_succ, List.set_cons_zero, List.set_cons_succ, gs_gx, fx_int, fx_ref, fx_null, gs_px, gs_lx, gs_ax, gs_sx, ft_int, ft_ref, ft_b0, ft_b1, c1_int, c1_ref, List.length_cons, List.length_nil, Nat.reduceAdd, Nat.reduceLT, Nat.reduceLeDiff, true_and, and_true, true_or, or_true, not_false_eq_true, Option.toList_some, Option.toList_none, List.nil_append, List.singleton_append, List.cons_append, hr]
    rw [if_neg (nI_ge (by omega) (by omega)), nI_add, nI_add, nI_add, if_neg (nI_ge (by omega) (by omega)), nI_clamp (by omega), nI_clamp (by omega)]
    refine ⟨in_nI (by omega) (by omega), in_nI (by omega) (by omega), ?_⟩
    rw [rl] at k
    by_cases hc : l.getD (f + n) 0 = l.getD (p + n) 0
    · rw [if_pos hc] at k
      rw [if_neg (not_not_intro hc)]
      exact ih (n + 1) (by omega) k
    · rw [if_neg hc] at k
      rw [if_pos hc]
      exact k
theorem m33 (hb : h[6]? = some (.inr (1, [.ref 7, .int cn]))) (hr : h[7]? = some (.inl (0, l))) (hl : l.length < 2 ^ 30) (hf : f < p) (hp : p + most ≤ l.length) (k : P (some (.int (nI (run l f p most)))) h) : db_Go 33 0 [.ref 6, .int (nI f), .int (nI p), .int (nI most), .retAddr 0, .retAddr 0] [] h P := by
  simp only [g_33_0, g_33_1, g_33_4, g_33_6, g_33_7, g_33_11, g_33_12, g_33_15, g_33_16, g_33_18, g_33_19, g_33_21, g_33_22, g_33_25, g_33_27, g_33_28, g_33_30, g_33_31, g_33_32, g_33_34, g_33_35, g_33_37, g_33_38, g_33_39, g_33_42, g_33_45, g_33_48, g_33_50, gs_nx, db_inx, gs_ldi, gs_lda, gs_ldn, List.getElem?_cons_zero, List.getElem?_cons_succ, List.set_cons_zero, List.set_cons_succ, gs_gx, fx_int, fx_ref, fx_null, gs_px, gs_lx, gs_ax, gs_sx, ft_int, ft_ref, ft_b0, ft_b1, c1_int, c1_ref, List.length_cons, List.length_nil, Nat.reduceAdd, Nat.reduceLT, Nat.reduceLeDiff, true_and, and_true, true_or, or_true, not_false_eq_true, Option.toList_some, Option.toList_none, List.nil_append, List.singleton_append, List.cons_append, hb, n5_6]
  exact m33_loop hr hl hf hp most 0 (by omega) k
/-- the object of the class's Repeats, with its three numbers -/
def rp (h : db_H) (a b c : Int32) : db_H := h.set 12 (.inr (9, [.ref 13, .ref 14, .ref 15, .int a, .int b, .int c]))
theorem rp_12 {a b c : Int32} (hl : 12 < h.length) : (rp h a b c)[12]? = some (.inr (9, [.ref 13, .ref 14, .ref 15, .int a, .int b, .int c])) := hs_at hl
theorem rp_ne {a b c : Int32} {k : Nat} (hk : ¬ 12 = k) : (rp h a b c)[k]? = h[k]? := hs_ne hk
theorem rp_rp {a b c a' b' c' : Int32} : (rp h a b c).set 12 (.inr (9, [.ref 13, .ref 14, .ref 15, .int a', .int b', .int c'])) = rp h a' b' c' := hs_over
theorem m32_loop {a : Int32} (hlen : 12 < h.length) (hb : h[6]? = some (.inr (1, [.ref 7, .int cn]))) (hr : h[7]? = some (.inl (0, l))) (hl : l.length < 2 ^ 30) (hp : p + most ≤ l.length) : ∀ (d : Nat) (q : Nat × Nat × Nat) (x : Value), d ≤ p → q.1 < 2 ^ 30 → P none (rp h a (nI (cs l p most d q).2.1) (nI (cs l p most d q).2.2)) → db_Go 32 18 [.ref 12, .ref 6, .int (nI p), .int (nI most), .int (nI q.1), .int (nI d - nI 1), x] [] (rp h a (nI q.2.1) (nI q.2.2)) P := by
  intro d
  induction d with
  | zero =>
    intro q x hd hq k
    rw [g_32_18]
    simp only [g_32_0, g_32_1, g_32_2, g_32_5, g_32_6, g_32_7, g_32_10, g_32_11, g_32_13, g_32_14, g_32_15, g_32_16, g_32_20, g_32_23, g_32_25, g_32_26, g_32_29, g_32_30, g_32_32, g_32_33, g_32_37, g_32_39, g_32_41, g_32_43, g_32_46, g_32_48, g_32_50, g_32_51, g_32_53, g_32_56, g_32_57, g_32_58, g_32_60, g_32_61, g_32_64, g_32_67, g_32_70, gs_nx, db_inx, gs_ldi, gs_lda, gs_ldn, List.getElem?_cons_zero, List.getElem?_cons_succ, List.set_cons_zero, List.set_cons_succ, gs_gx, fx_int, fx_ref, fx_null, gs_px, gs_lx, gs_ax, gs_sx, ft_int, ft_ref, ft_b0, ft_b1, c1_int, c1_ref, List.length_cons, List.length_nil, Nat.reduceAdd, Nat.reduceLT, Nat.reduceLeDiff, true_and, and_true, true_or, or_true, not_false_eq_true, Option.toList_some, Option.toList_none, List.nil_append, List.singleton_append, List.cons_append]
    rw [if_pos (show nI 0 - nI 1 < nI 0 by decide +kernel)]
    exact k
  | succ d ih =>
    intro q x hd hq k
    have e12 : ∀ a b c, (rp h a b c)[12]? = some (.inr (9, [.ref 13, .ref 14, .ref 15, .int a, .int b, .int c])) := fun a b c => rp_12 hlen
    rw [g_32_18]
    simp only [g_32_0, g_32_1, g_32_2, g_32_5, g_32_6, g_32_7, g_32_10, g_32_11, g_32_13, g_32_14, g_32_15, g_32_16, g_32_20, g_32_23, g_32_25, g_32_26, g_32_29, g_32_30, g_32_32, g_32_33, g_32_37, g_32_39, g_32_41, g_32_43, g_32_46, g_32_48, g_32_50, g_32_51, g_32_53, g_32_56, g_32_57, g_32_58, g_32_60, g_32_61, g_32_64, g_32_67, g_32_70, gs_nx, db_inx, gs_ldi, gs_lda, gs_ldn, List.getElem?_cons_zero, List.getElem?_cons_succ, List.set_cons_zero, List.set_cons_succ, gs_gx, fx_int, fx_ref, fx_null, gs_px, gs_lx, gs_ax, gs_sx, ft_int, ft_ref, ft_b0, ft_b1, c1_int, c1_ref, List.length_cons, List.length_nil, Nat.reduceAdd, Nat.reduceLT, Nat.reduceLeDiff, true_and, and_true, true_or, or_true, not_false_eq_true, Option.toList_some, Option.toList_none, List.nil_append, List.singleton_append, List.cons_append]
    rw [pk_sub (by omega), if_neg (nI_lt0 (by omega)), show d + 1 - 1 = d by omega]
    rw [cs] at k
    by_cases hm : q.1 < most
    · rw [if_pos hm] at k
      rw [if_neg (nI_ge hm (by omega))]
      refine c_32_34 (by decide) ?_
      refine m33 (cn := cn) ((rp_ne (by decide)).trans hb) ((rp_ne (by decide)).trans hr) hl (by omega) hp ?_
      simp only [g_32_0, g_32_1, g_32_2, g_32_5, g_32_6, g_32_7, g_32_10, g_32_11, g_32_13, g_32_14, g_32_15, g_32_16, g_32_20, g_32_23, g_32_25, g_32_26, g_32_29, g_32_30, g_32_32, g_32_33, g_32_37, g_32_39, g_32_41, g_32_43, g_32_46, g_32_48, g_32_50, g_32_51, g_32_53, g_32_56, g_32_57, g_32_58, g_32_60, g_32_61, g_32_64, g_32_67, g_32_70, gs_nx, db_inx, gs_ldi, gs_lda, gs_ldn, List.getElem?_cons_zero, List.getElem?_cons_succ, List.set_cons_zero, List.set_cons_succ, gs_gx, fx_int, fx_ref, fx_null, gs_px, gs_lx, gs_ax, gs_sx, ft_int, ft_ref, ft_b0, ft_b1, c1_int, c1_ref, List.length_cons, List.length_nil, Nat.reduceAdd, Nat.reduceLT, Nat.reduceLeDiff, true_and, and_true, true_or, or_true, not_false_eq_true, Option.toList_some, Option.toList_none, List.nil_append, List.singleton_append, List.cons_append, e12, n5_12, rp_rp]
      have hrl := run_le l d p most
      have e1 : nI d + Int32.ofInt (-1) = nI d - nI 1 := by rw [m1_ofInt, Int32.sub_eq_add_neg]
      by_cases h2 : q.1 < run l d p most
      · rw [if_pos h2] at k
        rw [if_neg (nI_ge h2 (by omega))]
        rw [pk_sub (by omega), e1]
        exact ih (run l d p most, run l d p most, p - d) _ (by omega) (by show run l d p most < 2 ^ 30; omega) k
      · rw [if_neg h2] at k
        rw [if_pos (nI_le (by omega) (by omega)), e1]
        exact ih q _ (by omega) hq k
    · rw [if_neg hm] at k
      rw [if_pos (nI_le (by omega) (by omega))]
      exact k
/-- search -/
theorem m32 {a b0 c0 : Int32} (hlen : 12 < h.length) (hb : h[6]? = some (.inr (1, [.ref 7, .int cn]))) (hr : h[7]? = some (.inl (0, l))) (hl : l.length < 2 ^ 30) (hp : p + most ≤ l.length) (k : P none (rp h a (nI (cs l p most p (2, 1, 0)).2.1) (nI (cs l p most p (2, 1, 0)).2.2))) : db_Go 32 0 [.ref 12, .ref 6, .int (nI p), .int (nI most), .retAddr 0, .retAddr 0, .retAddr 0] [] (rp h a b0 c0) P := by
  have e12 : ∀ a b c, (rp h a b c)[12]? = some (.inr (9, [.ref 13, .ref 14, .ref 15, .int a, .int b, .int c])) := fun a b c => rp_12 hlen
  simp only [g_32_0, g_32_1, g_32_2, g_32_5, g_32_6, g_32_7, g_32_10, g_32_11, g_32_13, g_32_14, g_32_15, g_32_16, g_32_20, g_32_23, g_32_25, g_32_26, g_32_29, g_32_30, g_32_32, g_32_33, g_32_37, g_32_39, g_32_41, g_32_43, g_32_46, g_32_48, g_32_50, g_32_51, g_32_53, g_32_56, g_32_57, g_32_58, g_32_60, g_32_61, g_32_64, g_32_67, g_32_70, gs_nx, db_inx, gs_ldi, gs_lda, gs_ldn, List.getElem?_cons_zero, List.getElem?_cons_succ, List.set_cons_zero, List.set_cons_succ, gs_gx, fx_int, fx_ref, fx_null, gs_px, gs_lx, gs_ax, gs_sx, ft_int, ft_ref, ft_b0, ft_b1, c1_int, c1_ref, List.length_cons, List.length_nil, Nat.reduceAdd, Nat.reduceLT, Nat.reduceLeDiff, true_and, and_true, true_or, or_true, not_false_eq_true, Option.toList_some, Option.toList_none, List.nil_append, List.singleton_append, List.cons_append, e12, n5_12, rp_rp]
  exact m32_loop hlen hb hr hl hp p (2, 1, 0) _ (Nat.le_refl p) (by decide) k
end ST
