/-! Joining: findDepths, join; the widths by joining -/
def lfs (cs : List Nat) : List Nat := lvs (cF cs) cs.length
def hN0 (cs : List Nat) : Nat → Nat := fun r => cF cs ((lfs cs).getD r 0)
def hE (cs : List Nat) : hS := hrun (lfs cs).length (hN0 cs, fun _ => 0, 0, (lfs cs).length, (lfs cs).length) ((lfs cs).length - 1)
def wD (cs : List Nat) (r : Nat) : Nat := if (lfs cs).length = 1 then 1 else dep (hE cs).2.1 (2 * (lfs cs).length - 2) r
def hfold (cs : List Nat) : Nat → List Nat
  | 0 => List.replicate cs.length 0
  | r + 1 => (hfold cs r).set ((lfs cs).getD r 0) (wD cs r)
/-- the widths by joining -/
def hufW (cs : List Nat) : List Nat := hfold cs (lfs cs).length
theorem hfold_len (cs : List Nat) : ∀ r, (hfold cs r).length = cs.length
  | 0 => List.length_replicate
  | r + 1 => by rw [hfold, List.length_set, hfold_len cs r]
theorem hufW_len (cs : List Nat) : (hufW cs).length = cs.length := hfold_len cs _
theorem lfs_at {cs : List Nat} {r : Nat} (hr : r < (lfs cs).length) : (lfs cs).getD r 0 < cs.length ∧ 0 < cs.getD ((lfs cs).getD r 0) 0 := by
  have : (lfs cs).getD r 0 ∈ lfs cs := by
    rw [gdn hr]
    exact List.getElem_mem hr
  exact (lvs_mem _ _ _).mp this
theorem lfs_lt {cs : List Nat} {x y : Nat} (h1 : x < y) (h2 : y < (lfs cs).length) : hN0 cs x < hN0 cs y ∨ (hN0 cs x = hN0 cs y ∧ (lfs cs).getD x 0 < (lfs cs).getD y 0) := by
  have := List.pairwise_iff_getElem.mp (lvs_sorted (cF cs) cs.length) x y (by exact Nat.lt_trans h1 h2) h2 h1
  unfold hN0
  rw [gdn (l := lfs cs) (by omega), gdn (l := lfs cs) h2]
  exact this
theorem lfs_ne {cs : List Nat} {x y : Nat} (h1 : x < (lfs cs).length) (h2 : y < (lfs cs).length) (hn : ¬ x = y) : ¬ (lfs cs).getD x 0 = (lfs cs).getD y 0 := by
  intro e
  have key : ∀ a b, a < b → b < (lfs cs).length → ¬ (lfs cs).getD a 0 = (lfs cs).getD b 0 := by
    intro a b q1 q2 q3
    have := lfs_lt q1 q2
    unfold hN0 at this
    rw [q3] at this
    omega
  rcases Nat.lt_or_ge x y with h | h
  · exact key x y h h2 e
  · exact key y x (by omega) h1 e.symm
theorem gn_self {l : List Nat} {i x d : Nat} (h : i < l.length) : (l.set i x).getD i d = x := by
  rw [List.getD_eq_getElem?_getD, List.getElem?_set_self h, Option.getD_some]
theorem gn_ne {l : List Nat} {i j x d : Nat} (h : ¬ i = j) : (l.set i x).getD j d = l.getD j d := by
  rw [List.getD_eq_getElem?_getD, List.getElem?_set_ne h, List.getD_eq_getElem?_getD]
theorem hfold_at {cs : List Nat} : ∀ (k : Nat), k ≤ (lfs cs).length → ∀ r, r < k → (hfold cs k).getD ((lfs cs).getD r 0) 0 = wD cs r
  | 0, _, r, h => absurd h (Nat.not_lt_zero r)
  | k + 1, hk, r, h => by
    rw [hfold]
    by_cases e : r = k
    · rw [e, gn_self (by rw [hfold_len]; exact (lfs_at (by omega)).1)]
    · rw [gn_ne (lfs_ne (by omega) (by omega) (fun q => e q.symm)), hfold_at k (by omega) r (by omega)]
theorem hfold_0 {cs : List Nat} {s : Nat} (hs : s ∉ lfs cs) : ∀ k, k ≤ (lfs cs).length → (hfold cs k).getD s 0 = 0
  | 0, _ => by
    rw [hfold, List.getD_eq_getElem?_getD, List.getElem?_replicate]
    split <;> rfl
  | k + 1, hk => by
    rw [hfold, gn_ne (fun e => hs (by rw [← e, gdn (l := lfs cs) (by omega)]; exact List.getElem_mem _)), hfold_0 hs k (by omega)]
theorem hufW_at {cs : List Nat} {r : Nat} (hr : r < (lfs cs).length) : (hufW cs).getD ((lfs cs).getD r 0) 0 = wD cs r := hfold_at _ (Nat.le_refl _) r hr
theorem hufW_0 {cs : List Nat} {s : Nat} (hs : cs.getD s 0 = 0) : (hufW cs).getD s 0 = 0 := hfold_0 (fun h => by
  have := ((lvs_mem (cF cs) cs.length s).mp h).2
  unfold cF at this
  omega) _ (Nat.le_refl _)
/-- the numbers' sum -/
theorem lvs_sum (c : Nat → Nat) : ∀ n, ((lvs c n).map c).sum = ((List.range n).map c).sum
  | 0 => rfl
  | n + 1 => by
    rw [lvs, List.range_succ, List.map_append, List.sum_append, ← lvs_sum c n]
    split
    · unfold insL
      rw [List.map_append, List.sum_append, List.map_cons, List.sum_cons]
      have := congrArg (fun l => (List.map c l).sum) (List.take_append_drop (ipos c (lvs c n) (c n) (lvs c n).length) (lvs c n))
      simp only [List.map_append, List.sum_append] at this
      simp only [List.map_cons, List.map_nil, List.sum_cons, List.sum_nil]
      omega
    · simp only [List.map_cons, List.map_nil, List.sum_cons, List.sum_nil]
      omega
theorem range_get {l : List Nat} : (List.range l.length).map (fun i => l.getD i 0) = l := by
  apply List.ext_getElem?
  intro i
  rw [List.getElem?_map]
  by_cases h : i < l.length
  · rw [List.getElem?_range h, List.getElem?_eq_getElem h, Option.map_some, gdn h]
  · rw [List.getElem?_eq_none (by simpa using h), List.getElem?_eq_none (by omega)]
    rfl
theorem h_sum (cs : List Nat) : sg (hN0 cs) 0 (lfs cs).length = cs.sum := by
  unfold sg hN0
  rw [Nat.sub_zero, ← List.range_eq_range']
  have e : (List.range (lfs cs).length).map (fun r => cF cs ((lfs cs).getD r 0)) = (lfs cs).map (cF cs) := by
    have := congrArg (List.map (cF cs)) (range_get (l := lfs cs))
    rw [List.map_map] at this
    exact this
  rw [e]
  unfold lfs
  rw [lvs_sum]
  show ((List.range cs.length).map (fun i => cs.getD i 0)).sum = _
  rw [range_get]
theorem hE_HI {cs : List Nat} (h1 : 1 ≤ (lfs cs).length) : HI (lfs cs).length cs.sum (hN0 cs) ((lfs cs).length - 1) (hE cs) := by
  have H0 : HI (lfs cs).length cs.sum (hN0 cs) 0 (hN0 cs, fun _ => 0, 0, (lfs cs).length, (lfs cs).length) := by
    rw [← h_sum cs]
    refine HI_0 (fun x y a b => ?_) (fun x hx => (lfs_at hx).2)
    rcases lfs_lt a b with q | ⟨q, -⟩ <;> omega
  exact HI_run (sy := fun r => (lfs cs).getD r 0) (n := cs.length) (fun x y a b => lfs_lt a b) (fun x hx => (lfs_at hx).1) H0 _ (by omega)
/-- what holds at the end -/
theorem hE_end {cs : List Nat} (h1 : 1 ≤ (lfs cs).length) : (hE cs).2.2.2.2 = 2 * (lfs cs).length - 1 ∧ (∀ x, x < 2 * (lfs cs).length - 1 → (¬ alv (lfs cs).length (hE cs).2.2.1 (hE cs).2.2.2.1 (hE cs).2.2.2.2 x ↔ x < 2 * (lfs cs).length - 2)) ∧ (∀ y, y < 2 * (lfs cs).length - 2 → y < (hE cs).2.1 y ∧ (hE cs).2.1 y ≤ 2 * (lfs cs).length - 2) ∧
    (∀ x, x < 2 * (lfs cs).length - 2 → (hE cs).2.1 x < 2 * (lfs cs).length - 2 → (hE cs).1 ((hE cs).2.1 x) + (hE cs).1 x ≤ (hE cs).1 ((hE cs).2.1 ((hE cs).2.1 x))) ∧ (∀ x, x < 2 * (lfs cs).length - 2 → 1 ≤ (hE cs).1 x ∧ 2 ≤ (hE cs).1 ((hE cs).2.1 x)) ∧ (hE cs).1 (2 * (lfs cs).length - 2) ≤ cs.sum := by
  have H := hE_HI h1
  generalize hE cs = S at *
  generalize (lfs cs).length = L at *
  obtain ⟨N, Q, p, q, c⟩ := S
  obtain ⟨m, e1, e2, e3, e4, e5, e6, hN, hsj, hal, hj2, hde, hpos, hQ, hgr, hsum⟩ := H
  simp only at e1 e2 e3 e4 e5 e6 hN hsj hal hj2 hde hpos hQ hgr hsum ⊢
  have al : ∀ x, x < 2 * L - 1 → (¬ alv L p q c x ↔ x < 2 * L - 2) := by
    intro x hx
    unfold alv
    by_cases e : L = 1
    · omega
    · omega
  refine ⟨by omega, al, fun y hy => ?_, fun x hx hq => ?_, fun x hx => ?_, ?_⟩
  · have := hQ y (by omega) ((al y (by omega)).mpr hy)
    omega
  · exact hgr x (by omega) ((al x (by omega)).mpr hx) ((al _ (by omega)).mpr hq)
  · have a := hpos x (by omega)
    have b := hQ x (by omega) ((al x (by omega)).mpr hx)
    omega
  · have hr : alv L p q c (2 * L - 2) := by
      by_cases hx : alv L p q c (2 * L - 2)
      · exact hx
      · exact absurd ((al _ (by omega)).mp hx) (by omega)
    rcases hr with ⟨a, b⟩ | ⟨a, b⟩
    · have := sg_ge (N := N) a b
      omega
    · have := sg_ge (N := N) a b
      omega
theorem wD_le {cs : List Nat} {k r : Nat} (hk : 1 ≤ k) (hs : cs.sum < fib (k + 3)) (hr : r < (lfs cs).length) : wD cs r ≤ k := by
  unfold wD
  split
  · exact hk
  · obtain ⟨a, b, c, d, e, f⟩ := hE_end (cs := cs) (by omega)
    exact dep_le c d e (by omega) (by omega)
theorem hfold_le {cs : List Nat} {k : Nat} (hk : 1 ≤ k) (hs : cs.sum < fib (k + 3)) : ∀ r, r ≤ (lfs cs).length → ∀ x ∈ hfold cs r, x ≤ k
  | 0, _, x, h => by
    rw [hfold] at h
    rw [(List.mem_replicate.mp h).2]
    exact Nat.zero_le _
  | r + 1, hr, x, h => by
    rw [hfold] at h
    rcases List.mem_or_eq_of_mem_set h with h | h
    · exact hfold_le hk hs r (by omega) x h
    · rw [h]
      exact wD_le hk hs (by omega)
theorem hufW_le {cs : List Nat} {k : Nat} (hk : 1 ≤ k) (hs : cs.sum < fib (k + 3)) : ∀ x ∈ hufW cs, x ≤ k := hfold_le hk hs _ (Nat.le_refl _)
section J3
variable {h : db_H} {P : Option Value → db_H → Prop}
theorem m48_loop {r : Nat} {Q : Nat → Nat} {jt : List Int32} {a c d0 : Int32} (hl : 164 < h.length) (h60 : h[60]? = some (jO a (nI (r + 1)) c d0)) (h63 : h[63]? = some (.inl (0, jt))) (l2 : jt.length = 572) (hr : r < 572) (hQ : ∀ x, x < r → x < Q x ∧ Q x ≤ r) (hj : ∀ x, x < r → jt.getD x 0 = nI (Q x)) (K : ∀ dd, dd.length = 572 → agr dd (dep Q r) (r + 1) → P none (h.set 64 (.inl (0, dd)))) : ∀ (d : Nat) (dd : List Int32) (x3 x4 : Value), d ≤ r + 1 → dd.length = 572 → (∀ y, d ≤ y → y ≤ r → dd.getD y 0 = nI (dep Q r y)) →
    db_Go 48 17 [.ref 60, .int (nI r), .int (nI d - nI 1), x3, x4] [] (h.set 64 (.inl (0, dd))) P := by
  unfold jO at h60
  intro d
  induction d with
  | zero =>
    intro dd x3 x4 hd l3 hy
    rw [g_48_17]
    simp (disch := first | omega | (simp only [List.length_set]; omega)) only [g_48_0, g_48_1, g_48_4, g_48_5, g_48_8, g_48_9, g_48_12, g_48_13, g_48_14, g_48_15, g_48_16, g_48_18, g_48_21, g_48_22, g_48_25, g_48_26, g_48_27, g_48_28, g_48_29, g_48_30, g_48_33, g_48_34, g_48_35, g_48_38, g_48_39, g_48_40, g_48_43, g_48_44, g_48_47, g_48_48, g_48_50, g_48_51, g_48_54, g_48_55, g_48_57, g_48_60, g_48_61, g_48_64, g_48_65, g_48_66, g_48_67, g_48_68, g_48_71, g_48_72, g_48_73, g_48_76, g_48_79, gs_nx, db_inx, gs_ldi, gs_lda, gs_ldn, List.getElem?_cons_zero, List.getElem?_cons_succ, List.set_cons_zero, List.set_cons_succ, gx5, fx_int, fx_ref, fx_null, px5, gs_lx, gs_ax, sx5, ft_int, ft_ref, ft_b0, ft_b1, c1_int, c1_ref, List.length_cons, List.length_nil, Nat.reduceAdd, Nat.reduceLT, Nat.reduceLeDiff, true_and, and_true, true_or, or_true, not_false_eq_true, Option.toList_some, Option.toList_none, List.nil_append, List.singleton_append, List.cons_append, ↓reduceIte, z_max, z_min, nI_add, z_sub, z_dec, z_mul, z_div, z_mod, nI_clamp, z_lt, z_nlt, z_le, z_nle, z_ne, z_eq, z_in, not_true_eq_false, if_true, if_false, hs_at, hs_ne, hs_sort, hset_eq, vupp_eq, hs_over, List.length_set, vup_at, vup_ne, vup_over, vup_sort, mfs_len, n5_f, map_getD, List.length_map, gd_self, gd_ne, Nat.add_sub_cancel, z_m1]
    exact K dd l3 (fun k hk => hy k (Nat.zero_le k) (by omega))
  | succ d ih =>
    intro dd x3 x4 hd l3 hy
    rw [g_48_17]
    by_cases e : d = r
    · have nx := fun x3 x4 => ih (dd.set d (nI 0)) x3 x4 (by omega) (by rw [List.length_set]; exact l3) (fun y h1 h2 => by
        have : y = d := by omega
        rw [this, gd_self (by omega), e, dep_r])
      simp (disch := first | omega | (simp only [List.length_set]; omega)) only [g_48_0, g_48_1, g_48_4, g_48_5, g_48_8, g_48_9, g_48_12, g_48_13, g_48_14, g_48_15, g_48_16, g_48_18, g_48_21, g_48_22, g_48_25, g_48_26, g_48_27, g_48_28, g_48_29, g_48_30, g_48_33, g_48_34, g_48_35, g_48_38, g_48_39, g_48_40, g_48_43, g_48_44, g_48_47, g_48_48, g_48_50, g_48_51, g_48_54, g_48_55, g_48_57, g_48_60, g_48_61, g_48_64, g_48_65, g_48_66, g_48_67, g_48_68, g_48_71, g_48_72, g_48_73, g_48_76, g_48_79, gs_nx, db_inx, gs_ldi, gs_lda, gs_ldn, List.getElem?_cons_zero, List.getElem?_cons_succ, List.set_cons_zero, List.set_cons_succ, gx5, fx_int, fx_ref, fx_null, px5, gs_lx, gs_ax, sx5, ft_int, ft_ref, ft_b0, ft_b1, c1_int, c1_ref, List.length_cons, List.length_nil, Nat.reduceAdd, Nat.reduceLT, Nat.reduceLeDiff, true_and, and_true, true_or, or_true, not_false_eq_true, Option.toList_some, Option.toList_none, List.nil_append, List.singleton_append, List.cons_append, ↓reduceIte, z_max, z_min, nI_add, z_sub, z_dec, z_mul, z_div, z_mod, nI_clamp, z_lt, z_nlt, z_le, z_nle, z_ne, z_eq, z_in, not_true_eq_false, if_true, if_false, hs_at, hs_ne, hs_sort, hset_eq, vupp_eq, hs_over, List.length_set, vup_at, vup_ne, vup_over, vup_sort, mfs_len, n5_f, map_getD, List.length_map, gd_self, gd_ne, Nat.add_sub_cancel, h60, h63, e_dec]
      exact nx _ _
    · have hq := hQ d (by omega)
      have hjd := hj d (by omega)
      have hyq := hy (Q d) (by omega) hq.2
      have nx := fun x3 x4 => ih (dd.set d (nI (dep Q r (Q d) + 1))) x3 x4 (by omega) (by rw [List.length_set]; exact l3) (fun y h1 h2 => by
        by_cases ey : y = d
        · rw [ey, gd_self (by omega), dep_s (x := d) hQ (by omega)]
        · rw [gd_ne (by omega)]
          exact hy y (by omega) h2)
      simp (disch := first | omega | (simp only [List.length_set]; omega)) only [g_48_0, g_48_1, g_48_4, g_48_5, g_48_8, g_48_9, g_48_12, g_48_13, g_48_14, g_48_15, g_48_16, g_48_18, g_48_21, g_48_22, g_48_25, g_48_26, g_48_27, g_48_28, g_48_29, g_48_30, g_48_33, g_48_34, g_48_35, g_48_38, g_48_39, g_48_40, g_48_43, g_48_44, g_48_47, g_48_48, g_48_50, g_48_51, g_48_54, g_48_55, g_48_57, g_48_60, g_48_61, g_48_64, g_48_65, g_48_66, g_48_67, g_48_68, g_48_71, g_48_72, g_48_73, g_48_76, g_48_79, gs_nx, db_inx, gs_ldi, gs_lda, gs_ldn, List.getElem?_cons_zero, List.getElem?_cons_succ, List.set_cons_zero, List.set_cons_succ, gx5, fx_int, fx_ref, fx_null, px5, gs_lx, gs_ax, sx5, ft_int, ft_ref, ft_b0, ft_b1, c1_int, c1_ref, List.length_cons, List.length_nil, Nat.reduceAdd, Nat.reduceLT, Nat.reduceLeDiff, true_and, and_true, true_or, or_true, not_false_eq_true, Option.toList_some, Option.toList_none, List.nil_append, List.singleton_append, List.cons_append, ↓reduceIte, z_max, z_min, nI_add, z_sub, z_dec, z_mul, z_div, z_mod, nI_clamp, z_lt, z_nlt, z_le, z_nle, z_ne, z_eq, z_in, not_true_eq_false, if_true, if_false, hs_at, hs_ne, hs_sort, hset_eq, vupp_eq, hs_over, List.length_set, vup_at, vup_ne, vup_over, vup_sort, mfs_len, n5_f, map_getD, List.length_map, gd_self, gd_ne, Nat.add_sub_cancel, h60, h63, hjd, hyq, e_dec]
      exact nx _ _
/-- findDepths -/
theorem m48 {n : Nat} {Q : Nat → Nat} {jt dd : List Int32} {a c d0 : Int32} (hl : 164 < h.length) (h60 : h[60]? = some (jO a (nI n) c d0)) (h63 : h[63]? = some (.inl (0, jt))) (h64 : h[64]? = some (.inl (0, dd))) (l2 : jt.length = 572) (l3 : dd.length = 572) (hr : n ≤ 572) (hQ : ∀ x, x + 1 < n → x < Q x ∧ Q x + 1 ≤ n) (hj : ∀ x, x + 1 < n → jt.getD x 0 = nI (Q x)) (K : ∀ dd, dd.length = 572 → agr dd (dep Q (n - 1)) n → P none (h.set 64 (.inl (0, dd)))) : db_Go 48 0 [.ref 60, .retAddr 0, .retAddr 0, .retAddr 0, .retAddr 0] [] h P := by
  rw [← hs_self h64]
  by_cases hn : n = 0
  · subst hn
    unfold jO at h60
    simp (disch := first | omega | (simp only [List.length_set]; omega)) only [g_48_0, g_48_1, g_48_4, g_48_5, g_48_8, g_48_9, g_48_12, g_48_13, g_48_14, g_48_15, g_48_16, g_48_17, g_48_18, g_48_21, g_48_22, g_48_25, g_48_26, g_48_27, g_48_28, g_48_29, g_48_30, g_48_33, g_48_34, g_48_35, g_48_38, g_48_39, g_48_40, g_48_43, g_48_44, g_48_47, g_48_48, g_48_50, g_48_51, g_48_54, g_48_55, g_48_57, g_48_60, g_48_61, g_48_64, g_48_65, g_48_66, g_48_67, g_48_68, g_48_71, g_48_72, g_48_73, g_48_76, g_48_79, gs_nx, db_inx, gs_ldi, gs_lda, gs_ldn, List.getElem?_cons_zero, List.getElem?_cons_succ, List.set_cons_zero, List.set_cons_succ, gx5, fx_int, fx_ref, fx_null, px5, gs_lx, gs_ax, sx5, ft_int, ft_ref, ft_b0, ft_b1, c1_int, c1_ref, List.length_cons, List.length_nil, Nat.reduceAdd, Nat.reduceLT, Nat.reduceLeDiff, true_and, and_true, true_or, or_true, not_false_eq_true, Option.toList_some, Option.toList_none, List.nil_append, List.singleton_append, List.cons_append, ↓reduceIte, z_max, z_min, nI_add, z_sub, z_dec, z_mul, z_div, z_mod, nI_clamp, z_lt, z_nlt, z_le, z_nle, z_ne, z_eq, z_in, not_true_eq_false, if_true, if_false, hs_at, hs_ne, hs_sort, hset_eq, vupp_eq, hs_over, List.length_set, vup_at, vup_ne, vup_over, vup_sort, mfs_len, n5_f, map_getD, List.length_map, gd_self, gd_ne, Nat.add_sub_cancel, h60, z_m1]
    exact K dd l3 (fun k hk => absurd hk (Nat.not_lt_zero k))
  · obtain ⟨r, rfl⟩ : ∃ r, n = r + 1 := ⟨n - 1, by omega⟩
    have := m48_loop (P := P) hl h60 h63 l2 (by omega) (fun x hx => by have := hQ x (by omega); omega) (fun x hx => hj x (by omega)) K (r + 1) dd (.retAddr 0) (.retAddr 0) (Nat.le_refl _) l3 (fun y h1 h2 => by omega)
    unfold jO at h60
    simp (disch := first | omega | (simp only [List.length_set]; omega)) only [g_48_0, g_48_1, g_48_4, g_48_5, g_48_8, g_48_9, g_48_12, g_48_13, g_48_14, g_48_15, g_48_16, g_48_18, g_48_21, g_48_22, g_48_25, g_48_26, g_48_27, g_48_28, g_48_29, g_48_30, g_48_33, g_48_34, g_48_35, g_48_38, g_48_39, g_48_40, g_48_43, g_48_44, g_48_47, g_48_48, g_48_50, g_48_51, g_48_54, g_48_55, g_48_57, g_48_60, g_48_61, g_48_64, g_48_65, g_48_66, g_48_67, g_48_68, g_48_71, g_48_72, g_48_73, g_48_76, g_48_79, gs_nx, db_inx, gs_ldi, gs_lda, gs_ldn, List.getElem?_cons_zero, List.getElem?_cons_succ, List.set_cons_zero, List.set_cons_succ, gx5, fx_int, fx_ref, fx_null, px5, gs_lx, gs_ax, sx5, ft_int, ft_ref, ft_b0, ft_b1, c1_int, c1_ref, List.length_cons, List.length_nil, Nat.reduceAdd, Nat.reduceLT, Nat.reduceLeDiff, true_and, and_true, true_or, or_true, not_false_eq_true, Option.toList_some, Option.toList_none, List.nil_append, List.singleton_append, List.cons_append, ↓reduceIte, z_max, z_min, nI_add, z_sub, z_dec, z_mul, z_div, z_mod, nI_clamp, z_lt, z_nlt, z_le, z_nle, z_ne, z_eq, z_in, not_true_eq_false, if_true, if_false, hs_at, hs_ne, hs_sort, hset_eq, vupp_eq, hs_over, List.length_set, vup_at, vup_ne, vup_over, vup_sort, mfs_len, n5_f, map_getD, List.length_map, gd_self, gd_ne, Nat.add_sub_cancel, h60]
    rw [z_sub (by omega), Nat.add_sub_cancel] at this
    exact this
end J3
