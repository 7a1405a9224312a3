/-! steps: the same of equal DATA, valid, in order; BLOCKS as lists of bits -/
abbrev St := Nat × Nat × Int32
theorem rl_congr {l l' : List Int32} {n f p most : Nat} (h : ∀ j, j < n → l.getD j 0 = l'.getD j 0) (hf : f ≤ p) (hp : p + most ≤ n) : ∀ d k, k + d = most → rl l f p d k = rl l' f p d k
  | 0, _, _ => rfl
  | d + 1, k, hk => by
    rw [rl, rl, h (f + k) (by omega), h (p + k) (by omega), rl_congr h hf hp d (k + 1) (by omega)]
theorem bs_congr {l l' : List Int32} {n p most : Nat} (h : ∀ j, j < n → l.getD j 0 = l'.getD j 0) (hp : p + most ≤ n) : ∀ d q, d ≤ p → bs l p most d q = bs l' p most d q
  | 0, _, _ => rfl
  | d + 1, q, hd => by
    have e : run l d p most = run l' d p most := rl_congr h (by omega) hp most 0 (by omega)
    rw [bs, bs, e, bs_congr h hp d _ (by omega)]
theorem stpLV_congr {l l' : List Int32} {n p most : Nat} (h : ∀ j, j < n → l.getD j 0 = l'.getD j 0) (hp : p + most ≤ n) (hpn : p < n) : stpLV l p most = stpLV l' p most := by
  unfold stpLV
  rw [bs_congr h hp p (0, 0) (Nat.le_refl p), h p hpn]
theorem mst_le {C : List Nat} {n p : Nat} (hp : p < n) : 1 ≤ mst C n p ∧ p + mst C n p ≤ n ∧ mst C n p ≤ 258 := by
  have a := eo_gt (C := C) hp
  have b := (eo_spec p C n).1
  unfold mst
  omega
theorem stF_congr {l l' : List Int32} {C : List Nat} {n : Nat} (h : ∀ j, j < n → l.getD j 0 = l'.getD j 0) : ∀ f p, stF l C n f p = stF l' C n f p
  | 0, _ => rfl
  | f + 1, p => by
    rw [stF, stF]
    by_cases hp : p < n
    · rw [if_pos hp, if_pos hp, stpLV_congr h (mst_le hp).2.1 hp, stF_congr h f]
    · rw [if_neg hp, if_neg hp]
theorem steps_congr {l l' : List Int32} {C : List Nat} {n : Nat} (h : ∀ j, j < n → l.getD j 0 = l'.getD j 0) : steps l C n = steps l' C n := stF_congr h n 0
theorem bs_far {l : List Int32} {p most : Nat} : ∀ d q, d ≤ p → (q.1 = 0 ∨ (1 ≤ q.2 ∧ q.2 ≤ p)) → ((bs l p most d q).1 = 0 ∨ (1 ≤ (bs l p most d q).2 ∧ (bs l p most d q).2 ≤ p))
  | 0, _, _, h => h
  | d + 1, q, hd, h => by
    rw [bs]
    refine bs_far d _ (by omega) ?_
    split
    · right
      simp only
      omega
    · exact h
theorem stF_V {l : List Int32} {C : List Nat} {n : Nat} (hb : ∀ j, j < n → ∃ v, v < 256 ∧ l.getD j 0 = nI v) (hn : n ≤ 300) : ∀ f p, ∀ t ∈ stF l C n f p, stV t ∧ p ≤ t.1 ∧ 1 ≤ t.2.1 ∧ t.1 + t.2.1 ≤ n
  | 0, _, t, h => absurd h List.not_mem_nil
  | f + 1, p, t, h => by
    rw [stF] at h
    by_cases hp : p < n
    · rw [if_pos hp] at h
      have m := mst_le (C := C) hp
      have s := stpLV_le l p (mst C n p) m.1
      rcases List.mem_cons.mp h with e | h
      · rw [e]
        refine ⟨?_, Nat.le_refl _, s.1, by show p + (stpLV l p (mst C n p)).1 ≤ n; omega⟩
        unfold stV vN
        refine ⟨by show p < 300; omega, ?_⟩
        have far := bs_far (l := l) (most := mst C n p) p (0, 0) (Nat.le_refl p) (Or.inl rfl)
        simp only
        unfold stpLV at s ⊢
        split
        · rename_i h3
          rw [if_pos h3] at s
          simp only at s ⊢
          rw [nI_clamp (by omega)]
          exact ⟨by first | trivial | rfl, Or.inr (by omega)⟩
        · obtain ⟨v, hv, e⟩ := hb p hp
          simp only
          rw [e, nI_clamp (by omega)]
          exact ⟨by first | trivial | rfl, Or.inl ⟨by first | trivial | rfl, hv⟩⟩
      · have := stF_V hb hn f _ t h
        exact ⟨this.1, by omega, this.2.2⟩
    · rw [if_neg hp] at h
      exact absurd h List.not_mem_nil
theorem stF_sorted {l : List Int32} {C : List Nat} {n : Nat} (hb : ∀ j, j < n → ∃ v, v < 256 ∧ l.getD j 0 = nI v) (hn : n ≤ 300) : ∀ f p, (stF l C n f p).Pairwise (fun a b => a.1 < b.1)
  | 0, _ => List.Pairwise.nil
  | f + 1, p => by
    rw [stF]
    by_cases hp : p < n
    · rw [if_pos hp]
      have m := mst_le (C := C) hp
      have s := stpLV_le l p (mst C n p) m.1
      refine List.Pairwise.cons (fun t ht => ?_) (stF_sorted hb hn f _)
      have := stF_V hb hn f _ t ht
      show p < t.1
      omega
    · rw [if_neg hp]
      exact List.Pairwise.nil
def lnS (V : List St) : Nat := (V.map (fun t => t.2.1)).sum
theorem stF_sum {l : List Int32} {C : List Nat} {n : Nat} : ∀ f p, lnS (stF l C n f p) ≤ n - p
  | 0, _ => Nat.zero_le _
  | f + 1, p => by
    rw [stF]
    by_cases hp : p < n
    · rw [if_pos hp]
      have m := mst_le (C := C) hp
      have s := stpLV_le l p (mst C n p) m.1
      have ih := stF_sum (l := l) (C := C) (n := n) f (p + (stpLV l p (mst C n p)).1)
      unfold lnS at ih ⊢
      rw [List.map_cons, List.sum_cons]
      show (stpLV l p (mst C n p)).1 + _ ≤ _
      omega
    · rw [if_neg hp]
      exact Nat.zero_le _
theorem lnS_len : ∀ {V : List St}, (∀ t ∈ V, 1 ≤ t.2.1) → V.length ≤ lnS V
  | [], _ => Nat.le_refl _
  | t :: V, h => by
    have a := lnS_len (V := V) (fun t ht => h t (List.mem_cons_of_mem _ ht))
    have b := h t List.mem_cons_self
    unfold lnS at a ⊢
    rw [List.map_cons, List.sum_cons, List.length_cons]
    omega
/-! slices -/
def ixP (T : List St) (x : Nat) : Nat := (T.filter (fun t => decide (t.1 < x))).length
theorem ix_split : ∀ {T : List St} {x : Nat}, T.Pairwise (fun a b => a.1 < b.1) → T.filter (fun t => decide (t.1 < x)) = T.take (ixP T x) ∧ T.filter (fun t => decide (x ≤ t.1)) = T.drop (ixP T x)
  | [], x, _ => ⟨rfl, rfl⟩
  | t :: T, x, h => by
    have h2 := List.pairwise_cons.mp h
    have ih := ix_split (T := T) (x := x) h2.2
    unfold ixP at ih ⊢
    by_cases q : t.1 < x
    · rw [List.filter_cons, if_pos (decide_eq_true q), List.filter_cons, if_neg (by rw [decide_eq_true_eq]; omega), List.length_cons, List.take_succ_cons, List.drop_succ_cons]
      exact ⟨congrArg _ ih.1, ih.2⟩
    · have n1 : T.filter (fun t => decide (t.1 < x)) = [] := List.filter_eq_nil_iff.mpr (fun u hu => by
        have := h2.1 u hu
        rw [decide_eq_true_eq]
        omega)
      have n2 : T.filter (fun t => decide (x ≤ t.1)) = T := List.filter_eq_self.mpr (fun u hu => by
        have := h2.1 u hu
        rw [decide_eq_true_eq]
        omega)
      rw [List.filter_cons, if_neg (by rw [decide_eq_true_eq]; exact q), List.filter_cons, if_pos (by rw [decide_eq_true_eq]; omega), n1, n2]
      exact ⟨rfl, rfl⟩
theorem ixP_le {T : List St} {x : Nat} : ixP T x ≤ T.length := List.length_filter_le _ _
theorem ixP_mono {x y : Nat} (h : x ≤ y) : ∀ {T : List St}, ixP T x ≤ ixP T y
  | [] => Nat.le_refl _
  | t :: T => by
    have ih := ixP_mono h (T := T)
    unfold ixP at ih ⊢
    rw [List.filter_cons, List.filter_cons]
    split
    · rename_i q
      rw [decide_eq_true_eq] at q
      rw [if_pos (by rw [decide_eq_true_eq]; omega), List.length_cons, List.length_cons]
      omega
    · split
      · rw [List.length_cons]
        omega
      · exact ih
theorem ixP_lt {T : List St} {x i : Nat} {t : St} (hs : T.Pairwise (fun a b => a.1 < b.1)) (hi : i < ixP T x) (ht : T[i]? = some t) : t.1 < x := by
  have : t ∈ T.take (ixP T x) := List.mem_of_getElem? (by rw [List.getElem?_take_of_lt hi]; exact ht)
  rw [← (ix_split hs).1, List.mem_filter, decide_eq_true_eq] at this
  exact this.2
theorem ixP_ge {T : List St} {x i : Nat} {t : St} (hs : T.Pairwise (fun a b => a.1 < b.1)) (hi : ixP T x ≤ i) (ht : T[i]? = some t) : x ≤ t.1 := by
  have : t ∈ T.drop (ixP T x) := List.mem_of_getElem? (i := i - ixP T x) (by rw [List.getElem?_drop, show ixP T x + (i - ixP T x) = i by omega]; exact ht)
  rw [← (ix_split hs).2, List.mem_filter, decide_eq_true_eq] at this
  exact this.2
theorem slice {T : List St} {b e : Nat} (hs : T.Pairwise (fun a b => a.1 < b.1)) (hbe : b ≤ e) : T.filter (inB b e) = (T.drop (ixP T b)).take (ixP T e - ixP T b) := by
  have e1 : T.filter (inB b e) = (T.filter (fun t => decide (b ≤ t.1))).filter (fun t => decide (t.1 < e)) := by
    rw [List.filter_filter]
    refine List.filter_congr (fun t _ => ?_)
    unfold inB
    exact Bool.and_comm _ _
  have hd : (T.drop (ixP T b)).Pairwise (fun a b => a.1 < b.1) := hs.sublist (List.drop_sublist _ _)
  rw [e1, (ix_split hs).2, (ix_split hd).1]
  congr 1
  have : ixP T e = ixP (T.take (ixP T b)) e + ixP (T.drop (ixP T b)) e := by
    unfold ixP
    rw [← List.length_append, ← List.filter_append, List.take_append_drop]
  have all : ixP (T.take (ixP T b)) e = ixP T b := by
    rw [← (ix_split hs).1]
    unfold ixP
    rw [List.filter_filter]
    congr 1
    refine List.filter_congr (fun t _ => ?_)
    by_cases q : t.1 < b
    · rw [decide_eq_true q, decide_eq_true (by omega)]
      rfl
    · rw [decide_eq_false q, Bool.and_false]
  omega
/-! BLOCKS -/
def plB (D : List Int32) (W : List Bool) (b e : Nat) : List Bool := W ++ List.replicate (pad W.length) false ++ fb (nI (e - b)) 0 16 ++ fb (nI (65535 - (e - b))) 0 16 ++ ((D.drop b).take (e - b)).flatMap (fun v => fb v 0 8)
def hdB (n : Nat) (W : List Bool) (k e : Nat) : List Bool := W ++ fb (if e < n then nI 0 else nI 1) 0 1 ++ fb (nI k) 0 2
/-- the bits so far, and a BLOCK of KIND k behind them -/
def bkW (D : List Int32) (T : List St) (n : Nat) (W : List Bool) (k b e : Nat) : List Bool :=
  if k = 0 then plB D (hdB n W k e) b e else if k = 1 then hdB n W k e ++ sB fxS fxD (T.filter (inB b e)) else hdB n W k e ++ oB (T.filter (inB b e)) ++ sB (oWs (T.filter (inB b e))) (oWd (T.filter (inB b e))) (T.filter (inB b e))
def bestK (x y z : Nat) : Nat := if y < x then (if z < y then 2 else 1) else (if z < x then 2 else 0)
def kdO (D : List Int32) (T : List St) (n : Nat) (W : List Bool) (level b e : Nat) : Nat := if level = 3 then bestK (bkW D T n W 0 b e).length (bkW D T n W 1 b e).length (bkW D T n W 2 b e).length else level
abbrev Nt := Nat × Nat × Nat × Nat × Nat
/-- all BLOCKS from b on: bits, notes, the steps of the last of KIND 2 -/
def pkF (D : List Int32) (T : List St) (n : Nat) (C : List Nat) (level : Nat) : Nat → List Bool → Nat → List Nt → Option (List St) → List Bool × List Nt × Option (List St)
  | 0, W, _, N, o => (W, N, o)
  | f + 1, W, b, N, o =>
    let e := eo C b n
    let k := kdO D T n W level b e
    let W2 := bkW D T n W k b e
    let N2 := N ++ [(k, b, e - b, W.length, W2.length - W.length)]
    let o2 := if k = 2 then some (T.filter (inB b e)) else o
    if e < n then pkF D T n C level f W2 e N2 o2 else (W2, N2, o2)
theorem flat8 : ∀ (L : List Int32), (L.flatMap (fun v => fb v 0 8)).length = 8 * L.length
  | [] => rfl
  | v :: L => by
    rw [List.flatMap_cons, List.length_append, flat8 L, fb_len, List.length_cons]
    omega
theorem sB_len {ws ds : List Nat} (h1 : ∀ x ∈ ws, x ≤ 15) (h2 : ∀ x ∈ ds, x ≤ 15) : ∀ {V : List St}, (∀ t ∈ V, stV t) → (sB ws ds V).length ≤ 15 + 16 * lnS V
  | [], _ => by
    rw [sB, wbs_len]
    have := w15 h1 256
    omega
  | t :: V, h => by
    have ih := sB_len h1 h2 (V := V) (fun t ht => h t (List.mem_cons_of_mem _ ht))
    have ht := h t List.mem_cons_self
    have hl := stB_len h1 h2 t
    unfold stV at ht
    rw [sB, List.length_append]
    unfold lnS at ih ⊢
    rw [List.map_cons, List.sum_cons]
    by_cases q : t.2.1 = 1
    · have : (stB ws ds t).length ≤ 15 := by
        rw [stB, if_pos q, wbs_len]
        exact w15 h1 _
      omega
    · omega
theorem fmL {α : Type} {f : α → List Bool} {k : Nat} : ∀ {L : List α}, (∀ x ∈ L, (f x).length ≤ k) → (L.flatMap f).length ≤ k * L.length
  | [], _ => Nat.zero_le _
  | x :: L, h => by
    have a := h x List.mem_cons_self
    have b := fmL (L := L) (fun y hy => h y (List.mem_cons_of_mem _ hy))
    rw [List.flatMap_cons, List.length_append, List.length_cons, Nat.mul_succ]
    omega
theorem oB_len {V : List St} (hV : V.length ≤ 300) : (oB V).length ≤ 4500 := by
  unfold oB
  simp only [List.length_append, fb_len]
  have a := fmL (k := 3) (f := fun k => fb (nI ((oWr V).getD (RO.getD k 0) 0)) 0 3) (L := List.range (oc V)) (fun x _ => by rw [fb_len]; exact Nat.le_refl 3)
  have b := fmL (k := 14) (f := tB (oWr V)) (L := oT V) (fun t _ => by
    rw [tB, List.length_append, wbs_len, fb_len]
    have q := rbN_le t.1
    have : (oWr V).getD t.1 0 ≤ 7 := by
      by_cases hs : t.1 < (oWr V).length
      · rw [gdn hs]
        exact oWr_7 hV _ (List.getElem_mem hs)
      · rw [List.getD_eq_getElem?_getD, List.getElem?_eq_none (by omega)]
        decide
    omega)
  have c := @oc_b V
  have d := oT_len hV
  rw [List.length_range] at a
  omega
theorem fxS_15 : ∀ x ∈ fxS, x ≤ 15 := by
  intro x hx
  unfold fxS at hx
  simp only [List.mem_append, List.mem_replicate] at hx
  omega
theorem fxD_15 : ∀ x ∈ fxD, x ≤ 15 := by
  intro x hx
  unfold fxD at hx
  simp only [List.mem_replicate] at hx
  omega
theorem pad_le (n : Nat) : pad n ≤ 7 := by unfold pad; omega
theorem hdB_len {n k e : Nat} {W : List Bool} : (hdB n W k e).length = W.length + 3 := by
  unfold hdB
  simp only [List.length_append, fb_len]
theorem plB_len {D : List Int32} {b e : Nat} {W : List Bool} (hD : e ≤ D.length) : (plB D W b e).length = W.length + pad W.length + 32 + 8 * (e - b) := by
  unfold plB
  simp only [List.length_append, fb_len, List.length_replicate, flat8, List.length_take, List.length_drop]
  omega
theorem bkW_len {D : List Int32} {T : List St} {n k b e : Nat} {W : List Bool} (hD : e ≤ D.length) (hD2 : D.length ≤ 300) (hT : T.length ≤ 300) (hV : ∀ t ∈ T, stV t) : W.length ≤ (bkW D T n W k b e).length ∧ (bkW D T n W k b e).length ≤ W.length + 4600 + 16 * lnS (T.filter (inB b e)) := by
  have hV2 : ∀ t ∈ T.filter (inB b e), stV t := fun t ht => hV t (List.mem_filter.mp ht).1
  have hl : (T.filter (inB b e)).length ≤ 300 := Nat.le_trans (List.length_filter_le _ _) hT
  unfold bkW
  split
  · rw [plB_len hD, hdB_len]
    have := pad_le (W.length + 3)
    omega
  · split
    · rw [List.length_append, hdB_len]
      have := sB_len fxS_15 fxD_15 hV2
      omega
    · rw [List.length_append, List.length_append, hdB_len]
      have := sB_len (oWs_15 hl) (oWd_15 hl) hV2
      have := oB_len hl
      omega
theorem lnS_split {b e : Nat} : ∀ {T : List St}, lnS (T.filter (inB b e)) + lnS (T.filter (fun t => decide (max b e ≤ t.1))) ≤ lnS (T.filter (fun t => decide (b ≤ t.1)))
  | [] => Nat.le_refl _
  | t :: T => by
    have ih := lnS_split (b := b) (e := e) (T := T)
    unfold lnS at ih ⊢
    unfold inB at ih ⊢
    rw [List.filter_cons, List.filter_cons, List.filter_cons]
    by_cases q1 : b ≤ t.1
    · by_cases q2 : t.1 < e
      · rw [if_pos (by rw [Bool.and_eq_true, decide_eq_true_eq, decide_eq_true_eq]; exact ⟨q1, q2⟩), if_neg (by rw [decide_eq_true_eq]; omega), if_pos (decide_eq_true q1), List.map_cons, List.sum_cons, List.map_cons, List.sum_cons]
        omega
      · rw [if_neg (by rw [Bool.and_eq_true, decide_eq_true_eq, decide_eq_true_eq]; exact fun g => q2 g.2), if_pos (by rw [decide_eq_true_eq]; omega), if_pos (decide_eq_true q1), List.map_cons, List.sum_cons, List.map_cons, List.sum_cons]
        omega
    · rw [if_neg (by rw [Bool.and_eq_true, decide_eq_true_eq, decide_eq_true_eq]; exact fun g => q1 g.1), if_neg (by rw [decide_eq_true_eq]; omega), if_neg (by rw [decide_eq_true_eq]; exact q1)]
      exact ih
/-- cuts that are left -/
def cc (C : List Nat) (b : Nat) : Nat := (C.filter (fun c => decide (b < c))).length
theorem cc_lt {C : List Nat} {b n : Nat} (h : eo C b n < n) : cc C (eo C b n) < cc C b := by
  rcases (eo_spec b C n).2.2 with q | ⟨q1, q2⟩
  · omega
  · generalize eo C b n = e at *
    clear h
    unfold cc
    induction C with
    | nil => exact absurd q1 List.not_mem_nil
    | cons c C ih =>
      have mono : (C.filter (fun c => decide (e < c))).length ≤ (C.filter (fun c => decide (b < c))).length := by
        clear ih q1
        induction C with
        | nil => exact Nat.le_refl _
        | cons c C ih =>
          rw [List.filter_cons, List.filter_cons]
          split
          · rename_i z
            rw [decide_eq_true_eq] at z
            rw [if_pos (by rw [decide_eq_true_eq]; omega), List.length_cons, List.length_cons]
            omega
          · split
            · rw [List.length_cons]
              omega
            · exact ih
      rw [List.filter_cons, List.filter_cons]
      rcases List.mem_cons.mp q1 with z | z
      · rw [if_neg (by rw [decide_eq_true_eq]; omega), if_pos (by rw [decide_eq_true_eq]; omega), List.length_cons]
        omega
      · have := ih z
        split
        · rename_i y
          rw [decide_eq_true_eq] at y
          rw [if_pos (by rw [decide_eq_true_eq]; omega), List.length_cons, List.length_cons]
          omega
        · split
          · rw [List.length_cons]
            omega
          · exact this
theorem cc_le {C : List Nat} {b : Nat} : cc C b ≤ C.length := List.length_filter_le _ _
