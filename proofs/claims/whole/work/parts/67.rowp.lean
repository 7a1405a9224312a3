/-! OWN CODES, as lists: counts, the row of widths, how it is told, its code; zeros behind -/
def cntL (n : Nat) (T : List Nat) : List Nat := (List.range n).map (fun s => T.count s)
theorem cntL_len {n : Nat} {T : List Nat} : (cntL n T).length = n := by simp [cntL]
theorem cntL_at {n s : Nat} {T : List Nat} (hs : s < n) : (cntL n T).getD s 0 = T.count s := by
  rw [cntL, List.getD_eq_getElem?_getD, List.getElem?_map, List.getElem?_range hs]
  rfl
theorem lst_ext {a b : List Nat} (hl : a.length = b.length) (h : ∀ i, i < a.length → a.getD i 0 = b.getD i 0) : a = b := by
  refine List.ext_getElem hl (fun i h1 h2 => ?_)
  have := h i h1
  rwa [gdn h1, gdn h2] at this
theorem cntL_inc {n s : Nat} {T : List Nat} (hs : s < n) : cntL n (T ++ [s]) = (cntL n T).set s (T.count s + 1) := by
  refine lst_ext (by rw [List.length_set, cntL_len, cntL_len]) (fun i hi => ?_)
  rw [cntL_len] at hi
  rw [cntL_at hi, List.count_append]
  by_cases e : s = i
  · rw [← e, gn_self (by rw [cntL_len]; exact hs), List.count_cons_self, List.count_nil]
  · rw [gn_ne e, cntL_at hi, List.count_cons_of_ne (by exact e), List.count_nil, Nat.add_zero]
theorem cntL_nil {n : Nat} : cntL n [] = List.replicate n 0 := by
  refine lst_ext (by rw [cntL_len, List.length_replicate]) (fun i hi => ?_)
  rw [cntL_len] at hi
  rw [cntL_at hi, List.count_nil, List.getD_eq_getElem?_getD, List.getElem?_replicate, if_pos hi]
  rfl
theorem cntL_comm {n : Nat} {T U : List Nat} : cntL n (T ++ U) = cntL n (U ++ T) := by
  unfold cntL
  refine List.map_congr_left (fun s _ => ?_)
  rw [List.count_append, List.count_append, Nat.add_comm]
theorem cntL_z {n k : Nat} {T : List Nat} (h : ∀ t ∈ T, t < n) : cntL (n + k) T = cntL n T ++ List.replicate k 0 := by
  refine lst_ext (by rw [List.length_append, cntL_len, cntL_len, List.length_replicate]) (fun i hi => ?_)
  rw [cntL_len] at hi
  rw [cntL_at hi]
  by_cases hn : i < n
  · rw [List.getD_eq_getElem?_getD, List.getElem?_append_left (by rw [cntL_len]; exact hn), ← List.getD_eq_getElem?_getD, cntL_at hn]
  · rw [List.getD_eq_getElem?_getD, List.getElem?_append_right (by rw [cntL_len]; omega), List.getElem?_replicate, if_pos (by rw [cntL_len]; omega), List.count_eq_zero_of_not_mem (fun hm => hn (h i hm))]
    rfl
theorem sum_map_le {α : Type} {f g : α → Nat} : ∀ {l : List α}, (∀ x ∈ l, f x ≤ g x) → (l.map f).sum ≤ (l.map g).sum
  | [], _ => Nat.le_refl _
  | x :: l, h => by
    rw [List.map_cons, List.map_cons, List.sum_cons, List.sum_cons]
    have a := h x List.mem_cons_self
    have b := sum_map_le (l := l) (fun y hy => h y (List.mem_cons_of_mem _ hy))
    omega
theorem sum_ind : ∀ (n s : Nat), ((List.range n).map (fun i => if i = s then 1 else 0)).sum ≤ 1 ∧ (n ≤ s → ((List.range n).map (fun i => if i = s then 1 else 0)).sum = 0)
  | 0, s => ⟨by simp, fun _ => rfl⟩
  | n + 1, s => by
    have := sum_ind n s
    rw [List.range_succ, List.map_append, List.sum_append, List.map_cons, List.map_nil, List.sum_cons, List.sum_nil]
    by_cases e : n = s
    · rw [if_pos e]
      exact ⟨by have := this.2 (by omega); omega, fun h => by omega⟩
    · rw [if_neg e]
      exact ⟨by omega, fun h => by have := this.2 (by omega); omega⟩
theorem sum_map_add {f g : Nat → Nat} : ∀ (l : List Nat), (l.map (fun x => f x + g x)).sum = (l.map f).sum + (l.map g).sum
  | [] => rfl
  | x :: l => by
    rw [List.map_cons, List.map_cons, List.map_cons, List.sum_cons, List.sum_cons, List.sum_cons, sum_map_add l]
    omega
theorem cntL_sum (n : Nat) : ∀ (T : List Nat), (cntL n T).sum ≤ T.length
  | [] => by rw [cntL_nil]; simp
  | t :: T => by
    have a := cntL_sum n T
    have b := (sum_ind n t).1
    have e : cntL n (t :: T) = (List.range n).map (fun s => T.count s + if s = t then 1 else 0) := by
      unfold cntL
      refine List.map_congr_left (fun s _ => ?_)
      rw [List.count_cons]
      by_cases e : s = t
      · rw [if_pos e, if_pos (by rw [e]; exact beq_self_eq_true t)]
      · rw [if_neg e, if_neg (by rw [beq_iff_eq]; exact fun q => e q.symm)]
    rw [e, sum_map_add, List.length_cons]
    unfold cntL at a
    omega
theorem cntL_le {n : Nat} {T : List Nat} : ∀ v ∈ cntL n T, v ≤ T.length := by
  intro v hv
  obtain ⟨s, _, e⟩ := List.mem_map.mp hv
  rw [← e]
  exact List.count_le_length
/-! the last that is not 0 -/
def utl (w : Nat → Nat) (lo : Nat) : Nat → Nat
  | 0 => 0
  | n + 1 => if lo < n + 1 ∧ w n = 0 then utl w lo n else n + 1
theorem utl_le {w : Nat → Nat} {lo : Nat} : ∀ n, utl w lo n ≤ n
  | 0 => Nat.le_refl _
  | n + 1 => by
    rw [utl]
    split
    · exact Nat.le_succ_of_le (utl_le n)
    · exact Nat.le_refl _
theorem utl_ge {w : Nat → Nat} {lo : Nat} : ∀ n, lo ≤ n → lo ≤ utl w lo n
  | 0, h => h
  | n + 1, h => by
    rw [utl]
    split
    · exact utl_ge n (by omega)
    · exact h
theorem utl_lo {w : Nat → Nat} {lo n : Nat} (h : n ≤ lo) : utl w lo n = n := by
  cases n with
  | zero => rfl
  | succ n => rw [utl, if_neg (by omega)]
theorem utl_z {w : Nat → Nat} {lo s : Nat} : ∀ n, utl w lo n ≤ s → s < n → w s = 0
  | 0, _, h => absurd h (Nat.not_lt_zero s)
  | n + 1, h1, h2 => by
    rw [utl] at h1
    split at h1
    · rename_i h
      by_cases e : s = n
      · rw [e]; exact h.2
      · exact utl_z n h1 (by omega)
    · omega
/-! how a row is told -/
def rq (A : List Nat) (w : Nat) : Nat → Nat → Nat
  | 0, _ => 0
  | d + 1, j => if A.getD j 0 = w then rq A w d (j + 1) + 1 else 0
theorem rq_le (A : List Nat) (w : Nat) : ∀ d j, rq A w d j ≤ d
  | 0, _ => Nat.le_refl _
  | d + 1, j => by
    rw [rq]
    split
    · have := rq_le A w d (j + 1)
      omega
    · omega
def rn (A : List Nat) (i : Nat) : Nat := rq A (A.getD i 0) (A.length - (i + 1)) (i + 1) + 1
theorem rn_le {A : List Nat} {i : Nat} (hi : i < A.length) : 1 ≤ rn A i ∧ i + rn A i ≤ A.length := by
  have := rq_le A (A.getD i 0) (A.length - (i + 1)) (i + 1)
  unfold rn
  omega
/-- what is told at i: the symbol, its field, how many are told -/
def tk1 (A : List Nat) (i : Nat) : Nat × Nat × Nat :=
  if A.getD i 0 = 0 ∧ 11 ≤ rn A i then (18, min (rn A i) 138 - 11, min (rn A i) 138)
  else if A.getD i 0 = 0 ∧ 3 ≤ rn A i then (17, rn A i - 3, rn A i)
  else if ¬ A.getD i 0 = 0 ∧ 3 ≤ rn A i ∧ 0 < i ∧ A.getD (i - 1) 0 = A.getD i 0 then (16, min (rn A i) 6 - 3, min (rn A i) 6)
  else (A.getD i 0, 0, 1)
theorem tk1_b {A : List Nat} {i : Nat} (hi : i < A.length) (h15 : ∀ x ∈ A, x ≤ 15) : (tk1 A i).1 ≤ 18 ∧ (tk1 A i).2.1 < 128 ∧ 1 ≤ (tk1 A i).2.2 ∧ i + (tk1 A i).2.2 ≤ A.length := by
  have h1 := rn_le hi
  have h2 : A.getD i 0 ≤ 15 := by
    rw [gdn hi]
    exact h15 _ (List.getElem_mem hi)
  unfold tk1
  split
  · simp only
    omega
  · split
    · simp only
      omega
    · split
      · simp only
        omega
      · simp only
        omega
def tl (A : List Nat) : Nat → Nat → List (Nat × Nat)
  | 0, _ => []
  | d + 1, i => if i < A.length then ((tk1 A i).1, (tk1 A i).2.1) :: tl A d (i + (tk1 A i).2.2) else []
theorem tl_len {A : List Nat} (h15 : ∀ x ∈ A, x ≤ 15) : ∀ d i, (tl A d i).length ≤ A.length - i
  | 0, _ => Nat.zero_le _
  | d + 1, i => by
    rw [tl]
    split
    · rename_i hi
      have := tl_len h15 d (i + (tk1 A i).2.2)
      have := tk1_b hi h15
      rw [List.length_cons]
      omega
    · exact Nat.zero_le _
theorem tl_end {A : List Nat} {d i : Nat} (h : A.length ≤ i) : tl A d i = [] := by
  cases d with
  | zero => rfl
  | succ d => rw [tl, if_neg (by omega)]
theorem tl_mem {A : List Nat} (h15 : ∀ x ∈ A, x ≤ 15) : ∀ d i, ∀ t ∈ tl A d i, t.1 ≤ 18 ∧ t.2 < 128
  | 0, _, t, h => absurd h List.not_mem_nil
  | d + 1, i, t, h => by
    rw [tl] at h
    split at h
    · rename_i hi
      rcases List.mem_cons.mp h with e | h
      · rw [e]
        exact ⟨(tk1_b hi h15).1, (tk1_b hi h15).2.1⟩
      · exact tl_mem h15 d _ t h
    · exact absurd h List.not_mem_nil
/-! the row's code: numbers halved until no width is above 7 -/
def wide (c : List Nat) : Bool := (hufW c).any (fun w => decide (7 < w))
def hlv (c : List Nat) : List Nat := c.map (fun v => (v + 1) / 2)
def hvF : Nat → List Nat → List Nat
  | 0, c => c
  | k + 1, c => if wide c = true then hvF k (hlv c) else c
theorem wide_not {c : List Nat} (h : ∀ x ∈ hufW c, x ≤ 7) : wide c = false := by
  unfold wide
  rw [List.any_eq_false]
  intro x hx
  have := h x hx
  simp only [decide_eq_true_eq]
  omega
theorem sum_1 : ∀ {c : List Nat}, (∀ v ∈ c, v ≤ 1) → c.sum ≤ c.length
  | [], _ => Nat.le_refl _
  | x :: l, h => by
    have a := h x List.mem_cons_self
    have b := sum_1 (c := l) (fun y hy => h y (List.mem_cons_of_mem _ hy))
    rw [List.sum_cons, List.length_cons]
    omega
theorem wide_1 {c : List Nat} (h : ∀ v ∈ c, v ≤ 1) (hc : c.length ≤ 19) : wide c = false :=
  wide_not (hufW_le (by decide) (Nat.lt_of_le_of_lt (Nat.le_trans (sum_1 h) hc) (by decide)))
theorem hlv_le {c : List Nat} {k : Nat} (h : ∀ v ∈ c, v ≤ 2 ^ (k + 1)) : ∀ v ∈ hlv c, v ≤ 2 ^ k := by
  intro v hv
  obtain ⟨s, hs, e⟩ := List.mem_map.mp hv
  have := h s hs
  have := Nat.one_le_two_pow (n := k)
  rw [← e]
  omega
theorem hlv_sum (c : List Nat) : (hlv c).sum ≤ c.sum := by
  have := sum_map_le (l := c) (f := fun v => (v + 1) / 2) (g := fun v => v) (fun x _ => by show (x + 1) / 2 ≤ x; omega)
  rwa [List.map_id'] at this
theorem hlv_len {c : List Nat} : (hlv c).length = c.length := List.length_map _
theorem hvF_end : ∀ (k : Nat) {c : List Nat}, (∀ v ∈ c, v ≤ 2 ^ k) → c.length ≤ 19 → wide (hvF k c) = false
  | 0, c, h, hc => wide_1 h hc
  | k + 1, c, h, hc => by
    rw [hvF]
    split
    · exact hvF_end k (hlv_le h) (by rw [hlv_len]; exact hc)
    · rename_i hw
      exact Bool.eq_false_iff.mpr hw
theorem hvF_len : ∀ (k : Nat) (c : List Nat), (hvF k c).length = c.length
  | 0, _ => rfl
  | k + 1, c => by
    rw [hvF]
    split
    · rw [hvF_len k, hlv_len]
    · rfl
theorem hvF_sum : ∀ (k : Nat) (c : List Nat), (hvF k c).sum ≤ c.sum
  | 0, _ => Nat.le_refl _
  | k + 1, c => by
    rw [hvF]
    split
    · exact Nat.le_trans (hvF_sum k _) (hlv_sum c)
    · exact Nat.le_refl _
/-! zeros behind widths -/
theorem count_z {ws : List Nat} {k w : Nat} (hw : 0 < w) : (ws ++ List.replicate k 0).count w = ws.count w := by
  rw [List.count_append, List.count_replicate, if_neg (by rw [beq_iff_eq]; omega), Nat.add_zero]
theorem nx_z {ws : List Nat} {k : Nat} : ∀ w, nx (ws ++ List.replicate k 0) w = nx ws w
  | 0 => rfl
  | w + 1 => by rw [nx, nx, nx_z w, count_z (by omega)]
theorem gd_z {ws : List Nat} {k s : Nat} : (ws ++ List.replicate k 0).getD s 0 = ws.getD s 0 := congrFun (cF_z (cs := ws) (k := k)) s
theorem wdN_z {ws : List Nat} {k s : Nat} (hs : s < ws.length) : wdN (ws ++ List.replicate k 0) s = wdN ws s := by
  unfold wdN
  rw [gd_z, nx_z]
  unfold rk
  rw [gd_z, List.take_append_of_le_length (by omega)]
theorem wbs_z {ws : List Nat} {k s : Nat} (hs : s < ws.length) : wbs (ws ++ List.replicate k 0) s = wbs ws s := by
  unfold wbs
  rw [wdN_z hs, gd_z]
theorem sB_z {ws ds : List Nat} {k j : Nat} (h1 : 286 ≤ ws.length) (h2 : 30 ≤ ds.length) : ∀ {T : List (Nat × Nat × Int32)}, (∀ t ∈ T, stV t) → sB (ws ++ List.replicate k 0) (ds ++ List.replicate j 0) T = sB ws ds T
  | [], _ => wbs_z (by omega)
  | t :: T, h => by
    rw [sB, sB, sB_z h1 h2 (fun y hy => h y (List.mem_cons_of_mem _ hy))]
    refine congrArg (· ++ sB ws ds T) ?_
    have ht := h t List.mem_cons_self
    unfold stV at ht
    unfold stB
    have a := ixB_le LB t.2.1 28
    have b := ixB_le DB (vN t) 29
    split
    · rw [wbs_z (by omega)]
    · unfold rpB
      rw [wbs_z (by omega), wbs_z (by omega)]
/-! all of a BLOCK's own codes out of its steps -/
def syS (t : Nat × Nat × Int32) : Nat := if t.2.1 = 1 then vN t else 257 + ixB LB t.2.1 28
def dsS (t : Nat × Nat × Int32) : List Nat := if t.2.1 = 1 then [] else [ixB DB (vN t) 29]
def sysO (T : List (Nat × Nat × Int32)) : List Nat := T.map syS
def dssO (T : List (Nat × Nat × Int32)) : List Nat := T.flatMap dsS
def oX (T : List (Nat × Nat × Int32)) : List Nat := 256 :: (if T = [] then [0] else [])
def oCs (T : List (Nat × Nat × Int32)) : List Nat := cntL 286 (oX T ++ sysO T)
def oCd (T : List (Nat × Nat × Int32)) : List Nat := cntL 30 (dssO T)
def oWs (T : List (Nat × Nat × Int32)) : List Nat := hufW (oCs T)
def oWd (T : List (Nat × Nat × Int32)) : List Nat := hufW (oCd T)
def oh (T : List (Nat × Nat × Int32)) : Nat := utl (fun s => (oWs T).getD s 0) 257 286
def ok1 (T : List (Nat × Nat × Int32)) : Nat := utl (fun s => (oWd T).getD s 0) 1 30
def oA (T : List (Nat × Nat × Int32)) : List Nat := (oWs T).take (oh T) ++ (oWd T).take (ok1 T)
def oT (T : List (Nat × Nat × Int32)) : List (Nat × Nat) := tl (oA T) 316 0
def oCr (T : List (Nat × Nat × Int32)) : List Nat := cntL 19 ((oT T).map Prod.fst)
def oWr (T : List (Nat × Nat × Int32)) : List Nat := hufW (hvF 9 (oCr T))
def oc (T : List (Nat × Nat × Int32)) : Nat := utl (fun k => (oWr T).getD (RO.getD k 0) 0) 4 19
def tB (ws : List Nat) (t : Nat × Nat) : List Bool := wbs ws t.1 ++ fb (nI t.2) 0 (rbN t.1)
def oB (T : List (Nat × Nat × Int32)) : List Bool :=
  fb (nI (oh T - 257)) 0 5 ++ fb (nI (ok1 T - 1)) 0 5 ++ fb (nI (oc T - 4)) 0 4 ++ (List.range (oc T)).flatMap (fun k => fb (nI ((oWr T).getD (RO.getD k 0) 0)) 0 3) ++ (oT T).flatMap (tB (oWr T))
theorem syS_lt {t : Nat × Nat × Int32} (h : stV t) : syS t < 286 ∧ ¬ syS t = 256 := by
  unfold stV at h
  unfold syS
  have a := ixB_le LB t.2.1 28
  split <;> omega
theorem dsS_lt {t : Nat × Nat × Int32} : ∀ d ∈ dsS t, d < 30 := by
  intro d hd
  unfold dsS at hd
  split at hd
  · exact absurd hd List.not_mem_nil
  · have a := ixB_le DB (vN t) 29
    rw [List.mem_singleton.mp hd]
    omega
theorem dssO_len : ∀ (T : List (Nat × Nat × Int32)), (dssO T).length ≤ T.length
  | [] => Nat.le_refl _
  | t :: T => by
    have := dssO_len T
    unfold dssO at this ⊢
    rw [List.flatMap_cons, List.length_append, List.length_cons]
    have : (dsS t).length ≤ 1 := by
      unfold dsS
      split <;> simp
    omega
theorem dssO_lt {T : List (Nat × Nat × Int32)} : ∀ d ∈ dssO T, d < 30 := by
  intro d hd
  obtain ⟨t, _, h⟩ := List.mem_flatMap.mp hd
  exact dsS_lt d h
theorem oX_len (T : List (Nat × Nat × Int32)) : (oX T ++ sysO T).length ≤ T.length + 2 := by
  unfold oX sysO
  rw [List.length_append, List.length_cons, List.length_map]
  split <;> simp <;> omega
theorem oWs_len {T : List (Nat × Nat × Int32)} : (oWs T).length = 286 := by rw [oWs, hufW_len, oCs, cntL_len]
theorem oWd_len {T : List (Nat × Nat × Int32)} : (oWd T).length = 30 := by rw [oWd, hufW_len, oCd, cntL_len]
theorem oWr_len {T : List (Nat × Nat × Int32)} : (oWr T).length = 19 := by rw [oWr, hufW_len, hvF_len, oCr, cntL_len]
theorem oWs_15 {T : List (Nat × Nat × Int32)} (hT : T.length ≤ 300) : ∀ x ∈ oWs T, x ≤ 15 :=
  hufW_le (by decide) (Nat.lt_of_le_of_lt (Nat.le_trans (cntL_sum _ _) (Nat.le_trans (oX_len T) (Nat.add_le_add_right hT 2))) (by decide))
theorem oWd_15 {T : List (Nat × Nat × Int32)} (hT : T.length ≤ 300) : ∀ x ∈ oWd T, x ≤ 15 :=
  hufW_le (by decide) (Nat.lt_of_le_of_lt (Nat.le_trans (cntL_sum _ _) (Nat.le_trans (dssO_len T) hT)) (by decide))
theorem oh_b {T : List (Nat × Nat × Int32)} : 257 ≤ oh T ∧ oh T ≤ 286 := ⟨utl_ge _ (by decide), utl_le _⟩
theorem ok_b {T : List (Nat × Nat × Int32)} : 1 ≤ ok1 T ∧ ok1 T ≤ 30 := ⟨utl_ge _ (by decide), utl_le _⟩
theorem oc_b {T : List (Nat × Nat × Int32)} : 4 ≤ oc T ∧ oc T ≤ 19 := ⟨utl_ge _ (by decide), utl_le _⟩
theorem oA_len {T : List (Nat × Nat × Int32)} : (oA T).length = oh T + ok1 T := by
  have a := @oh_b T
  have b := @ok_b T
  rw [oA, List.length_append, List.length_take, List.length_take, oWs_len, oWd_len]
  omega
theorem oA_15 {T : List (Nat × Nat × Int32)} (hT : T.length ≤ 300) : ∀ x ∈ oA T, x ≤ 15 := by
  intro x hx
  rcases List.mem_append.mp hx with h | h
  · exact oWs_15 hT x (List.mem_of_mem_take h)
  · exact oWd_15 hT x (List.mem_of_mem_take h)
theorem oT_len {T : List (Nat × Nat × Int32)} (hT : T.length ≤ 300) : (oT T).length ≤ 316 := by
  have := tl_len (oA_15 hT) 316 0
  have a := @oh_b T
  have b := @ok_b T
  rw [oA_len] at this
  unfold oT
  omega
theorem oT_mem {T : List (Nat × Nat × Int32)} (hT : T.length ≤ 300) : ∀ t ∈ oT T, t.1 ≤ 18 ∧ t.2 < 128 := tl_mem (oA_15 hT) 316 0
theorem oCr_le {T : List (Nat × Nat × Int32)} (hT : T.length ≤ 300) : ∀ v ∈ oCr T, v ≤ 512 := by
  intro v hv
  have a := cntL_le v hv
  have b := oT_len hT
  rw [List.length_map] at a
  omega
theorem oCr_sum {T : List (Nat × Nat × Int32)} (hT : T.length ≤ 300) : (oCr T).sum ≤ 316 := by
  have a := cntL_sum 19 ((oT T).map Prod.fst)
  have b := oT_len hT
  rw [List.length_map] at a
  unfold oCr
  omega
theorem oWr_7 {T : List (Nat × Nat × Int32)} (hT : T.length ≤ 300) : ∀ x ∈ oWr T, x ≤ 7 := by
  have := hvF_end 9 (oCr_le hT) (by rw [oCr, cntL_len]; decide)
  unfold wide at this
  rw [List.any_eq_false] at this
  intro x hx
  have := this x hx
  simp only [decide_eq_true_eq] at this
  omega
