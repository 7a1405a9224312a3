/-! joining the two least: sorted leaves, the run by two queues, what is least, how deep -/
def ipos (c : Nat → Nat) (l : List Nat) (v : Nat) : Nat → Nat
  | 0 => 0
  | i + 1 => if v < c (l.getD i 0) then ipos c l v i else i + 1
def insL (c : Nat → Nat) (l : List Nat) (s : Nat) : List Nat := l.take (ipos c l (c s) l.length) ++ s :: l.drop (ipos c l (c s) l.length)
/-- the leaves: SYMBOLS below n with a number, by numbers, equals by their order -/
def lvs (c : Nat → Nat) : Nat → List Nat
  | 0 => []
  | s + 1 => if 0 < c s then insL c (lvs c s) s else lvs c s
def lxl (c : Nat → Nat) (x y : Nat) : Prop := c x < c y ∨ (c x = c y ∧ x < y)
theorem ipos_le (c : Nat → Nat) (l : List Nat) (v : Nat) : ∀ i, ipos c l v i ≤ i
  | 0 => Nat.le_refl 0
  | i + 1 => by
    rw [ipos]
    split
    · exact Nat.le_succ_of_le (ipos_le c l v i)
    · exact Nat.le_refl _
theorem ipos_hi (c : Nat → Nat) (l : List Nat) (v : Nat) : ∀ i k, ipos c l v i ≤ k → k < i → v < c (l.getD k 0)
  | 0, k, _, h => absurd h (Nat.not_lt_zero k)
  | i + 1, k, h1, h2 => by
    rw [ipos] at h1
    split at h1
    · rename_i hv
      by_cases e : k = i
      · rw [e]
        exact hv
      · exact ipos_hi c l v i k h1 (by omega)
    · omega
theorem ipos_lo (c : Nat → Nat) (l : List Nat) (v : Nat) : ∀ i, 0 < ipos c l v i → c (l.getD (ipos c l v i - 1) 0) ≤ v
  | 0, h => absurd h (by simp [ipos])
  | i + 1, h => by
    rw [ipos] at h ⊢
    split at h
    · rename_i hv
      rw [if_pos hv]
      exact ipos_lo c l v i h
    · rename_i hv
      rw [if_neg hv, Nat.add_sub_cancel]
      omega
theorem gdn {l : List Nat} {i : Nat} (hi : i < l.length) : l.getD i 0 = l[i] := by
  rw [List.getD_eq_getElem?_getD, List.getElem?_eq_getElem hi]
  rfl
theorem insL_mem {c : Nat → Nat} {l : List Nat} {s x : Nat} : x ∈ insL c l s ↔ x ∈ l ∨ x = s := by
  unfold insL
  rw [List.mem_append, List.mem_cons]
  constructor
  · rintro (h | h | h)
    · exact Or.inl (List.mem_of_mem_take h)
    · exact Or.inr h
    · exact Or.inl (List.mem_of_mem_drop h)
  · rintro (h | h)
    · rw [← List.take_append_drop (ipos c l (c s) l.length) l, List.mem_append] at h
      rcases h with h | h
      · exact Or.inl h
      · exact Or.inr (Or.inr h)
    · exact Or.inr (Or.inl h)
theorem lvs_mem (c : Nat → Nat) : ∀ (n x : Nat), x ∈ lvs c n ↔ x < n ∧ 0 < c x
  | 0, x => by simp [lvs]
  | n + 1, x => by
    rw [lvs]
    split
    · rename_i hc
      rw [insL_mem, lvs_mem c n x]
      constructor
      · rintro (⟨a, b⟩ | rfl)
        · exact ⟨by omega, b⟩
        · exact ⟨by omega, hc⟩
      · rintro ⟨a, b⟩
        by_cases e : x = n
        · exact Or.inr e
        · exact Or.inl ⟨by omega, b⟩
    · rename_i hc
      rw [lvs_mem c n x]
      constructor
      · rintro ⟨a, b⟩
        exact ⟨by omega, b⟩
      · rintro ⟨a, b⟩
        refine ⟨?_, b⟩
        by_cases e : x = n
        · rw [e] at b
          exact absurd b hc
        · omega
theorem insL_sorted {c : Nat → Nat} {l : List Nat} {s : Nat} (hl : l.Pairwise (lxl c)) (hs : ∀ x ∈ l, x < s) : (insL c l s).Pairwise (lxl c) := by
  unfold insL
  have hile := ipos_le c l (c s) l.length
  have hhi := ipos_hi c l (c s) l.length
  have hlo := ipos_lo c l (c s) l.length
  generalize ipos c l (c s) l.length = i at *
  have lo : ∀ x ∈ l.take i, lxl c x s := by
    intro x hx
    obtain ⟨k, hk, e⟩ := List.mem_iff_getElem.mp hx
    rw [List.length_take] at hk
    rw [List.getElem_take] at e
    have hxl : x ∈ l := List.mem_of_mem_take hx
    have h1 := hlo (by omega)
    rw [gdn (show i - 1 < l.length by omega)] at h1
    have h2 : c x ≤ c l[i - 1] := by
      by_cases ek : k = i - 1
      · subst ek
        rw [e]
        exact Nat.le_refl _
      · have := List.pairwise_iff_getElem.mp hl k (i - 1) (by omega) (by omega) (by omega)
        rw [e] at this
        rcases this with q | ⟨q, -⟩ <;> omega
    have h3 := hs x hxl
    unfold lxl
    omega
  have hi : ∀ x ∈ l.drop i, lxl c s x := by
    intro x hx
    obtain ⟨k, hk, e⟩ := List.mem_iff_getElem.mp hx
    rw [List.length_drop] at hk
    rw [List.getElem_drop] at e
    have := hhi (i + k) (by omega) (by omega)
    rw [gdn (show i + k < l.length by omega), e] at this
    exact Or.inl this
  refine List.pairwise_append.mpr ⟨List.Pairwise.sublist (List.take_sublist i l) hl, List.pairwise_cons.mpr ⟨hi, List.Pairwise.sublist (List.drop_sublist i l) hl⟩, ?_⟩
  intro x hx y hy
  rcases List.mem_cons.mp hy with rfl | hy
  · exact lo x hx
  · have h1 := lo x hx
    have h2 := hi y hy
    unfold lxl at *
    omega
theorem lvs_sorted (c : Nat → Nat) : ∀ n, (lvs c n).Pairwise (lxl c)
  | 0 => List.Pairwise.nil
  | n + 1 => by
    rw [lvs]
    split
    · exact insL_sorted (lvs_sorted c n) (fun x hx => ((lvs_mem c n x).mp hx).1)
    · exact lvs_sorted c n
theorem lvs_len (c : Nat → Nat) : ∀ n, (lvs c n).length ≤ n
  | 0 => Nat.le_refl 0
  | n + 1 => by
    have := lvs_len c n
    rw [lvs]
    split
    · unfold insL
      rw [List.length_append, List.length_take, List.length_cons, List.length_drop]
      have := ipos_le c (lvs c n) (c n) (lvs c n).length
      omega
    · omega
theorem insL_len {c : Nat → Nat} {l : List Nat} {s : Nat} : (insL c l s).length = l.length + 1 := by
  unfold insL
  rw [List.length_append, List.length_take, List.length_cons, List.length_drop]
  have := ipos_le c l (c s) l.length
  omega
theorem insL_at {c : Nat → Nat} {l : List Nat} {s k : Nat} : (insL c l s).getD k 0 = if k < ipos c l (c s) l.length then l.getD k 0 else if k = ipos c l (c s) l.length then s else l.getD (k - 1) 0 := by
  unfold insL
  have hle := ipos_le c l (c s) l.length
  generalize ipos c l (c s) l.length = i at *
  simp only [List.getD_eq_getElem?_getD]
  by_cases h1 : k < i
  · rw [if_pos h1, List.getElem?_append_left (by rw [List.length_take]; omega), List.getElem?_take_of_lt h1]
  · rw [if_neg h1, List.getElem?_append_right (by rw [List.length_take]; omega), List.length_take, Nat.min_eq_left hle]
    by_cases h2 : k = i
    · rw [if_pos h2, h2, Nat.sub_self]
      rfl
    · rw [if_neg h2, show k - i = (k - 1 - i) + 1 by omega, List.getElem?_cons_succ, List.getElem?_drop, show i + (k - 1 - i) = k - 1 by omega]
/-! the run: N numbers of nodes, Q what a node was joined to, p q the two queues' heads, c how many nodes -/
def tkc (N : Nat → Nat) (L p q c : Nat) : Bool := decide (p < L) && (decide (c ≤ q) || decide (N p ≤ N q))
def tkx (N : Nat → Nat) (L p q c : Nat) : Nat := if tkc N L p q c = true then p else q
def tkp (N : Nat → Nat) (L p q c : Nat) : Nat := if tkc N L p q c = true then p + 1 else p
def tkq (N : Nat → Nat) (L p q c : Nat) : Nat := if tkc N L p q c = true then q else q + 1
/-- who is left -/
def alv (L p q c x : Nat) : Prop := (p ≤ x ∧ x < L) ∨ (q ≤ x ∧ x < c)
/-- node order: sy the leaves' SYMBOLS, n all SYMBOLS -/
def phi (sy : Nat → Nat) (L n x : Nat) : Nat := if x < L then sy x else n + (x - L)
theorem tk_alv {N : Nat → Nat} {L p q c : Nat} (h : p < L ∨ q < c) : alv L p q c (tkx N L p q c) := by
  unfold tkx tkc alv
  by_cases a : p < L
  · by_cases b : c ≤ q
    · simp [a, b]
    · by_cases d : N p ≤ N q
      · simp [a, d]
      · simp [b, d]
        omega
  · simp [a]
    omega
theorem tk_rest {N : Nat → Nat} {L p q c : Nat} (hq : L ≤ q) (h : p < L ∨ q < c) (x : Nat) : alv L (tkp N L p q c) (tkq N L p q c) c x ↔ alv L p q c x ∧ ¬ x = tkx N L p q c := by
  unfold tkx tkp tkq tkc alv
  by_cases a : p < L
  · by_cases b : c ≤ q
    · simp [a, b]
      omega
    · by_cases d : N p ≤ N q
      · simp [a, d]
        omega
      · simp [b, d]
        omega
  · simp [a]
    omega
theorem tk_pq {N : Nat → Nat} {L p q c : Nat} (hp : p ≤ L) (hq : L ≤ q) (hc : q ≤ c) (h : p < L ∨ q < c) : tkp N L p q c ≤ L ∧ L ≤ tkq N L p q c ∧ tkq N L p q c ≤ c ∧ tkp N L p q c + tkq N L p q c = p + q + 1 := by
  unfold tkp tkq tkc
  by_cases a : p < L
  · by_cases b : c ≤ q
    · simp [a, b]
      omega
    · by_cases d : N p ≤ N q
      · simp [a, d]
        omega
      · simp [b, d]
        omega
  · simp [a]
    omega
/-- the one that is taken is the least -/
theorem tk_min {N sy : Nat → Nat} {L p q c n : Nat} (h : p < L ∨ q < c) (hs : ∀ x y, x < y → y < L → N x < N y ∨ (N x = N y ∧ sy x < sy y)) (hj : ∀ x y, L ≤ x → x < y → y < c → N x ≤ N y) (hq : L ≤ q) (hn : ∀ x, x < L → sy x < n) (x : Nat) (hx : alv L p q c x) : N (tkx N L p q c) < N x ∨ (N (tkx N L p q c) = N x ∧ phi sy L n (tkx N L p q c) ≤ phi sy L n x) := by
  have e1 : ∀ x y, x ≤ y → y < L → N x < N y ∨ (N x = N y ∧ sy x ≤ sy y) := by
    intro x y h1 h2
    by_cases e : x = y
    · subst e
      exact Or.inr ⟨rfl, Nat.le_refl _⟩
    · rcases hs x y (by omega) h2 with g | ⟨g1, g2⟩
      · exact Or.inl g
      · exact Or.inr ⟨g1, by omega⟩
  have e2 : ∀ x y, L ≤ x → x ≤ y → y < c → N x ≤ N y := by
    intro x y h1 h2 h3
    by_cases e : x = y
    · subst e
      exact Nat.le_refl _
    · exact hj x y h1 (by omega) h3
  unfold alv at hx
  unfold tkx tkc phi
  by_cases a : p < L
  · by_cases b : c ≤ q
    · simp only [a, b, decide_true, Bool.true_or, Bool.and_self, if_true]
      rcases hx with ⟨h1, h2⟩ | ⟨h1, h2⟩
      · rw [if_pos h2]
        exact e1 p x h1 h2
      · omega
    · by_cases d : N p ≤ N q
      · simp only [a, d, decide_true, Bool.or_true, Bool.and_self, if_true]
        rcases hx with ⟨h1, h2⟩ | ⟨h1, h2⟩
        · rw [if_pos h2]
          exact e1 p x h1 h2
        · have := e2 q x hq h1 h2
          have := hn p a
          rw [if_neg (show ¬ x < L by omega)]
          omega
      · simp only [a, b, d, decide_true, decide_false, Bool.or_self, Bool.and_false, Bool.false_eq_true, if_false]
        rw [if_neg (show ¬ q < L by omega)]
        rcases hx with ⟨h1, h2⟩ | ⟨h1, h2⟩
        · rcases e1 p x h1 h2 with g | ⟨g, -⟩ <;> omega
        · have := e2 q x hq h1 h2
          rw [if_neg (show ¬ x < L by omega)]
          omega
  · simp only [a, decide_false, Bool.false_and, Bool.false_eq_true, if_false]
    rw [if_neg (show ¬ q < L by omega)]
    rcases hx with ⟨h1, h2⟩ | ⟨h1, h2⟩
    · omega
    · have := e2 q x hq h1 h2
      rw [if_neg (show ¬ x < L by omega)]
      omega
