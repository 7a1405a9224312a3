/-! full (class) = nothing left (model); words of a code, found bit by bit -/
theorem fu_nx (ws : List Nat) : ∀ w, (fu ws w = true) ↔ nx ws w = 2 ^ w
  | 0 => by simp [fu, nx]
  | w + 1 => by
    rw [fu]
    split
    · rw [decide_eq_true_eq]
    · rename_i h
      rw [fu_nx ws w, nx, Nat.pow_succ]
      omega
def kr (n : Nat) (ws : List Nat) : Nat := (ws.map (fun w => if 0 < w ∧ w ≤ n then 2 ^ (n - w) else 0)).sum
theorem kr_succ (n : Nat) : ∀ ws, kr (n + 1) ws = 2 * kr n ws + ws.count (n + 1)
  | [] => rfl
  | w :: ws => by
    have ih := kr_succ n ws
    unfold kr at ih ⊢
    rw [List.map_cons, List.sum_cons, List.map_cons, List.sum_cons, ih, List.count_cons]
    by_cases h1 : w = n + 1
    · rw [if_pos (by omega), if_neg (by omega), if_pos (by rw [h1]; exact beq_self_eq_true _), h1, Nat.sub_self]
      omega
    · rw [if_neg (c := (w == n + 1) = true) (by rw [beq_iff_eq]; exact h1)]
      by_cases h2 : 0 < w ∧ w ≤ n
      · rw [if_pos (by omega), if_pos h2, show n + 1 - w = (n - w) + 1 by omega, Nat.pow_succ]
        omega
      · rw [if_neg (by omega), if_neg h2]
        omega
theorem kr_nx (ws : List Nat) : ∀ n, kr n ws = nx ws n
  | 0 => by
    unfold kr
    rw [nx]
    induction ws with
    | nil => rfl
    | cons w ws ih =>
      rw [List.map_cons, List.sum_cons, ih, if_neg (by omega)]
  | n + 1 => by rw [kr_succ, kr_nx ws n, nx]
theorem sn_0 (ws : List Nat) : ∀ n, sn ws n = 0 → nx ws n = 0 ∧ gt ws n = 0
  | 0, _ => ⟨rfl, rfl⟩
  | n + 1, h => by
    rw [sn] at h
    have := sn_0 ws n (by omega)
    rw [nx, gt, if_neg (by omega)]
    exact ⟨by omega, this.2⟩
theorem sn_gt (ws : List Nat) : ∀ n, 0 < sn ws n → 1 ≤ gt ws n ∧ gt ws n ≤ n
  | 0, h => absurd h (by simp [sn])
  | n + 1, h => by
    rw [sn] at h
    rw [gt]
    split
    · omega
    · have := sn_gt ws n (by omega)
      omega
theorem sn_1 (ws : List Nat) : ∀ n, sn ws n = 1 → 1 ≤ gt ws n ∧ gt ws n ≤ n ∧ nx ws n = 2 ^ (n - gt ws n)
  | 0, h => absurd h (by simp [sn])
  | n + 1, h => by
    rw [sn] at h
    rw [nx, gt]
    split
    · have := sn_0 ws n (by omega)
      refine ⟨by omega, by omega, ?_⟩
      rw [this.1, Nat.sub_self]
      omega
    · have := sn_1 ws n (by omega)
      refine ⟨this.1, by omega, ?_⟩
      rw [this.2.2, show n + 1 - gt ws n = n - gt ws n + 1 by omega, Nat.pow_succ]
      omega
/-- DISTANCES' code, as both sides ask it -/
theorem fit_iff (ws : List Nat) : (fu ws 15 = true ∨ sn ws 15 = 0 ∨ (sn ws 15 = 1 ∧ gt ws 15 = 1)) ↔ (sn ws 15 = 0 ∨ nx ws 15 = 32768 ∨ (sn ws 15 = 1 ∧ nx ws 15 = 16384)) := by
  rw [fu_nx]
  constructor
  · rintro (h | h | ⟨h, g⟩)
    · exact Or.inr (Or.inl h)
    · exact Or.inl h
    · refine Or.inr (Or.inr ⟨h, ?_⟩)
      rw [(sn_1 ws 15 h).2.2, g]
  · rintro (h | h | ⟨h, g⟩)
    · exact Or.inr (Or.inl h)
    · exact Or.inl h
    · refine Or.inr (Or.inr ⟨h, ?_⟩)
      have a := sn_1 ws 15 h
      have hg : ∀ k, k ≤ 15 → 1 ≤ k → 2 ^ (15 - k) = 16384 → k = 1 := by decide
      exact hg _ a.2.1 a.1 (by rw [← a.2.2]; exact g)
/-- the n-th SYMBOL of width w -/
def nthF (ws : List Nat) (w : Nat) : Nat → Nat → Nat → Nat
  | 0, s, _ => s
  | d + 1, s, k => if ws.getD s 0 = w then (if k = 0 then s else nthF ws w d (s + 1) (k - 1)) else nthF ws w d (s + 1) k
theorem nthF_at (ws : List Nat) (w : Nat) : ∀ (d s k : Nat), s + d = ws.length → k < (ws.drop s).count w → nthF ws w d s k < ws.length ∧ ws.getD (nthF ws w d s k) 0 = w ∧ (ws.take (nthF ws w d s k)).count w = (ws.take s).count w + k
  | 0, s, k, hd, hk => by
    rw [List.drop_eq_nil_of_le (by omega)] at hk
    exact absurd hk (by simp)
  | d + 1, s, k, hd, hk => by
    have hs : s < ws.length := by omega
    have e1 : ws.drop s = ws.getD s 0 :: ws.drop (s + 1) := by rw [gdn hs]; exact List.drop_eq_getElem_cons hs
    have e2 : ws.take (s + 1) = ws.take s ++ [ws.getD s 0] := by rw [gdn hs, List.take_append_getElem]
    rw [e1, List.count_cons] at hk
    rw [nthF]
    by_cases hw : ws.getD s 0 = w
    · rw [if_pos hw]
      rw [if_pos (by rw [hw]; exact beq_self_eq_true w)] at hk
      by_cases h0 : k = 0
      · rw [if_pos h0, h0]
        exact ⟨hs, hw, rfl⟩
      · rw [if_neg h0]
        have := nthF_at ws w d (s + 1) (k - 1) (by omega) (by omega)
        refine ⟨this.1, this.2.1, ?_⟩
        rw [this.2.2, e2, List.count_append, hw, List.count_cons_self, List.count_nil]
        omega
    · rw [if_neg hw]
      rw [if_neg (by rw [beq_iff_eq]; exact hw)] at hk
      have := nthF_at ws w d (s + 1) k (by omega) (by omega)
      refine ⟨this.1, this.2.1, ?_⟩
      rw [this.2.2, e2, List.count_append, List.count_cons_of_ne hw, List.count_nil]
      omega
def nth (ws : List Nat) (w k : Nat) : Nat := nthF ws w ws.length 0 k
theorem nth_at {ws : List Nat} {w k : Nat} (hk : k < ws.count w) : nth ws w k < ws.length ∧ ws.getD (nth ws w k) 0 = w ∧ (ws.take (nth ws w k)).count w = k := by
  have := nthF_at ws w ws.length 0 k (by omega) (by rw [List.drop_zero]; exact hk)
  rw [List.take_zero, List.count_nil, Nat.zero_add] at this
  exact this
