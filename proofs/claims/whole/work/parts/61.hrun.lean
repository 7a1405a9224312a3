/-! the run of joins -/
def hS : Type := (Nat → Nat) × (Nat → Nat) × Nat × Nat × Nat
def jN (N : Nat → Nat) (c v : Nat) : Nat → Nat := fun x => if x = c then v else N x
def jQ (Q : Nat → Nat) (a b c : Nat) : Nat → Nat := fun x => if x = a ∨ x = b then c else Q x
def h_a (L : Nat) (S : hS) : Nat := tkx S.1 L S.2.2.1 S.2.2.2.1 S.2.2.2.2
def h_p (L : Nat) (S : hS) : Nat := tkp S.1 L S.2.2.1 S.2.2.2.1 S.2.2.2.2
def h_q (L : Nat) (S : hS) : Nat := tkq S.1 L S.2.2.1 S.2.2.2.1 S.2.2.2.2
def h_b (L : Nat) (S : hS) : Nat := tkx S.1 L (h_p L S) (h_q L S) S.2.2.2.2
def hstep (L : Nat) (S : hS) : hS := (jN S.1 S.2.2.2.2 (S.1 (h_a L S) + S.1 (h_b L S)), jQ S.2.1 (h_a L S) (h_b L S) S.2.2.2.2, tkp S.1 L (h_p L S) (h_q L S) S.2.2.2.2, tkq S.1 L (h_p L S) (h_q L S) S.2.2.2.2, S.2.2.2.2 + 1)
def hrun (L : Nat) (S : hS) : Nat → hS
  | 0 => S
  | j + 1 => hstep L (hrun L S j)
def sg (N : Nat → Nat) (lo hi : Nat) : Nat := ((List.range' lo (hi - lo)).map N).sum
theorem sg_nil {N : Nat → Nat} {lo hi : Nat} (h : hi ≤ lo) : sg N lo hi = 0 := by
  unfold sg
  rw [show hi - lo = 0 by omega]
  rfl
theorem sg_lo {N : Nat → Nat} {lo hi : Nat} (h : lo < hi) : sg N lo hi = N lo + sg N (lo + 1) hi := by
  unfold sg
  rw [show hi - lo = (hi - (lo + 1)) + 1 by omega, List.range'_succ, List.map_cons, List.sum_cons]
theorem sg_hi {N : Nat → Nat} {lo hi : Nat} (h : lo ≤ hi) : sg N lo (hi + 1) = sg N lo hi + N hi := by
  unfold sg
  rw [show hi + 1 - lo = (hi - lo) + 1 by omega, List.range'_concat, List.map_append, List.sum_append, show lo + 1 * (hi - lo) = hi by omega]
  simp
theorem sg_congr {N N2 : Nat → Nat} {lo hi : Nat} (h : ∀ x, lo ≤ x → x < hi → N x = N2 x) : sg N lo hi = sg N2 lo hi := by
  unfold sg
  congr 1
  refine List.map_congr_left (fun x hx => ?_)
  rw [List.mem_range'] at hx
  obtain ⟨i, hi, rfl⟩ := hx
  exact h _ (by omega) (by omega)
theorem tk_sum {N : Nat → Nat} {L p q c : Nat} (h : p < L ∨ q < c) : sg N p L + sg N q c = N (tkx N L p q c) + (sg N (tkp N L p q c) L + sg N (tkq N L p q c) c) := by
  unfold tkx tkp tkq
  by_cases hc : tkc N L p q c = true
  · have hp : p < L := by
      unfold tkc at hc
      simp at hc
      exact hc.1
    rw [if_pos hc, if_pos hc, if_pos hc, sg_lo hp]
    omega
  · have hq : q < c := by
      unfold tkc at hc
      simp at hc
      omega
    rw [if_neg hc, if_neg hc, if_neg hc, sg_lo hq]
    omega
/-- what holds behind j joins: T all numbers' sum, N0 the leaves' numbers -/
def HI (L T : Nat) (N0 : Nat → Nat) (j : Nat) (S : hS) : Prop := ∃ m, S.2.2.2.2 = L + j ∧ S.2.2.1 ≤ L ∧ L ≤ S.2.2.2.1 ∧ S.2.2.2.1 ≤ S.2.2.2.2 ∧ S.2.2.1 + S.2.2.2.1 = L + 2 * j ∧ (0 < j → S.2.2.2.1 < S.2.2.2.2) ∧
  (∀ x, x < L → S.1 x = N0 x) ∧ (∀ x y, L ≤ x → x < y → y < S.2.2.2.2 → S.1 x ≤ S.1 y) ∧
  (∀ x, alv L S.2.2.1 S.2.2.2.1 S.2.2.2.2 x → m ≤ S.1 x) ∧ (∀ x, L ≤ x → x < S.2.2.2.2 → S.1 x ≤ 2 * m) ∧ (∀ x, x < S.2.2.2.2 → ¬ alv L S.2.2.1 S.2.2.2.1 S.2.2.2.2 x → S.1 x ≤ m) ∧
  (∀ x, x < S.2.2.2.2 → 1 ≤ S.1 x) ∧ (∀ x, x < S.2.2.2.2 → ¬ alv L S.2.2.1 S.2.2.2.1 S.2.2.2.2 x → x < S.2.1 x ∧ L ≤ S.2.1 x ∧ S.2.1 x < S.2.2.2.2 ∧ S.1 x + 1 ≤ S.1 (S.2.1 x)) ∧
  (∀ x, x < S.2.2.2.2 → ¬ alv L S.2.2.1 S.2.2.2.1 S.2.2.2.2 x → ¬ alv L S.2.2.1 S.2.2.2.1 S.2.2.2.2 (S.2.1 x) → S.1 (S.2.1 x) + S.1 x ≤ S.1 (S.2.1 (S.2.1 x))) ∧
  sg S.1 S.2.2.1 L + sg S.1 S.2.2.2.1 S.2.2.2.2 = T
theorem HI_0 {L : Nat} {N0 Q0 : Nat → Nat} (hs : ∀ x y, x < y → y < L → N0 x ≤ N0 y) (h1 : ∀ x, x < L → 1 ≤ N0 x) : HI L (sg N0 0 L) N0 0 (N0, Q0, 0, L, L) := by
  refine ⟨0, rfl, Nat.zero_le _, Nat.le_refl _, Nat.le_refl _, by show 0 + L = _; omega, fun h => absurd h (Nat.lt_irrefl 0), fun x _ => rfl, fun x y a b c => ?_, fun x _ => Nat.zero_le _, fun x a b => ?_, fun x a b => ?_, h1, fun x a b => ?_, fun x a b => ?_, ?_⟩
  · simp only at c
    omega
  · simp only at b
    omega
  · simp only [alv] at a b
    omega
  · simp only [alv] at a b
    omega
  · simp only [alv] at a b
    omega
  · show sg N0 0 L + sg N0 L L = _
    rw [sg_nil (Nat.le_refl L)]
    rfl
theorem jN_ne {N : Nat → Nat} {c v x : Nat} (h : ¬ x = c) : jN N c v x = N x := if_neg h
theorem jN_at {N : Nat → Nat} {c v : Nat} : jN N c v c = v := if_pos rfl
theorem jQ_ne {Q : Nat → Nat} {a b c x : Nat} (h1 : ¬ x = a) (h2 : ¬ x = b) : jQ Q a b c x = Q x := if_neg (fun h => h.elim h1 h2)
theorem jQ_a {Q : Nat → Nat} {a b c : Nat} : jQ Q a b c a = c := if_pos (Or.inl rfl)
theorem jQ_b {Q : Nat → Nat} {a b c : Nat} : jQ Q a b c b = c := if_pos (Or.inr rfl)
theorem HI_step {L T : Nat} {N0 : Nat → Nat} {sy : Nat → Nat} {j n : Nat} {S : hS} (hs : ∀ x y, x < y → y < L → N0 x < N0 y ∨ (N0 x = N0 y ∧ sy x < sy y)) (hn : ∀ x, x < L → sy x < n) (H : HI L T N0 j S) (hj : j + 1 < L) : HI L T N0 (j + 1) (hstep L S) := by
  obtain ⟨N, Q, p, q, c⟩ := S
  obtain ⟨m, e1, e2, e3, e4, e5, e6, hN, hsj, hal, hj2, hde, hpos, hQ, hgr, hsum⟩ := H
  simp only at e1 e2 e3 e4 e5 e6 hN hsj hal hj2 hde hpos hQ hgr hsum
  have hs1 : ∀ x y, x < y → y < L → N x < N y ∨ (N x = N y ∧ sy x < sy y) := fun x y a b => by rw [hN x (by omega), hN y b]; exact hs x y a b
  have l1 : p < L ∨ q < c := by omega
  have A1 := tk_alv (N := N) l1
  have R1 := tk_rest (N := N) e3 l1
  have P1 := tk_pq (N := N) e2 e3 e4 l1
  have M1 : ∀ x, alv L p q c x → N (tkx N L p q c) ≤ N x := fun x hx => by
    rcases tk_min l1 hs1 hsj e3 hn x hx with g | ⟨g, -⟩ <;> omega
  have G1 := tk_sum (N := N) l1
  show HI L T N0 (j + 1) (jN N c (N (tkx N L p q c) + N (tkx N L (tkp N L p q c) (tkq N L p q c) c)), jQ Q (tkx N L p q c) (tkx N L (tkp N L p q c) (tkq N L p q c) c) c, tkp N L (tkp N L p q c) (tkq N L p q c) c, tkq N L (tkp N L p q c) (tkq N L p q c) c, c + 1)
  generalize tkx N L p q c = a at *
  generalize tkp N L p q c = p1 at *
  generalize tkq N L p q c = q1 at *
  obtain ⟨P11, P12, P13, P14⟩ := P1
  have l2 : p1 < L ∨ q1 < c := by omega
  have A2 := tk_alv (N := N) l2
  have R2 := tk_rest (N := N) P12 l2
  have P2 := tk_pq (N := N) P11 P12 P13 l2
  have M2 : ∀ x, alv L p1 q1 c x → N (tkx N L p1 q1 c) ≤ N x := fun x hx => by
    rcases tk_min l2 hs1 hsj P12 hn x hx with g | ⟨g, -⟩ <;> omega
  have G2 := tk_sum (N := N) l2
  generalize tkx N L p1 q1 c = b at *
  generalize tkp N L p1 q1 c = p2 at *
  generalize tkq N L p1 q1 c = q2 at *
  obtain ⟨P21, P22, P23, P24⟩ := P2
  have B1 := (R1 b).mp A2
  have ma := hal a A1
  have mb := hal b B1.1
  have hab := M1 b B1.1
  have ac : a < c := by unfold alv at A1; omega
  have bc : b < c := by unfold alv at A2; omega
  have new : ∀ x, x < c + 1 → ¬ alv L p2 q2 (c + 1) x → x < c ∧ (x = a ∨ x = b ∨ ¬ alv L p q c x) := by
    intro x h1 h2
    have hxc : ¬ x = c := fun e => h2 (Or.inr ⟨by omega, by omega⟩)
    refine ⟨by omega, ?_⟩
    by_cases ea : x = a
    · exact Or.inl ea
    · by_cases eb : x = b
      · exact Or.inr (Or.inl eb)
      · refine Or.inr (Or.inr (fun h3 => h2 ?_))
        have := (R2 x).mpr ⟨(R1 x).mpr ⟨h3, ea⟩, eb⟩
        unfold alv at this ⊢
        omega
  have old : ∀ x, alv L p2 q2 (c + 1) x → ¬ x = c → alv L p1 q1 c x := by
    intro x h1 h2
    refine ((R2 x).mp ?_).1
    unfold alv at h1 ⊢
    omega
  have calv : alv L p2 q2 (c + 1) c := Or.inr ⟨P23, by omega⟩
  refine ⟨N b, by show c + 1 = _; omega, P21, P22, by show q2 ≤ c + 1; omega, by show p2 + q2 = _; omega, fun _ => by show q2 < c + 1; omega, ?_, ?_, ?_, ?_, ?_, ?_, ?_, ?_, ?_⟩
  · intro x hx
    show jN N c _ x = _
    rw [jN_ne (by omega)]
    exact hN x hx
  · intro x y h1 h2 h3
    show jN N c _ x ≤ jN N c _ y
    have h3 : y < c + 1 := h3
    rw [jN_ne (show ¬ x = c by omega)]
    by_cases ey : y = c
    · rw [ey, jN_at]
      have := hj2 x h1 (by omega)
      omega
    · rw [jN_ne ey]
      exact hsj x y h1 h2 (by omega)
  · intro x hx
    show _ ≤ jN N c _ x
    by_cases ex : x = c
    · rw [ex, jN_at]
      omega
    · rw [jN_ne ex]
      exact M2 x (old x hx ex)
  · intro x h1 h2
    show jN N c _ x ≤ _
    have h2 : x < c + 1 := h2
    by_cases ex : x = c
    · rw [ex, jN_at]
      omega
    · rw [jN_ne ex]
      have := hj2 x h1 (by omega)
      omega
  · intro x h1 h2
    obtain ⟨h3, h4⟩ := new x h1 h2
    show jN N c _ x ≤ _
    rw [jN_ne (by omega)]
    rcases h4 with rfl | rfl | h4
    · exact hab
    · exact Nat.le_refl _
    · have := hde x h3 h4
      omega
  · intro x h1
    show 1 ≤ jN N c _ x
    have h1 : x < c + 1 := h1
    by_cases ex : x = c
    · rw [ex, jN_at]
      have := hpos a ac
      omega
    · rw [jN_ne ex]
      exact hpos x (by omega)
  · intro x h1 h2
    obtain ⟨h3, h4⟩ := new x h1 h2
    show x < jQ Q a b c x ∧ L ≤ jQ Q a b c x ∧ jQ Q a b c x < c + 1 ∧ jN N c (N a + N b) x + 1 ≤ jN N c (N a + N b) (jQ Q a b c x)
    rw [jN_ne (show ¬ x = c by omega)]
    have q1 := hpos a ac
    have q2 := hpos b bc
    by_cases ea : x = a
    · subst ea
      rw [jQ_a, jN_at]
      omega
    · by_cases eb : x = b
      · subst eb
        rw [jQ_b, jN_at]
        omega
      · rw [jQ_ne ea eb]
        have h5 : ¬ alv L p q c x := by
          rcases h4 with h4 | h4 | h4
          · exact absurd h4 ea
          · exact absurd h4 eb
          · exact h4
        obtain ⟨g1, g2, g3, g4⟩ := hQ x h3 h5
        rw [jN_ne (show ¬ Q x = c by omega)]
        omega
  · intro x h1 h2 h6
    obtain ⟨h3, h4⟩ := new x h1 h2
    show jN N c (N a + N b) (jQ Q a b c x) + jN N c (N a + N b) x ≤ jN N c (N a + N b) (jQ Q a b c (jQ Q a b c x))
    change ¬ alv L p2 q2 (c + 1) (jQ Q a b c x) at h6
    by_cases ea : x = a
    · subst ea
      rw [jQ_a] at h6
      exact absurd calv h6
    · by_cases eb : x = b
      · subst eb
        rw [jQ_b] at h6
        exact absurd calv h6
      · have h5 : ¬ alv L p q c x := by
          rcases h4 with h4 | h4 | h4
          · exact absurd h4 ea
          · exact absurd h4 eb
          · exact h4
        rw [jQ_ne ea eb] at h6 ⊢
        obtain ⟨g1, g2, g3, g4⟩ := hQ x h3 h5
        obtain ⟨h7, h8⟩ := new (Q x) (by omega) h6
        have hx := hde x h3 h5
        rw [jN_ne (show ¬ Q x = c by omega), jN_ne (show ¬ x = c by omega)]
        by_cases fa : Q x = a
        · rw [fa, jQ_a, jN_at]
          omega
        · by_cases fb : Q x = b
          · rw [fb, jQ_b, jN_at]
            omega
          · have h9 : ¬ alv L p q c (Q x) := by
              rcases h8 with h8 | h8 | h8
              · exact absurd h8 fa
              · exact absurd h8 fb
              · exact h8
            rw [jQ_ne fa fb]
            have := hQ (Q x) h7 h9
            rw [jN_ne (show ¬ Q (Q x) = c by omega)]
            exact hgr x h3 h5 h9
  · show sg (jN N c _) p2 L + sg (jN N c _) q2 (c + 1) = T
    rw [sg_hi P23, jN_at, sg_congr (N := jN N c _) (N2 := N) (fun x _ h => jN_ne (by omega)), sg_congr (N := jN N c _) (N2 := N) (lo := q2) (fun x _ h => jN_ne (by omega))]
    omega
theorem HI_run {L T : Nat} {N0 sy : Nat → Nat} {n : Nat} {S : hS} (hs : ∀ x y, x < y → y < L → N0 x < N0 y ∨ (N0 x = N0 y ∧ sy x < sy y)) (hn : ∀ x, x < L → sy x < n) (H : HI L T N0 0 S) : ∀ j, j + 1 ≤ L → HI L T N0 j (hrun L S j)
  | 0, _ => H
  | j + 1, h => HI_step hs hn (HI_run hs hn H j (by omega)) (by omega)
/-! depths -/
def dp (Q : Nat → Nat) (r : Nat) : Nat → Nat → Nat
  | 0, _ => 0
  | f + 1, x => if x = r then 0 else dp Q r f (Q x) + 1
theorem dp_f {Q : Nat → Nat} {r : Nat} (hQ : ∀ y, y < r → y < Q y ∧ Q y ≤ r) : ∀ (f g x : Nat), x ≤ r → r - x ≤ f → r - x ≤ g → dp Q r f x = dp Q r g x
  | 0, 0, x, _, _, _ => rfl
  | 0, g + 1, x, h1, h2, _ => by
    rw [dp, dp, if_pos (by omega)]
  | f + 1, 0, x, h1, _, h2 => by
    rw [dp, dp, if_pos (by omega)]
  | f + 1, g + 1, x, h1, h2, h3 => by
    rw [dp, dp]
    split
    · rfl
    · have := hQ x (by omega)
      rw [dp_f hQ f g (Q x) (by omega) (by omega) (by omega)]
/-- the depth of x below the root r -/
def dep (Q : Nat → Nat) (r x : Nat) : Nat := dp Q r r x
theorem dep_r {Q : Nat → Nat} {r : Nat} : dep Q r r = 0 := by
  unfold dep
  cases r with
  | zero => rfl
  | succ r => rw [dp, if_pos rfl]
theorem dep_s {Q : Nat → Nat} {r x : Nat} (hQ : ∀ y, y < r → y < Q y ∧ Q y ≤ r) (hx : x < r) : dep Q r x = dep Q r (Q x) + 1 := by
  unfold dep
  have := hQ x hx
  rw [dp_f hQ r (r + 1) x (by omega) (by omega) (by omega), dp, if_neg (by omega)]
def fib : Nat → Nat
  | 0 => 0
  | 1 => 1
  | n + 2 => fib n + fib (n + 1)
theorem fib_le (n : Nat) : fib n ≤ fib (n + 1) := by
  match n with
  | 0 => decide
  | 1 => decide
  | n + 2 =>
    rw [show fib (n + 2 + 1) = fib (n + 1) + fib (n + 2) from rfl]
    omega
theorem fib_mono {a : Nat} : ∀ d, fib a ≤ fib (a + d)
  | 0 => Nat.le_refl _
  | d + 1 => Nat.le_trans (fib_mono d) (fib_le (a + d))
theorem fib_low {Q N : Nat → Nat} {r : Nat} (hQ : ∀ y, y < r → y < Q y ∧ Q y ≤ r) (hg : ∀ x, x < r → Q x < r → N (Q x) + N x ≤ N (Q (Q x))) : ∀ d x, x < r → dep Q r x = d + 1 → fib (d + 1) * N (Q x) + fib d * N x ≤ N r := by
  intro d
  induction d with
  | zero =>
    intro x hx hd
    rw [dep_s hQ hx] at hd
    have hq := hQ x hx
    by_cases e : Q x = r
    · rw [e]
      simp [fib]
    · rw [dep_s hQ (show Q x < r by omega)] at hd
      omega
  | succ d ih =>
    intro x hx hd
    have hq := hQ x hx
    rw [dep_s hQ hx] at hd
    have hqr : Q x < r := by
      by_cases e : Q x = r
      · rw [e, dep_r] at hd
        omega
      · omega
    have h1 := ih (Q x) hqr (by omega)
    have h2 := Nat.mul_le_mul_left (fib (d + 1)) (hg x hx hqr)
    rw [Nat.mul_add] at h2
    rw [show fib (d + 1 + 1) = fib d + fib (d + 1) from rfl, Nat.add_mul]
    omega
theorem dep_fib {Q N : Nat → Nat} {r : Nat} (hQ : ∀ y, y < r → y < Q y ∧ Q y ≤ r) (hg : ∀ x, x < r → Q x < r → N (Q x) + N x ≤ N (Q (Q x))) (h1 : ∀ x, x < r → 1 ≤ N x ∧ 2 ≤ N (Q x)) {x : Nat} (hx : x < r) : fib (dep Q r x + 2) ≤ N r := by
  obtain ⟨d, hd⟩ : ∃ d, dep Q r x = d + 1 := ⟨_, dep_s hQ hx⟩
  have h2 := fib_low hQ hg d x hx hd
  obtain ⟨h3, h4⟩ := h1 x hx
  have h5 := Nat.mul_le_mul_left (fib (d + 1)) h4
  have h6 := Nat.mul_le_mul_left (fib d) h3
  rw [hd, show fib (d + 1 + 2) = fib (d + 1) + fib (d + 1 + 1) from rfl, show fib (d + 1 + 1) = fib d + fib (d + 1) from rfl]
  omega
theorem dep_le {Q N : Nat → Nat} {r k : Nat} (hQ : ∀ y, y < r → y < Q y ∧ Q y ≤ r) (hg : ∀ x, x < r → Q x < r → N (Q x) + N x ≤ N (Q (Q x))) (h1 : ∀ x, x < r → 1 ≤ N x ∧ 2 ≤ N (Q x)) (hk : N r < fib (k + 3)) {x : Nat} (hx : x ≤ r) : dep Q r x ≤ k := by
  by_cases e : x = r
  · rw [e, dep_r]
    exact Nat.zero_le _
  · have h2 := dep_fib hQ hg h1 (show x < r by omega)
    rcases Nat.lt_or_ge k (dep Q r x) with h | h
    · have := fib_mono (a := k + 3) (dep Q r x + 2 - (k + 3))
      rw [show k + 3 + (dep Q r x + 2 - (k + 3)) = dep Q r x + 2 by omega] at this
      omega
    · exact h
