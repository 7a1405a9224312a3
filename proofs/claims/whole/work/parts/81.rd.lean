/-! reading: functions of THE TAPE's bits and of (place, fault) -/
abbrev Rd := Nat × Nat
def rb (B : List Bool) (s : Rd) : Nat × Rd := if s.2 = 0 then (if s.1 < B.length then ((if B.getD s.1 false = true then 1 else 0), (s.1 + 1, 0)) else (0, (s.1, 1))) else (0, s)
def rf (B : List Bool) : Nat → Nat → Nat → Rd → Nat × Rd
  | 0, _, v, s => (v, s)
  | d + 1, k, v, s => rf B d (k + 1) (v + (rb B s).1 * 2 ^ k) (rb B s).2
def rdF (B : List Bool) (w : Nat) (s : Rd) : Nat × Rd := rf B w 0 0 s
def fl (n : Nat) (s : Rd) : Rd := if s.2 = 0 then (s.1, n) else s
def okR (B : List Bool) (s : Rd) : Prop := s.1 ≤ B.length ∧ s.2 ≤ 15
theorem rb_f {B : List Bool} {s : Rd} (h : ¬ s.2 = 0) : rb B s = (0, s) := if_neg h
theorem rf_f {B : List Bool} {s : Rd} (h : ¬ s.2 = 0) : ∀ d k v, rf B d k v s = (v, s)
  | 0, _, _ => rfl
  | d + 1, k, v => by
    rw [rf, rb_f h, rf_f h d]
    simp
theorem rdF_f {B : List Bool} {s : Rd} {w : Nat} (h : ¬ s.2 = 0) : rdF B w s = (0, s) := rf_f h w 0 0
theorem fl_f {s : Rd} {n : Nat} (h : ¬ s.2 = 0) : fl n s = s := if_neg h
theorem fl_0 {s : Rd} {n : Nat} (h : s.2 = 0) : fl n s = (s.1, n) := if_pos h
theorem fl_1 {s : Rd} {n : Nat} : (fl n s).1 = s.1 := by unfold fl; split <;> rfl
theorem fl_ne {s : Rd} {n : Nat} (h : ¬ n = 0) : ¬ (fl n s).2 = 0 := by
  unfold fl
  split
  · exact h
  · assumption
theorem rb_b {B : List Bool} {s : Rd} : (rb B s).1 ≤ 1 := by
  unfold rb
  split
  · split
    · simp only
      split <;> omega
    · exact Nat.zero_le _
  · exact Nat.zero_le _
theorem rb_ok {B : List Bool} {s : Rd} (h : okR B s) : okR B (rb B s).2 ∧ s.1 ≤ (rb B s).2.1 := by
  unfold okR at h ⊢
  unfold rb
  split
  · split
    · simp only
      omega
    · simp only
      omega
  · simp only
    omega
theorem rb_0 {B : List Bool} {s : Rd} (h : (rb B s).2.2 = 0) : s.2 = 0 ∧ (rb B s).2.1 = s.1 + 1 ∧ s.1 < B.length := by
  unfold rb at h ⊢
  by_cases q : s.2 = 0
  · rw [if_pos q] at h ⊢
    by_cases q2 : s.1 < B.length
    · rw [if_pos q2]
      exact ⟨q, rfl, q2⟩
    · rw [if_neg q2] at h
      simp at h
  · rw [if_neg q] at h
    exact absurd h q
theorem rf_ok {B : List Bool} : ∀ d k v s, okR B s → okR B (rf B d k v s).2 ∧ s.1 ≤ (rf B d k v s).2.1
  | 0, _, _, s, h => ⟨h, Nat.le_refl _⟩
  | d + 1, k, v, s, h => by
    have a := rb_ok h
    have b := rf_ok d (k + 1) (v + (rb B s).1 * 2 ^ k) _ a.1
    rw [rf]
    exact ⟨b.1, Nat.le_trans a.2 b.2⟩
theorem rf_0 {B : List Bool} : ∀ d k v s, (rf B d k v s).2.2 = 0 → s.2 = 0 ∧ (rf B d k v s).2.1 = s.1 + d
  | 0, _, _, s, h => ⟨h, rfl⟩
  | d + 1, k, v, s, h => by
    rw [rf] at h ⊢
    have a := rf_0 d (k + 1) _ _ h
    have b := rb_0 a.1
    exact ⟨b.1, by omega⟩
theorem rf_lt {B : List Bool} : ∀ d k v s, v < 2 ^ k → (rf B d k v s).1 < 2 ^ (k + d)
  | 0, _, _, _, h => h
  | d + 1, k, v, s, h => by
    rw [rf, show k + (d + 1) = k + 1 + d by omega]
    refine rf_lt d (k + 1) _ _ ?_
    have b := @rb_b B s
    have : (rb B s).1 * 2 ^ k ≤ 1 * 2 ^ k := Nat.mul_le_mul_right _ b
    rw [Nat.pow_succ]
    omega
theorem rdF_ok {B : List Bool} {w : Nat} {s : Rd} (h : okR B s) : okR B (rdF B w s).2 ∧ s.1 ≤ (rdF B w s).2.1 := rf_ok w 0 0 s h
theorem rdF_0 {B : List Bool} {w : Nat} {s : Rd} (h : (rdF B w s).2.2 = 0) : s.2 = 0 ∧ (rdF B w s).2.1 = s.1 + w := rf_0 w 0 0 s h
theorem rdF_lt {B : List Bool} {w : Nat} {s : Rd} : (rdF B w s).1 < 2 ^ w := by
  have := rf_lt (B := B) w 0 0 s (by decide)
  rw [Nat.zero_add] at this
  exact this
theorem fl_ok {B : List Bool} {s : Rd} {n : Nat} (h : okR B s) (hn : n ≤ 15) : okR B (fl n s) ∧ s.1 ≤ (fl n s).1 := by
  unfold okR at h ⊢
  unfold fl
  split
  · simp only
    omega
  · omega
/-! words -/
def symF (B : List Bool) (ws : List Nat) : Nat → Nat → Nat → Rd → Nat × Rd
  | 0, _, _, s => (0, fl 9 s)
  | d + 1, w, c, s => if s.2 = 0 then (if (rb B s).2.2 = 0 ∧ 2 * c + (rb B s).1 < 2 * nx ws (w - 1) + ws.count w then (nth ws w (2 * c + (rb B s).1 - 2 * nx ws (w - 1)), (rb B s).2) else symF B ws d (w + 1) (2 * c + (rb B s).1) (rb B s).2) else (0, s)
def sym (B : List Bool) (ws : List Nat) (s : Rd) : Nat × Rd := symF B ws (gt ws 15) 1 0 s
theorem symF_f {B : List Bool} {ws : List Nat} {s : Rd} {d w c : Nat} (h : ¬ s.2 = 0) : symF B ws d w c s = (0, s) := by
  cases d with
  | zero => rw [symF, fl_f h]
  | succ d => rw [symF, if_neg h]
theorem sym_f {B : List Bool} {ws : List Nat} {s : Rd} (h : ¬ s.2 = 0) : sym B ws s = (0, s) := symF_f h
theorem symF_ok {B : List Bool} {ws : List Nat} : ∀ d w c s, okR B s → okR B (symF B ws d w c s).2 ∧ s.1 ≤ (symF B ws d w c s).2.1
  | 0, _, _, s, h => fl_ok h (by decide)
  | d + 1, w, c, s, h => by
    rw [symF]
    have a := rb_ok h
    split
    · split
      · exact a
      · have b := symF_ok (ws := ws) d (w + 1) (2 * c + (rb B s).1) _ a.1
        exact ⟨b.1, Nat.le_trans a.2 b.2⟩
    · exact ⟨h, Nat.le_refl _⟩
theorem symF_0 {B : List Bool} {ws : List Nat} : ∀ d w c s, 1 ≤ w → 2 * nx ws (w - 1) ≤ 2 * c → (symF B ws d w c s).2.2 = 0 → s.2 = 0 ∧ (symF B ws d w c s).1 < ws.length ∧ ∃ v, w ≤ v ∧ v < w + d ∧ 0 < ws.count v ∧ (symF B ws d w c s).2.1 + w = s.1 + v + 1
  | 0, _, _, s, _, _, h => absurd h (fl_ne (by decide))
  | d + 1, w, c, s, hw, hc, h => by
    rw [symF] at h ⊢
    by_cases q : s.2 = 0
    · rw [if_pos q] at h ⊢
      by_cases q2 : (rb B s).2.2 = 0 ∧ 2 * c + (rb B s).1 < 2 * nx ws (w - 1) + ws.count w
      · rw [if_pos q2] at h ⊢
        have r := rb_0 q2.1
        have n := nth_at (ws := ws) (w := w) (k := 2 * c + (rb B s).1 - 2 * nx ws (w - 1)) (by omega)
        exact ⟨q, n.1, w, Nat.le_refl _, by omega, by omega, by simp only; omega⟩
      · rw [if_neg q2] at h ⊢
        by_cases q3 : (rb B s).2.2 = 0
        · have r := rb_0 q3
          have e : nx ws (w + 1 - 1) = 2 * nx ws (w - 1) + ws.count w := by
            rw [Nat.add_sub_cancel]
            obtain ⟨u, rfl⟩ : ∃ u, w = u + 1 := ⟨w - 1, by omega⟩
            rw [nx, Nat.add_sub_cancel]
          have ih := symF_0 d (w + 1) (2 * c + (rb B s).1) (rb B s).2 (by omega) (by rw [e]; omega) h
          obtain ⟨_, i2, v, v1, v2, v3, v4⟩ := ih
          exact ⟨q, i2, v, by omega, by omega, v3, by omega⟩
        · rw [symF_f q3] at h
          exact absurd h q3
    · rw [if_neg q] at h
      exact absurd h q
theorem sym_ok {B : List Bool} {ws : List Nat} {s : Rd} (h : okR B s) : okR B (sym B ws s).2 ∧ s.1 ≤ (sym B ws s).2.1 := symF_ok _ _ _ s h
theorem sym_0 {B : List Bool} {ws : List Nat} {s : Rd} (h : (sym B ws s).2.2 = 0) : s.2 = 0 ∧ (sym B ws s).1 < ws.length ∧ ∃ v, 1 ≤ v ∧ v ≤ 15 ∧ 0 < ws.count v ∧ (sym B ws s).2.1 = s.1 + v := by
  have a := symF_0 (gt ws 15) 1 0 s (Nat.le_refl _) (by simp [nx]) h
  have g : gt ws 15 ≤ 15 := by
    have : ∀ n, gt ws n ≤ n := by
      intro n
      induction n with
      | zero => exact Nat.le_refl 0
      | succ n ih =>
        rw [gt]
        split <;> omega
    exact this 15
  obtain ⟨a1, a2, v, v1, v2, v3, v4⟩ := a
  refine ⟨a1, a2, v, v1, by omega, v3, ?_⟩
  show (symF B ws (gt ws 15) 1 0 s).2.1 = _
  omega
/-! zeros behind widths -/
theorem gt_z {ws : List Nat} {k : Nat} : ∀ n, gt (ws ++ List.replicate k 0) n = gt ws n
  | 0 => rfl
  | n + 1 => by rw [gt, gt, count_z (by omega), gt_z n]
theorem sn_z {ws : List Nat} {k : Nat} : ∀ n, sn (ws ++ List.replicate k 0) n = sn ws n
  | 0 => rfl
  | n + 1 => by rw [sn, sn, count_z (by omega), sn_z n]
theorem nth_u {ws : List Nat} {w x y : Nat} (hx : x < ws.length ∧ ws.getD x 0 = w) (hy : y < ws.length ∧ ws.getD y 0 = w) (e : (ws.take x).count w = (ws.take y).count w) : x = y := by
  have key : ∀ x y, x < y → y < ws.length → ws.getD x 0 = w → (ws.take x).count w < (ws.take y).count w := by
    intro x y hxy hy hx
    have e1 : ws.take y = ws.take x ++ ((ws.drop x).take (y - x)) := by
      rw [show y = x + (y - x) by omega, List.take_add, show x + (y - x) - x = y - x by omega]
    have e2 : ws.drop x = ws.getD x 0 :: ws.drop (x + 1) := by rw [gdn (by omega)]; exact List.drop_eq_getElem_cons (by omega)
    rw [e1, List.count_append, e2, show y - x = (y - x - 1) + 1 by omega, List.take_succ_cons, hx, List.count_cons_self]
    omega
  rcases Nat.lt_trichotomy x y with h | h | h
  · have := key x y h hy.1 hx.2
    omega
  · exact h
  · have := key y x h hx.1 hy.2
    omega
theorem nth_z {ws : List Nat} {k w j : Nat} (hw : 0 < w) (hj : j < ws.count w) : nth (ws ++ List.replicate k 0) w j = nth ws w j := by
  have a := nth_at hj
  have b := nth_at (ws := ws ++ List.replicate k 0) (w := w) (k := j) (by rw [count_z hw]; exact hj)
  refine nth_u (ws := ws ++ List.replicate k 0) ⟨b.1, b.2.1⟩ ⟨by rw [List.length_append]; omega, by rw [gd_z]; exact a.2.1⟩ ?_
  rw [b.2.2, List.take_append_of_le_length (by omega), a.2.2]
theorem symF_z {B : List Bool} {ws : List Nat} {k : Nat} : ∀ d w c s, 1 ≤ w → 2 * nx ws (w - 1) ≤ 2 * c → symF B (ws ++ List.replicate k 0) d w c s = symF B ws d w c s
  | 0, _, _, _, _, _ => rfl
  | d + 1, w, c, s, hw, hc => by
    rw [symF, symF, nx_z, count_z (by omega)]
    by_cases q : s.2 = 0
    · rw [if_pos q, if_pos q]
      by_cases q2 : (rb B s).2.2 = 0 ∧ 2 * c + (rb B s).1 < 2 * nx ws (w - 1) + ws.count w
      · rw [if_pos q2, if_pos q2, nth_z (by omega) (by omega)]
      · rw [if_neg q2, if_neg q2]
        by_cases q3 : (rb B s).2.2 = 0
        · refine symF_z d (w + 1) _ _ (by omega) ?_
          obtain ⟨u, rfl⟩ : ∃ u, w = u + 1 := ⟨w - 1, by omega⟩
          rw [Nat.add_sub_cancel] at q2 ⊢
          rw [nx]
          omega
        · rw [symF_f q3, symF_f q3]
    · rw [if_neg q, if_neg q]
theorem sym_z {B : List Bool} {ws : List Nat} {k : Nat} {s : Rd} : sym B (ws ++ List.replicate k 0) s = sym B ws s := by
  unfold sym
  rw [gt_z, symF_z _ _ _ _ (Nat.le_refl _) (by simp [nx])]
/-- a CODE that may be read by -/
abbrev gcd (ws : List Nat) : Prop := nx ws 15 = 32768 ∨ sn ws 15 = 0 ∨ (sn ws 15 = 1 ∧ gt ws 15 = 1)
/-! bytes that come -/
def cm (v : Nat) (x : List Nat × Rd) : List Nat × Rd := if x.2.2 = 0 then (if x.1.length = 300 then (x.1, fl 11 x.2) else (x.1 ++ [v], x.2)) else x
def plF (B : List Bool) : Nat → List Nat × Rd → List Nat × Rd
  | 0, x => x
  | d + 1, x => if x.2.2 = 0 then plF B d (cm (rdF B 8 x.2).1 (x.1, (rdF B 8 x.2).2)) else x
def alg (s : Rd) : Rd := if s.2 = 0 then (s.1 + pad s.1, s.2) else s
/-- KIND 0 -/
def rPl (B : List Bool) (x : List Nat × Rd) : List Nat × Rd :=
  plF B (rdF B 16 (alg x.2)).1 (x.1, if (rdF B 16 (rdF B 16 (alg x.2)).2).1 + (rdF B 16 (alg x.2)).1 = 65535 then (rdF B 16 (rdF B 16 (alg x.2)).2).2 else fl 3 (rdF B 16 (rdF B 16 (alg x.2)).2).2)
def cpF (far : Nat) : Nat → List Nat × Rd → List Nat × Rd
  | 0, x => x
  | d + 1, x => if x.2.2 = 0 then cpF far d (cm (x.1.getD (x.1.length - far) 0) x) else x
/-- a REPEAT with the SYMBOL 257 + i -/
def stR (B : List Bool) (ds : List Nat) (i : Nat) (x : List Nat × Rd) : List Nat × Rd :=
  if (sym B ds (rdF B (lbN i) x.2).2).2.2 = 0 then
    (if 29 < (sym B ds (rdF B (lbN i) x.2).2).1 then (x.1, fl 9 (sym B ds (rdF B (lbN i) x.2).2).2)
    else cpF (DB.getD (sym B ds (rdF B (lbN i) x.2).2).1 0 + (rdF B (dbN (sym B ds (rdF B (lbN i) x.2).2).1) (sym B ds (rdF B (lbN i) x.2).2).2).1) (LB.getD i 0 + (rdF B (lbN i) x.2).1) (x.1, if x.1.length < DB.getD (sym B ds (rdF B (lbN i) x.2).2).1 0 + (rdF B (dbN (sym B ds (rdF B (lbN i) x.2).2).1) (sym B ds (rdF B (lbN i) x.2).2).2).1 then fl 10 (rdF B (dbN (sym B ds (rdF B (lbN i) x.2).2).1) (sym B ds (rdF B (lbN i) x.2).2).2).2 else (rdF B (dbN (sym B ds (rdF B (lbN i) x.2).2).1) (sym B ds (rdF B (lbN i) x.2).2).2).2))
  else (x.1, (sym B ds (rdF B (lbN i) x.2).2).2)
def spF (B : List Bool) (ws ds : List Nat) : Nat → List Nat × Rd → List Nat × Rd
  | 0, x => x
  | d + 1, x => if x.2.2 = 0 then (if (sym B ws x.2).2.2 = 0 then (if (sym B ws x.2).1 = 256 then (x.1, (sym B ws x.2).2) else if (sym B ws x.2).1 < 256 then spF B ws ds d (cm (sym B ws x.2).1 (x.1, (sym B ws x.2).2)) else if 285 < (sym B ws x.2).1 then (x.1, fl 9 (sym B ws x.2).2) else spF B ws ds d (stR B ds ((sym B ws x.2).1 - 257) (x.1, (sym B ws x.2).2))) else (x.1, (sym B ws x.2).2)) else x
/-! OWN CODES that are told -/
def rcF (B : List Bool) : Nat → Nat → List Nat → Rd → List Nat × Rd
  | 0, _, ws, s => (ws, s)
  | d + 1, k, ws, s => rcF B d (k + 1) (ws.set (RO.getD k 0) (rdF B 3 s).1) (rdF B 3 s).2
def ltN (s : Nat) : Nat := if s = 16 then 3 else if s = 17 then 3 else if s = 18 then 11 else 1
/-- what is told by the SYMBOL r at the width after A: (times, the state behind) -/
def rw1 (B : List Bool) (total : Nat) (A : List Nat) (r : Nat × Rd) : Nat × Rd :=
  (ltN r.1 + (rdF B (rbN r.1) (if r.1 = 16 ∧ A.length = 0 then fl 6 r.2 else r.2)).1, if total < A.length + (ltN r.1 + (rdF B (rbN r.1) (if r.1 = 16 ∧ A.length = 0 then fl 6 r.2 else r.2)).1) then fl 6 (rdF B (rbN r.1) (if r.1 = 16 ∧ A.length = 0 then fl 6 r.2 else r.2)).2 else (rdF B (rbN r.1) (if r.1 = 16 ∧ A.length = 0 then fl 6 r.2 else r.2)).2)
def rwv (A : List Nat) (s : Nat) : Nat := if s < 16 then s else if s = 16 then A.getD (A.length - 1) 0 else 0
def rwF (B : List Bool) (rs : List Nat) (total : Nat) : Nat → List Nat × Rd → List Nat × Rd
  | 0, x => x
  | d + 1, x => if x.1.length < total ∧ x.2.2 = 0 then
      (if (sym B rs x.2).2.2 = 0 ∧ (rw1 B total x.1 (sym B rs x.2)).2.2 = 0 then rwF B rs total d (x.1 ++ List.replicate (rw1 B total x.1 (sym B rs x.2)).1 (rwv x.1 (sym B rs x.2).1), (rw1 B total x.1 (sym B rs x.2)).2) else (x.1, if (sym B rs x.2).2.2 = 0 then (rw1 B total x.1 (sym B rs x.2)).2 else (sym B rs x.2).2))
    else x
