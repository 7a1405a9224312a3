/-! OWN CODES that are told, as functions -/
theorem rcF_b {B : List Bool} : ∀ (d k : Nat) (ws : List Nat) (s : Rd), (∀ x ∈ ws, x ≤ 7) → (∀ x ∈ (rcF B d k ws s).1, x ≤ 7) ∧ (rcF B d k ws s).1.length = ws.length
  | 0, _, _, _, h => ⟨h, rfl⟩
  | d + 1, k, ws, s, h => by
    rw [rcF]
    have := rcF_b (B := B) d (k + 1) (ws.set (RO.getD k 0) (rdF B 3 s).1) (rdF B 3 s).2 (fun x hx => by
      rcases List.mem_or_eq_of_mem_set hx with q | q
      · exact h x q
      · have := @rdF_lt B 3 s
        rw [q]
        omega)
    rw [List.length_set] at this
    exact this
theorem rcF_ok {B : List Bool} : ∀ (d k : Nat) (ws : List Nat) (s : Rd), okR B s → okR B (rcF B d k ws s).2 ∧ s.1 ≤ (rcF B d k ws s).2.1
  | 0, _, _, _, h => ⟨h, Nat.le_refl _⟩
  | d + 1, k, ws, s, h => by
    have a := @rdF_ok B 3 s h
    have b := rcF_ok d (k + 1) (ws.set (RO.getD k 0) (rdF B 3 s).1) _ a.1
    rw [rcF]
    exact ⟨b.1, Nat.le_trans a.2 b.2⟩
theorem rcF_f {B : List Bool} : ∀ (d k : Nat) (ws : List Nat) (s : Rd), ¬ s.2 = 0 → (rcF B d k ws s).2 = s
  | 0, _, _, _, _ => rfl
  | d + 1, k, ws, s, h => by
    rw [rcF, rdF_f h]
    exact rcF_f d (k + 1) _ s h
theorem ltN_1 (s : Nat) : 1 ≤ ltN s ∧ ltN s ≤ 11 := by
  unfold ltN
  split
  · decide
  · split
    · decide
    · split <;> decide
theorem rw1_ok {B : List Bool} {total : Nat} {A : List Nat} {r : Nat × Rd} (h : okR B r.2) : okR B (rw1 B total A r).2 ∧ r.2.1 ≤ (rw1 B total A r).2.1 ∧ 1 ≤ (rw1 B total A r).1 ∧ (rw1 B total A r).1 < 140 := by
  unfold rw1
  have a : okR B (if r.1 = 16 ∧ A.length = 0 then fl 6 r.2 else r.2) ∧ r.2.1 ≤ (if r.1 = 16 ∧ A.length = 0 then fl 6 r.2 else r.2).1 := by
    split
    · exact fl_ok h (by decide)
    · exact ⟨h, Nat.le_refl _⟩
  generalize (if r.1 = 16 ∧ A.length = 0 then fl 6 r.2 else r.2) = s1 at *
  have b := @rdF_ok B (rbN r.1) s1 a.1
  have l := @rdF_lt B (rbN r.1) s1
  have l2 : 2 ^ rbN r.1 ≤ 2 ^ 7 := Nat.pow_le_pow_right (by decide) (rbN_le r.1)
  have t := ltN_1 r.1
  generalize rdF B (rbN r.1) s1 = t1 at *
  simp only
  refine ⟨?_, ?_, by omega, by omega⟩
  · split
    · exact (fl_ok b.1 (by decide)).1
    · exact b.1
  · split
    · rw [fl_1]
      omega
    · omega
theorem rw1_le {B : List Bool} {total : Nat} {A : List Nat} {r : Nat × Rd} (h : (rw1 B total A r).2.2 = 0) : A.length + (rw1 B total A r).1 ≤ total := by
  unfold rw1 at h ⊢
  generalize (rdF B (rbN r.1) (if r.1 = 16 ∧ A.length = 0 then fl 6 r.2 else r.2)) = t1 at *
  simp only at h ⊢
  by_cases q : total < A.length + (ltN r.1 + t1.1)
  · rw [if_pos q] at h
    exact absurd h (fl_ne (by decide))
  · omega
theorem rw1_f {B : List Bool} {total : Nat} {A : List Nat} {r : Nat × Rd} (h : ¬ r.2.2 = 0) : (rw1 B total A r).2 = r.2 := by
  have e : (if r.1 = 16 ∧ A.length = 0 then fl 6 r.2 else r.2) = r.2 := by
    split
    · exact fl_f h
    · rfl
  unfold rw1
  rw [e, rdF_f h]
  simp only
  split
  · exact fl_f h
  · rfl
theorem rwv_b {A : List Nat} {s : Nat} (h : ∀ x ∈ A, x ≤ 15) : rwv A s ≤ 15 := by
  unfold rwv
  split
  · omega
  · split
    · exact w15 h _
    · omega
theorem rwF_b {B : List Bool} {rs : List Nat} {total : Nat} : ∀ (d : Nat) (x : List Nat × Rd), okR B x.2 → (∀ v ∈ x.1, v ≤ 15) → x.1.length ≤ total → okR B (rwF B rs total d x).2 ∧ x.2.1 ≤ (rwF B rs total d x).2.1 ∧ (∀ v ∈ (rwF B rs total d x).1, v ≤ 15) ∧ (rwF B rs total d x).1.length ≤ total ∧ (total ≤ x.1.length + d → (rwF B rs total d x).2.2 = 0 → (rwF B rs total d x).1.length = total)
  | 0, x, h1, h2, h3 => ⟨h1, Nat.le_refl _, h2, h3, fun q _ => by
    show x.1.length = total
    omega⟩
  | d + 1, x, h1, h2, h3 => by
    rw [rwF]
    have so := @sym_ok B rs x.2 h1
    have ro := @rw1_ok B total x.1 (sym B rs x.2) so.1
    have rl := @rw1_le B total x.1 (sym B rs x.2)
    generalize sym B rs x.2 = r at *
    generalize rw1 B total x.1 r = t at *
    by_cases q : x.1.length < total ∧ x.2.2 = 0
    · rw [if_pos q]
      by_cases q2 : r.2.2 = 0 ∧ t.2.2 = 0
      · rw [if_pos q2]
        have rl := rl q2.2
        have ih := rwF_b (rs := rs) (total := total) d (x.1 ++ List.replicate t.1 (rwv x.1 r.1), t.2) ro.1 (fun v hv => by
          rcases List.mem_append.mp hv with hv | hv
          · exact h2 v hv
          · rw [List.eq_of_mem_replicate hv]
            exact rwv_b h2) (by simp only [List.length_append, List.length_replicate]; omega)
        simp only [List.length_append, List.length_replicate] at ih
        refine ⟨ih.1, by omega, ih.2.2.1, ih.2.2.2.1, fun z => ih.2.2.2.2 (by omega)⟩
      · rw [if_neg q2]
        by_cases q3 : r.2.2 = 0
        · rw [if_pos q3]
          exact ⟨ro.1, by show x.2.1 ≤ t.2.1; omega, h2, h3, fun _ z => absurd ⟨q3, z⟩ q2⟩
        · rw [if_neg q3]
          exact ⟨so.1, so.2, h2, h3, fun _ z => absurd z q3⟩
    · rw [if_neg q]
      exact ⟨h1, Nat.le_refl _, h2, h3, fun _ z => by omega⟩
theorem rwF_f {B : List Bool} {rs : List Nat} {total : Nat} {x : List Nat × Rd} (h : ¬ x.2.2 = 0) : ∀ d, rwF B rs total d x = x
  | 0 => rfl
  | d + 1 => by rw [rwF, if_neg (fun q => h q.2)]
def onA (B : List Bool) (s : Rd) : Nat × Nat × Nat × Rd := ((rdF B 5 s).1 + 257, (rdF B 5 (rdF B 5 s).2).1 + 1, (rdF B 4 (rdF B 5 (rdF B 5 s).2).2).1 + 4, if 286 < (rdF B 5 s).1 + 257 ∨ 30 < (rdF B 5 (rdF B 5 s).2).1 + 1 then fl 4 (rdF B 4 (rdF B 5 (rdF B 5 s).2).2).2 else (rdF B 4 (rdF B 5 (rdF B 5 s).2).2).2)
def onC (B : List Bool) (n : Nat) (s : Rd) : List Nat × Rd := ((rcF B n 0 (List.replicate 19 0) s).1, if nx (rcF B n 0 (List.replicate 19 0) s).1 15 = 32768 then (rcF B n 0 (List.replicate 19 0) s).2 else fl 5 (rcF B n 0 (List.replicate 19 0) s).2)
def onR (B : List Bool) (total : Nat) (c : List Nat × Rd) : List Nat × Rd := rwF B c.1 total total ([], c.2)
def onW (A : List Nat) (h : Nat) : List Nat := A.take h ++ List.replicate (286 - h) 0
def onD (A : List Nat) (h k : Nat) : List Nat := (A.drop h).take k ++ List.replicate (30 - k) 0
def onS (ws ds : List Nat) (s : Rd) : Rd := if gcd ds then (if nx ws 15 = 32768 ∧ ¬ ws.getD 256 0 = 0 then s else fl 7 s) else fl 8 (if nx ws 15 = 32768 ∧ ¬ ws.getD 256 0 = 0 then s else fl 7 s)
/-- (widths of SYMBOLS, of DISTANCES, of the row's code, the state) -/
def ownF (B : List Bool) (s : Rd) : List Nat × List Nat × List Nat × Rd :=
  (onW (onR B ((onA B s).1 + (onA B s).2.1) (onC B (onA B s).2.2.1 (onA B s).2.2.2)).1 (onA B s).1, onD (onR B ((onA B s).1 + (onA B s).2.1) (onC B (onA B s).2.2.1 (onA B s).2.2.2)).1 (onA B s).1 (onA B s).2.1, (onC B (onA B s).2.2.1 (onA B s).2.2.2).1,
    if (onR B ((onA B s).1 + (onA B s).2.1) (onC B (onA B s).2.2.1 (onA B s).2.2.2)).2.2 = 0 then onS (onW (onR B ((onA B s).1 + (onA B s).2.1) (onC B (onA B s).2.2.1 (onA B s).2.2.2)).1 (onA B s).1) (onD (onR B ((onA B s).1 + (onA B s).2.1) (onC B (onA B s).2.2.1 (onA B s).2.2.2)).1 (onA B s).1 (onA B s).2.1) (onR B ((onA B s).1 + (onA B s).2.1) (onC B (onA B s).2.2.1 (onA B s).2.2.2)).2 else (onR B ((onA B s).1 + (onA B s).2.1) (onC B (onA B s).2.2.1 (onA B s).2.2.2)).2)
theorem onS_f {ws ds : List Nat} {s : Rd} (h : ¬ s.2 = 0) : onS ws ds s = s := by
  unfold onS
  have e : (if nx ws 15 = 32768 ∧ ¬ ws.getD 256 0 = 0 then s else fl 7 s) = s := by
    split
    · rfl
    · exact fl_f h
  rw [e]
  split
  · rfl
  · exact fl_f h
theorem onA_b {B : List Bool} {s : Rd} (h : okR B s) : 257 ≤ (onA B s).1 ∧ (onA B s).1 ≤ 288 ∧ 1 ≤ (onA B s).2.1 ∧ (onA B s).2.1 ≤ 32 ∧ 4 ≤ (onA B s).2.2.1 ∧ (onA B s).2.2.1 ≤ 19 ∧ okR B (onA B s).2.2.2 ∧ ((onA B s).2.2.2.2 = 0 → s.2 = 0 ∧ (onA B s).1 ≤ 286 ∧ (onA B s).2.1 ≤ 30 ∧ (onA B s).2.2.2.1 = s.1 + 14) ∧ s.1 ≤ (onA B s).2.2.2.1 := by
  unfold onA
  have a := @rdF_ok B 5 s h
  have a0 := @rdF_0 B 5 s
  have a1 := @rdF_lt B 5 s
  generalize rdF B 5 s = t1 at *
  have b := @rdF_ok B 5 t1.2 a.1
  have b0 := @rdF_0 B 5 t1.2
  have b1 := @rdF_lt B 5 t1.2
  generalize rdF B 5 t1.2 = t2 at *
  have c := @rdF_ok B 4 t2.2 b.1
  have c0 := @rdF_0 B 4 t2.2
  have c1 := @rdF_lt B 4 t2.2
  generalize rdF B 4 t2.2 = t3 at *
  simp only
  refine ⟨by omega, by omega, by omega, by omega, by omega, by omega, ?_, ?_, ?_⟩
  · split
    · exact (fl_ok c.1 (by decide)).1
    · exact c.1
  · intro z
    by_cases q : 286 < t1.1 + 257 ∨ 30 < t2.1 + 1
    · rw [if_pos q] at z
      exact absurd z (fl_ne (by decide))
    · rw [if_neg q] at z ⊢
      have c0 := c0 z
      have b0 := b0 c0.1
      have a0 := a0 b0.1
      exact ⟨a0.1, by omega, by omega, by omega⟩
  · split
    · rw [fl_1]
      omega
    · omega
theorem onC_b {B : List Bool} {n : Nat} {s : Rd} (h : okR B s) : (∀ x ∈ (onC B n s).1, x ≤ 7) ∧ (onC B n s).1.length = 19 ∧ okR B (onC B n s).2 ∧ s.1 ≤ (onC B n s).2.1 ∧ ((onC B n s).2.2 = 0 → s.2 = 0 ∧ nx (onC B n s).1 15 = 32768) := by
  unfold onC
  have a := @rcF_b B n 0 (List.replicate 19 0) s (fun x hx => by rw [List.eq_of_mem_replicate hx]; decide)
  have b := @rcF_ok B n 0 (List.replicate 19 0) s h
  have c := @rcF_f B n 0 (List.replicate 19 0) s
  generalize rcF B n 0 (List.replicate 19 0) s = t at *
  simp only
  refine ⟨a.1, a.2, ?_, ?_, ?_⟩
  · split
    · exact b.1
    · exact (fl_ok b.1 (by decide)).1
  · split
    · exact b.2
    · rw [fl_1]
      exact b.2
  · intro z
    by_cases q : nx t.1 15 = 32768
    · rw [if_pos q] at z
      refine ⟨?_, q⟩
      rcases Nat.eq_zero_or_pos s.2 with e | e
      · exact e
      · rw [c (by omega)] at z
        exact z
    · rw [if_neg q] at z
      exact absurd z (fl_ne (by decide))
theorem onR_b {B : List Bool} {total : Nat} {c : List Nat × Rd} (h : okR B c.2) : okR B (onR B total c).2 ∧ c.2.1 ≤ (onR B total c).2.1 ∧ (∀ v ∈ (onR B total c).1, v ≤ 15) ∧ (onR B total c).1.length ≤ total ∧ ((onR B total c).2.2 = 0 → c.2.2 = 0 ∧ (onR B total c).1.length = total) := by
  have a := rwF_b (B := B) (rs := c.1) (total := total) total ([], c.2) h (fun v hv => absurd hv List.not_mem_nil) (Nat.zero_le _)
  refine ⟨a.1, a.2.1, a.2.2.1, a.2.2.2.1, fun z => ⟨?_, a.2.2.2.2 (by simp) z⟩⟩
  rcases Nat.eq_zero_or_pos c.2.2 with e | e
  · exact e
  · unfold onR at z
    rw [rwF_f (by show ¬ c.2.2 = 0; omega)] at z
    exact z
theorem onW_b {A : List Nat} {h : Nat} (hA : h ≤ A.length) (h2 : h ≤ 286) (h15 : ∀ v ∈ A, v ≤ 15) : (onW A h).length = 286 ∧ ∀ v ∈ onW A h, v ≤ 15 := by
  unfold onW
  refine ⟨by rw [List.length_append, List.length_take, List.length_replicate]; omega, fun v hv => ?_⟩
  rcases List.mem_append.mp hv with hv | hv
  · exact h15 v (List.mem_of_mem_take hv)
  · rw [List.eq_of_mem_replicate hv]
    decide
theorem onD_b {A : List Nat} {h k : Nat} (hA : h + k ≤ A.length) (h2 : k ≤ 30) (h15 : ∀ v ∈ A, v ≤ 15) : (onD A h k).length = 30 ∧ ∀ v ∈ onD A h k, v ≤ 15 := by
  unfold onD
  refine ⟨by rw [List.length_append, List.length_take, List.length_drop, List.length_replicate]; omega, fun v hv => ?_⟩
  rcases List.mem_append.mp hv with hv | hv
  · exact h15 v (List.mem_of_mem_drop (List.mem_of_mem_take hv))
  · rw [List.eq_of_mem_replicate hv]
    decide
theorem onS_0 {ws ds : List Nat} {s : Rd} (h : (onS ws ds s).2 = 0) : s.2 = 0 ∧ nx ws 15 = 32768 ∧ ¬ ws.getD 256 0 = 0 ∧ gcd ds ∧ onS ws ds s = s := by
  unfold onS at h ⊢
  by_cases q : gcd ds
  · rw [if_pos q] at h ⊢
    by_cases q2 : nx ws 15 = 32768 ∧ ¬ ws.getD 256 0 = 0
    · rw [if_pos q2] at h ⊢
      exact ⟨h, q2.1, q2.2, q, rfl⟩
    · rw [if_neg q2] at h
      exact absurd h (fl_ne (by decide))
  · rw [if_neg q] at h
    exact absurd h (fl_ne (by decide))
