/-! reading goes on: places and bytes only grow -/
def moR (B : List Bool) (x y : List Nat × Rd) : Prop := okR B y.2 ∧ x.2.1 ≤ y.2.1 ∧ x.1.length ≤ y.1.length
theorem moR_rf {B : List Bool} {x : List Nat × Rd} (h : okR B x.2) : moR B x x := ⟨h, Nat.le_refl _, Nat.le_refl _⟩
theorem moR_tr {B : List Bool} {x y z : List Nat × Rd} (a : moR B x y) (b : moR B y z) : moR B x z := ⟨b.1, Nat.le_trans a.2.1 b.2.1, Nat.le_trans a.2.2 b.2.2⟩
theorem moR_s {B : List Bool} {E : List Nat} {s t : Rd} (h : okR B t ∧ s.1 ≤ t.1) : moR B (E, s) (E, t) := ⟨h.1, h.2, Nat.le_refl _⟩
theorem cm_m {B : List Bool} {v : Nat} {x : List Nat × Rd} (h : okR B x.2) : moR B x (cm v x) := by
  unfold cm
  by_cases q : x.2.2 = 0
  · rw [if_pos q]
    by_cases q2 : x.1.length = 300
    · rw [if_pos q2]
      have := fl_ok h (n := 11) (by decide)
      exact ⟨this.1, this.2, Nat.le_refl _⟩
    · rw [if_neg q2]
      exact ⟨h, Nat.le_refl _, by simp⟩
  · rw [if_neg q]
    exact moR_rf h
theorem plF_m {B : List Bool} : ∀ (d : Nat) (x : List Nat × Rd), okR B x.2 → moR B x (plF B d x)
  | 0, x, h => moR_rf h
  | d + 1, x, h => by
    rw [plF]
    by_cases q : x.2.2 = 0
    · rw [if_pos q]
      have r := @rdF_ok B 8 x.2 h
      generalize rdF B 8 x.2 = t at *
      have a : moR B x (x.1, t.2) := ⟨r.1, r.2, Nat.le_refl _⟩
      have b := cm_m (v := t.1) a.1
      exact moR_tr a (moR_tr b (plF_m d _ b.1))
    · rw [if_neg q]
      exact moR_rf h
theorem alg_o {B : List Bool} {s : Rd} (h8 : B.length % 8 = 0) (hs : okR B s) : okR B (alg s) ∧ s.1 ≤ (alg s).1 := by
  unfold alg
  have : s.1 + pad s.1 ≤ B.length := by
    have := hs.1
    unfold pad
    omega
  split
  · exact ⟨⟨this, hs.2⟩, by simp⟩
  · exact ⟨hs, Nat.le_refl _⟩
theorem rPl_m {B : List Bool} {x : List Nat × Rd} (h8 : B.length % 8 = 0) (h : okR B x.2) : moR B x (rPl B x) := by
  unfold rPl
  have a := alg_o h8 h
  generalize alg x.2 = s1 at *
  have b := @rdF_ok B 16 s1 a.1
  generalize rdF B 16 s1 = t1 at *
  have c := @rdF_ok B 16 t1.2 b.1
  generalize rdF B 16 t1.2 = t2 at *
  have d : okR B (if t2.1 + t1.1 = 65535 then t2.2 else fl 3 t2.2) ∧ t2.2.1 ≤ (if t2.1 + t1.1 = 65535 then t2.2 else fl 3 t2.2).1 := by
    split
    · exact ⟨c.1, Nat.le_refl _⟩
    · exact fl_ok c.1 (by decide)
  generalize (if t2.1 + t1.1 = 65535 then t2.2 else fl 3 t2.2) = s3 at *
  have e : moR B x (x.1, s3) := ⟨d.1, by simp only; omega, Nat.le_refl _⟩
  exact moR_tr e (plF_m _ _ d.1)
theorem cpF_m {B : List Bool} {far : Nat} : ∀ (d : Nat) (x : List Nat × Rd), okR B x.2 → moR B x (cpF far d x)
  | 0, x, h => moR_rf h
  | d + 1, x, h => by
    rw [cpF]
    by_cases q : x.2.2 = 0
    · rw [if_pos q]
      have b := cm_m (v := x.1.getD (x.1.length - far) 0) h
      exact moR_tr b (cpF_m d _ b.1)
    · rw [if_neg q]
      exact moR_rf h
theorem stR_m {B : List Bool} {ds : List Nat} {i : Nat} {x : List Nat × Rd} (h : okR B x.2) : moR B x (stR B ds i x) := by
  unfold stR
  have a := @rdF_ok B (lbN i) x.2 h
  generalize rdF B (lbN i) x.2 = t1 at *
  have b := @sym_ok B ds t1.2 a.1
  generalize sym B ds t1.2 = t2 at *
  have c := @rdF_ok B (dbN t2.1) t2.2 b.1
  generalize rdF B (dbN t2.1) t2.2 = t3 at *
  have m2 : moR B x (x.1, t2.2) := ⟨b.1, by simp only; omega, Nat.le_refl _⟩
  split
  · split
    · exact moR_tr m2 (moR_s (fl_ok b.1 (by decide)))
    · refine moR_tr ?_ (cpF_m _ _ ?_)
      · refine ⟨?_, ?_, Nat.le_refl _⟩
        · simp only
          split
          · exact (fl_ok c.1 (by decide)).1
          · exact c.1
        · simp only
          split
          · rw [fl_1]
            omega
          · omega
      · simp only
        split
        · exact (fl_ok c.1 (by decide)).1
        · exact c.1
  · exact m2
theorem spF_m {B : List Bool} {ws ds : List Nat} : ∀ (d : Nat) (x : List Nat × Rd), okR B x.2 → moR B x (spF B ws ds d x)
  | 0, x, h => moR_rf h
  | d + 1, x, h => by
    rw [spF]
    have a := @sym_ok B ws x.2 h
    generalize sym B ws x.2 = t at *
    have m : moR B x (x.1, t.2) := ⟨a.1, a.2, Nat.le_refl _⟩
    split
    · split
      · split
        · exact m
        · split
          · have b := cm_m (v := t.1) m.1
            exact moR_tr m (moR_tr b (spF_m d _ b.1))
          · split
            · exact moR_tr m (moR_s (fl_ok a.1 (by decide)))
            · have b := stR_m (ds := ds) (i := t.1 - 257) m.1
              exact moR_tr m (moR_tr b (spF_m d _ b.1))
      · exact m
    · exact moR_rf h
theorem ownF_m {B : List Bool} {s : Rd} (h : okR B s) : okR B (ownF B s).2.2.2 ∧ s.1 ≤ (ownF B s).2.2.2.1 ∧ ((ownF B s).2.2.2.2 = 0 → s.2 = 0 ∧ s.1 + 14 ≤ (ownF B s).2.2.2.1) := by
  unfold ownF
  have a := onA_b h
  generalize onA B s = p at *
  obtain ⟨a1, a2, a3, a4, a5, a6, a7, a8, a9⟩ := a
  have c := onC_b (n := p.2.2.1) a7
  generalize onC B p.2.2.1 p.2.2.2 = q at *
  have r := onR_b (B := B) (total := p.1 + p.2.1) (c := q) c.2.2.1
  generalize onR B (p.1 + p.2.1) q = t at *
  have z := @onS_0 (onW t.1 p.1) (onD t.1 p.1 p.2.1) t.2
  have zo : okR B (onS (onW t.1 p.1) (onD t.1 p.1 p.2.1) t.2) ∧ t.2.1 ≤ (onS (onW t.1 p.1) (onD t.1 p.1 p.2.1) t.2).1 := by
    unfold onS
    have u : okR B (if nx (onW t.1 p.1) 15 = 32768 ∧ ¬ (onW t.1 p.1).getD 256 0 = 0 then t.2 else fl 7 t.2) ∧ t.2.1 ≤ (if nx (onW t.1 p.1) 15 = 32768 ∧ ¬ (onW t.1 p.1).getD 256 0 = 0 then t.2 else fl 7 t.2).1 := by
      split
      · exact ⟨r.1, Nat.le_refl _⟩
      · exact fl_ok r.1 (by decide)
    split
    · exact u
    · have v := fl_ok (n := 8) u.1 (by decide)
      exact ⟨v.1, Nat.le_trans u.2 v.2⟩
  generalize onS (onW t.1 p.1) (onD t.1 p.1 p.2.1) t.2 = w at *
  have w0 : w.2 = 0 → s.2 = 0 ∧ s.1 + 14 ≤ w.1 := fun e => by
    have z := (z e).1
    have r5 := (r.2.2.2.2 z).1
    have c5 := (c.2.2.2.2 r5).1
    have a8 := a8 c5
    refine ⟨a8.1, ?_⟩
    have := c.2.2.2.1
    have := r.2.1
    have := zo.2
    omega
  simp only
  refine ⟨?_, ?_, ?_⟩
  · split
    · exact zo.1
    · exact r.1
  · split
    · have := c.2.2.2.1
      have := r.2.1
      have := zo.2
      omega
    · have := c.2.2.2.1
      have := r.2.1
      omega
  · intro e
    by_cases g : t.2.2 = 0
    · rw [if_pos g] at e ⊢
      exact w0 e
    · rw [if_neg g] at e
      exact absurd e g
