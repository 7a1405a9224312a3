/-! runs without fuel: db_Go says that the method comes to its end, with what P says of its answer and the cells -/
theorem db_run_more {lk : Nat → Nat → Option db_I} {ml : Nat → Nat} : ∀ (f y pc : Nat) (L S : List Value) (h : db_H) (r : Option Value × db_H), db_run lk ml f y pc L S h = some r → db_run lk ml (f + 1) y pc L S h = some r
  | 0, _, _, _, _, _, _, e => by simp [db_run] at e
  | f + 1, y, pc, L, S, h, r, e => by
    cases hk : lk y pc with
    | none => simp [db_run, hk] at e
    | some ai =>
      cases hs : db_stp ai pc L S h with
      | none => simp [db_run, hk, hs] at e
      | some q =>
        rcases q with ⟨pc', L', S', h1⟩ | (⟨z, as, S', pc'⟩ | w)
        · simp only [db_run, hk, hs] at e
          have i := db_run_more f y pc' L' S' h1 r e
          rw [db_run]
          simp only [hk, hs]
          exact i
        · simp only [db_run, hk, hs] at e
          by_cases hl : as.length ≤ ml z
          · rw [if_pos hl] at e
            cases hc : db_run lk ml f z 0 (db_ent (ml z) as) [] h with
            | none => simp [hc] at e
            | some q =>
              obtain ⟨v1, h1⟩ := q
              simp only [hc] at e
              have i1 := db_run_more f z 0 _ [] h (v1, h1) hc
              have i2 := db_run_more f y pc' L _ h1 r e
              rw [db_run]
              simp only [hk, hs, if_pos hl, i1]
              exact i2
          · rw [if_neg hl] at e
            cases e
        · simp only [db_run, hk, hs] at e
          rw [db_run]
          simp only [hk, hs]
          exact e
theorem db_run_up {lk : Nat → Nat → Option db_I} {ml : Nat → Nat} {f y pc : Nat} {L S : List Value} {h : db_H} {r : Option Value × db_H} (e : db_run lk ml f y pc L S h = some r) : ∀ {g : Nat}, f ≤ g → db_run lk ml g y pc L S h = some r := by
  intro g hg
  obtain ⟨k, rfl⟩ : ∃ k, g = f + k := ⟨g - f, by omega⟩
  induction k with
  | zero => exact e
  | succ k ih => exact db_run_more _ _ _ _ _ _ _ (ih (by omega))
def db_Go (y pc : Nat) (L S : List Value) (h : db_H) (P : Option Value → db_H → Prop) : Prop := ∃ (f : Nat) (v : Option Value) (h' : db_H), db_run db_lk db_ml f y pc L S h = some (v, h') ∧ P v h'
/-- what is owed behind one step -/
def db_Gs (y : Nat) (L : List Value) (h : db_H) (P : Option Value → db_H → Prop) (r : Option db_R) : Prop := match r with
  | none => False
  | some (.inl q) => db_Go y q.1 q.2.1 q.2.2.1 q.2.2.2 P
  | some (.inr (.inl q)) => q.2.1.length ≤ db_ml q.1 ∧ db_Go q.1 0 (db_ent (db_ml q.1) q.2.1) [] h (fun v1 h1 => db_Go y q.2.2.2 L (v1.toList ++ q.2.2.1) h1 P)
  | some (.inr (.inr v)) => P v h
theorem db_go {y pc : Nat} {L S : List Value} {h : db_H} {P : Option Value → db_H → Prop} {ai : db_I} (hk : db_lk y pc = some ai) : db_Go y pc L S h P ↔ db_Gs y L h P (db_stp ai pc L S h) := by
  constructor
  · rintro ⟨f, v, h', e, hP⟩
    cases f with
    | zero => simp [db_run] at e
    | succ f =>
      cases hs : db_stp ai pc L S h with
      | none => simp [db_run, hk, hs] at e
      | some q =>
        rcases q with ⟨pc', L', S', h1⟩ | (⟨z, as, S', pc'⟩ | w)
        · simp only [db_run, hk, hs] at e
          exact ⟨f, v, h', e, hP⟩
        · simp only [db_run, hk, hs] at e
          by_cases hl : as.length ≤ db_ml z
          · rw [if_pos hl] at e
            cases hc : db_run db_lk db_ml f z 0 (db_ent (db_ml z) as) [] h with
            | none => simp [hc] at e
            | some q =>
              obtain ⟨v1, h1⟩ := q
              simp only [hc] at e
              exact ⟨hl, f, v1, h1, hc, f, v, h', e, hP⟩
          · rw [if_neg hl] at e
            cases e
        · simp only [db_run, hk, hs] at e
          cases e
          exact hP
  · intro hg
    cases hs : db_stp ai pc L S h with
    | none => rw [hs] at hg; exact hg.elim
    | some q =>
      rw [hs] at hg
      rcases q with ⟨pc', L', S', h1⟩ | (⟨z, as, S', pc'⟩ | w)
      · obtain ⟨f, v, h', e, hP⟩ := hg
        exact ⟨f + 1, v, h', by rw [db_run]; simp only [hk, hs]; exact e, hP⟩
      · obtain ⟨hl, f, v1, h1, e1, f2, v, h', e2, hP⟩ := hg
        refine ⟨max f f2 + 1, v, h', ?_, hP⟩
        rw [db_run]
        simp only [hk, hs]
        have i1 := db_run_up e1 (g := max f f2) (by omega)
        have i2 := db_run_up e2 (g := max f f2) (by omega)
        dsimp only at hl i1 i2 ⊢
        rw [if_pos hl, i1]
        exact i2
      · exact ⟨1, w, h, by rw [db_run]; simp only [hk, hs], hg⟩
theorem db_Go.mono {y pc : Nat} {L S : List Value} {h : db_H} {P Q : Option Value → db_H → Prop} (hg : db_Go y pc L S h P) (hPQ : ∀ v h', P v h' → Q v h') : db_Go y pc L S h Q := by
  obtain ⟨f, v, h', e, hP⟩ := hg
  exact ⟨f, v, h', e, hPQ v h' hP⟩
/-- a step that is known to succeed -/
theorem db_goS {y pc pc' : Nat} {L S L' S' : List Value} {h h' : db_H} {P : Option Value → db_H → Prop} {ai : db_I} (hk : db_lk y pc = some ai) (hs : db_stp ai pc L S h = some (.inl (pc', L', S', h'))) (k : db_Go y pc' L' S' h' P) : db_Go y pc L S h P := by
  rw [db_go hk, hs]
  exact k
