/-! the heap only grows, cells keep their sizes, the number of locals stays -/
theorem db_sz_set {h : db_H} {k : Nat} {c c' : db_C} (hk : h[k]? = some c) (hz : db_cz c' = db_cz c) : db_sz (h.set k c') = db_sz h := by
  induction h generalizing k with
  | nil => simp at hk
  | cons a t ih =>
    cases k with
    | zero =>
      simp at hk
      subst hk
      simp [db_sz, hz]
    | succ k =>
      have hk' : t[k]? = some c := by simpa using hk
      have := ih hk'
      simp only [db_sz, List.set_cons_succ, List.map_cons, List.sum_cons] at this ⊢
      rw [this]
theorem db_sz_app (h : db_H) (c : db_C) : db_sz (h ++ [c]) = db_sz h + db_cz c := by
  simp [db_sz]
def db_grow (L : List Value) (h : db_H) (r : Option db_R) : Prop := ∀ pc' L' S' h', r = some (.inl (pc', L', S', h')) → L'.length = L.length ∧ h.length ≤ h'.length ∧ db_sz h ≤ db_sz h'
theorem db_grow_none {L : List Value} {h : db_H} : db_grow L h none := fun _ _ _ _ e => by cases e
theorem db_grow_r {L : List Value} {h : db_H} {x : (Nat × List Value × List Value × Nat) ⊕ Option Value} : db_grow L h (some (.inr x)) := fun _ _ _ _ e => by cases e
theorem db_grow_nx {L L1 : List Value} {h h1 : db_H} {pc : Nat} {S : List Value} (hL : L1.length = L.length) (h2 : h.length ≤ h1.length) (h3 : db_sz h ≤ db_sz h1) : db_grow L h (db_nx pc L1 S h1) := by
  intro pc' L' S' h' e
  cases e
  exact ⟨hL, h2, h3⟩
theorem db_grow_same {L : List Value} {h : db_H} {pc : Nat} {S : List Value} : db_grow L h (db_nx pc L S h) := db_grow_nx rfl (Nat.le_refl _) (Nat.le_refl _)
theorem db_grow_L {L L1 : List Value} {h : db_H} {pc : Nat} {S : List Value} (hL : L1.length = L.length) : db_grow L h (db_nx pc L1 S h) := db_grow_nx hL (Nat.le_refl _) (Nat.le_refl _)
theorem db_grow_set {L : List Value} {h : db_H} {pc k : Nat} {S : List Value} {c c' : db_C} (hk : h[k]? = some c) (hz : db_cz c' = db_cz c) : db_grow L h (db_nx pc L S (h.set k c')) :=
  db_grow_nx rfl (by simp) (by rw [db_sz_set hk hz]; exact Nat.le_refl _)
theorem db_grow_app {L : List Value} {h : db_H} {pc : Nat} {S : List Value} {c : db_C} : db_grow L h (db_nx pc L S (h ++ [c])) :=
  db_grow_nx rfl (by simp) (by rw [db_sz_app]; exact Nat.le_add_right _ _)
theorem db_cpy_len {f g : List Int32} {sp dp n : Nat} (h1 : sp + n ≤ f.length) (h2 : dp + n ≤ g.length) : (db_cpy f g sp dp n).length = g.length := by
  simp [db_cpy]; omega
theorem db_grow_get {ai : db_I} {pc : Nat} {L S : List Value} {h : db_H} : db_grow L h (db_get ai pc L S h) := by
  unfold db_get
  repeat' split
  all_goals first | exact db_grow_none | exact db_grow_same
theorem db_grow_put {ai : db_I} {pc : Nat} {L S : List Value} {h : db_H} : db_grow L h (db_put ai pc L S h) := by
  unfold db_put
  repeat' split
  all_goals first | exact db_grow_none | (refine db_grow_set (by assumption) ?_; simp [db_cz])
theorem db_grow_ald {t pc : Nat} {L S : List Value} {h : db_H} : db_grow L h (db_ald t pc L S h) := by
  unfold db_ald
  repeat' split
  all_goals first | exact db_grow_none | exact db_grow_same
theorem db_grow_ast {t pc : Nat} {L S : List Value} {h : db_H} : db_grow L h (db_ast t pc L S h) := by
  unfold db_ast
  repeat' split
  all_goals first | exact db_grow_none | (refine db_grow_set (by assumption) ?_; simp [db_cz])
theorem db_grow_new {t pc : Nat} {L S : List Value} {h : db_H} : db_grow L h (db_new t pc L S h) := by
  unfold db_new
  repeat' split
  all_goals first | exact db_grow_none | exact db_grow_app
theorem db_grow_acp {pc : Nat} {L S : List Value} {h : db_H} : db_grow L h (db_acp pc L S h) := by
  unfold db_acp
  repeat' split
  all_goals first | exact db_grow_none | skip
  rename_i hb _ _ _ _ _ _ _ _ hc
  refine db_grow_set (by assumption) ?_
  simp only [db_cz]
  exact db_cpy_len hc.2.2.2.2.2.1 hc.2.2.2.2.2.2
theorem db_grow_inv {vt : Bool} {ai : db_I} {pc : Nat} {L S : List Value} {h : db_H} : db_grow L h (db_inv vt ai pc L S h) := by
  unfold db_inv
  repeat' split
  all_goals first | exact db_grow_none | exact db_grow_r | exact db_grow_same | exact db_grow_acp
theorem db_grow_stp {ai : db_I} {pc : Nat} {L S : List Value} {h : db_H} : db_grow L h (db_stp ai pc L S h) := by
  unfold db_stp
  split
  all_goals try exact db_grow_none
  all_goals try exact db_grow_same
  all_goals try exact db_grow_get
  all_goals try exact db_grow_put
  all_goals try exact db_grow_ald
  all_goals try exact db_grow_ast
  all_goals try exact db_grow_inv
  all_goals try exact db_grow_app
  all_goals try unfold db_inc
  all_goals try unfold db_neg
  all_goals try unfold db_dup
  all_goals try unfold db_pop
  all_goals try unfold db_dp2
  all_goals try unfold db_if1
  all_goals try unfold db_if2
  all_goals try unfold db_nul
  all_goals try unfold db_nnl
  all_goals try unfold db_tbs
  all_goals try unfold db_lks
  all_goals try unfold db_aln
  all_goals try unfold db_nwa
  all_goals try unfold db_irt
  all_goals try unfold db_art
  all_goals try unfold db_vrt
  all_goals try unfold db_ldi
  all_goals try unfold db_lda
  all_goals try unfold db_sti
  all_goals try unfold db_sta
  all_goals try unfold db_bin
  all_goals try unfold db_dv
  all_goals repeat' split
  all_goals first | exact db_grow_none | exact db_grow_same | exact db_grow_r | exact db_grow_new | (refine db_grow_L ?_; simp)
theorem db_run_grow {lk : Nat → Nat → Option db_I} {ml : Nat → Nat} : ∀ (f y pc : Nat) (L S : List Value) (h : db_H) (v : Option Value) (h' : db_H), db_run lk ml f y pc L S h = some (v, h') → h.length ≤ h'.length ∧ db_sz h ≤ db_sz h'
  | 0, _, _, _, _, _, _, _, e => by simp [db_run] at e
  | f + 1, y, pc, L, S, h, v, h', e => by
    cases hk : lk y pc with
    | none => simp [db_run, hk] at e
    | some ai =>
      cases hs : db_stp ai pc L S h with
      | none => simp [db_run, hk, hs] at e
      | some r =>
        rcases r with ⟨pc', L', S', h1⟩ | (⟨z, as, S', pc'⟩ | w)
        · simp only [db_run, hk, hs] at e
          have g := db_grow_stp pc' L' S' h1 hs
          have i := db_run_grow f y pc' L' S' h1 v h' e
          exact ⟨Nat.le_trans g.2.1 i.1, Nat.le_trans g.2.2 i.2⟩
        · simp only [db_run, hk, hs] at e
          by_cases hl : as.length ≤ ml z
          · rw [if_pos hl] at e
            cases hc : db_run lk ml f z 0 (db_ent (ml z) as) [] h with
            | none => simp [hc] at e
            | some q =>
              obtain ⟨v1, h1⟩ := q
              simp only [hc] at e
              have i1 := db_run_grow f z 0 _ [] h v1 h1 hc
              have i2 := db_run_grow f y pc' L _ h1 v h' e
              exact ⟨Nat.le_trans i1.1 i2.1, Nat.le_trans i1.2 i2.2⟩
          · rw [if_neg hl] at e
            cases e
        · simp only [db_run, hk, hs] at e
          cases e
          exact ⟨Nat.le_refl _, Nat.le_refl _⟩
