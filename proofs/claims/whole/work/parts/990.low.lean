/-! the first cells stay; two calls side by side -/
def lo (h h2 : db_H) : Prop := ∀ k c, k < db_n → h[k]? = some c → h2[k]? = some c
theorem lo_rf {h : db_H} : lo h h := fun _ _ _ e => e
theorem lo_tr {h h2 h3 : db_H} (a : lo h h2) (b : lo h2 h3) : lo h h3 := fun k c hk e => b k c hk (a k c hk e)
theorem lo_set {h : db_H} {k : Nat} {c : db_C} (hk : ¬ k < db_n) : lo h (h.set k c) := fun j d hj e => (hs_ne (by omega)).trans e
theorem lo_app {h : db_H} {c : db_C} : lo h (h ++ [c]) := fun k d hk e => ap e
def dl_grow (h : db_H) (r : Option db_R) : Prop := ∀ pc' L' S' h', r = some (.inl (pc', L', S', h')) → lo h h'
theorem dl_grow_none {h : db_H} : dl_grow h none := fun _ _ _ _ e => by cases e
theorem dl_grow_r {h : db_H} {x : (Nat × List Value × List Value × Nat) ⊕ Option Value} : dl_grow h (some (.inr x)) := fun _ _ _ _ e => by cases e
theorem dl_grow_nx {L1 : List Value} {h h1 : db_H} {pc : Nat} {S : List Value} (h2 : lo h h1) : dl_grow h (db_nx pc L1 S h1) := by
  intro pc' L' S' h' e
  cases e
  exact h2
theorem dl_grow_same {L : List Value} {h : db_H} {pc : Nat} {S : List Value} : dl_grow h (db_nx pc L S h) := dl_grow_nx lo_rf
theorem dl_grow_set {L : List Value} {h : db_H} {pc k : Nat} {S : List Value} {c' : db_C} (hk : ¬ k < db_n) : dl_grow h (db_nx pc L S (h.set k c')) := dl_grow_nx (lo_set hk)
theorem dl_grow_app {L : List Value} {h : db_H} {pc : Nat} {S : List Value} {c : db_C} : dl_grow h (db_nx pc L S (h ++ [c])) := dl_grow_nx lo_app
theorem dl_grow_get {ai : db_I} {pc : Nat} {L S : List Value} {h : db_H} : dl_grow h (db_get ai pc L S h) := by
  unfold db_get
  repeat' split
  all_goals first | exact dl_grow_none | exact dl_grow_same
theorem dl_grow_put {ai : db_I} {pc : Nat} {L S : List Value} {h : db_H} : dl_grow h (db_put ai pc L S h) := by
  unfold db_put
  repeat' split
  all_goals first | exact dl_grow_none | (refine dl_grow_set ?_; assumption)
theorem dl_grow_ald {t pc : Nat} {L S : List Value} {h : db_H} : dl_grow h (db_ald t pc L S h) := by
  unfold db_ald
  repeat' split
  all_goals first | exact dl_grow_none | exact dl_grow_same
theorem dl_grow_ast {t pc : Nat} {L S : List Value} {h : db_H} : dl_grow h (db_ast t pc L S h) := by
  unfold db_ast
  repeat' split
  all_goals first | exact dl_grow_none | (refine dl_grow_set ?_; assumption)
theorem dl_grow_new {t pc : Nat} {L S : List Value} {h : db_H} : dl_grow h (db_new t pc L S h) := by
  unfold db_new
  repeat' split
  all_goals first | exact dl_grow_none | exact dl_grow_app
theorem nor1 {a b c : Prop} (q : ¬ (a ∨ b ∨ c)) : ¬ a := fun z => q (Or.inl z)
theorem dl_grow_acp {pc : Nat} {L S : List Value} {h : db_H} : dl_grow h (db_acp pc L S h) := by
  unfold db_acp
  repeat' split
  all_goals first | exact dl_grow_none | (apply dl_grow_set; apply nor1; assumption)
theorem dl_grow_inv {vt : Bool} {ai : db_I} {pc : Nat} {L S : List Value} {h : db_H} : dl_grow h (db_inv vt ai pc L S h) := by
  unfold db_inv
  repeat' split
  all_goals first | exact dl_grow_none | exact dl_grow_r | exact dl_grow_same | exact dl_grow_acp
theorem dl_grow_stp {ai : db_I} {pc : Nat} {L S : List Value} {h : db_H} : dl_grow h (db_stp ai pc L S h) := by
  unfold db_stp
  split
  all_goals try exact dl_grow_none
  all_goals try exact dl_grow_same
  all_goals try exact dl_grow_get
  all_goals try exact dl_grow_put
  all_goals try exact dl_grow_ald
  all_goals try exact dl_grow_ast
  all_goals try exact dl_grow_inv
  all_goals try exact dl_grow_app
  all_goals try unfold db_inc
  all_goals try unfold db_neg
  all_goals try unfold db_dup
  all_goals try unfold db_pop
  all_goals try unfold db_dp2
  all_goals try unfold db_if1
  all_goals try unfold db_if2
  all_goals try unfold db_nul
  all_goals try unfold db_nnl
  all_goals try unfold db_tbs
  all_goals try unfold db_lks
  all_goals try unfold db_aln
  all_goals try unfold db_nwa
  all_goals try unfold db_irt
  all_goals try unfold db_art
  all_goals try unfold db_vrt
  all_goals try unfold db_ldi
  all_goals try unfold db_lda
  all_goals try unfold db_sti
  all_goals try unfold db_sta
  all_goals try unfold db_bin
  all_goals try unfold db_dv
  all_goals repeat' split
  all_goals first | exact dl_grow_none | exact dl_grow_same | exact dl_grow_r | exact dl_grow_new | exact dl_grow_nx lo_rf
theorem dl_run {lk : Nat → Nat → Option db_I} {ml : Nat → Nat} : ∀ (f y pc : Nat) (L S : List Value) (h : db_H) (v : Option Value) (h' : db_H), db_run lk ml f y pc L S h = some (v, h') → lo h h'
  | 0, _, _, _, _, _, _, _, e => by simp [db_run] at e
  | f + 1, y, pc, L, S, h, v, h', e => by
    cases hk : lk y pc with
    | none => simp [db_run, hk] at e
    | some ai =>
      cases hs : db_stp ai pc L S h with
      | none => simp [db_run, hk, hs] at e
      | some r =>
        rcases r with ⟨pc', L', S', h1⟩ | (⟨z, as, S', pc'⟩ | w)
        · simp only [db_run, hk, hs] at e
          have g := dl_grow_stp pc' L' S' h1 hs
          have i := dl_run f y pc' L' S' h1 v h' e
          exact lo_tr g i
        · simp only [db_run, hk, hs] at e
          by_cases hl : as.length ≤ ml z
          · rw [if_pos hl] at e
            cases hc : db_run lk ml f z 0 (db_ent (ml z) as) [] h with
            | none => simp [hc] at e
            | some q =>
              obtain ⟨v1, h1⟩ := q
              simp only [hc] at e
              have i1 := dl_run f z 0 _ [] h v1 h1 hc
              have i2 := dl_run f y pc' L _ h1 v h' e
              exact lo_tr i1 i2
          · rw [if_neg hl] at e
            cases e
        · simp only [db_run, hk, hs] at e
          cases e
          exact lo_rf
theorem go_lo {y pc : Nat} {L S : List Value} {h : db_H} {P : Option Value → db_H → Prop} (g : db_Go y pc L S h (fun v h2 => lo h h2 → P v h2)) : db_Go y pc L S h P := by
  obtain ⟨f, v, h2, e, p⟩ := g
  exact ⟨f, v, h2, e, p (dl_run f y pc L S h v h2 e)⟩
/-- the whole state as the document has it: DATA, CUTS, THE TAPE's bits, BLOCKS, widths, place -/
abbrev S6 := List Nat × List Nat × List Bool × List Nt × Option Ow × Int32
def CJ (h : db_H) (s : S6) : Prop := CI h s.1 s.2.1 s.2.2.1 s.2.2.2.1 s.2.2.2.2.1 s.2.2.2.2.2
def MJ (h : db_H) (s : S6) : Prop := MI h s.1 s.2.1 s.2.2.1 s.2.2.2.1 s.2.2.2.2.1 s.2.2.2.2.2
/-- a call of the class, the same call of the model: equal answers, equal states -/
def JQ (y1 y2 : Nat) (L1 L2 : List Value) (h : db_H) : Prop := ∀ (xs : List Int32) (Q : db_H → Prop), h[4]? = some (.inl (0, xs)) → (∀ h3 s3, CJ h3 s3 → MJ h3 s3 → h3[4]? = some (.inl (0, xs)) → Q h3) → db_Go y1 0 L1 [] h (fun r h1 => ∃ x fs, r = some (.int x) ∧ h1[4]? = some (.inl (0, xs)) ∧ h1[127]? = some (.inr (12, fs)) ∧ db_Go y2 0 L2 [] h1 (fun r2 h2 => r2 = some (.int x) ∧ Q h2))
theorem Cl_rf {h : db_H} : Cl h h := ⟨Nat.le_refl _, fun _ _ _ => rfl⟩
theorem CI_D {h : db_H} {D C : List Nat} {B : List Bool} {N : List Nt} {own : Option Ow} {fp : Int32} (A : CI h D C B N own fp) : ∀ v ∈ D, v < 256 := by
  obtain ⟨_, _, l, r, a, b, fca, fcb, ja, jb, N', own', _, a2, _⟩ := A
  exact a2.2.2.1
theorem JQ_mk {h : db_H} {y1 y2 : Nat} {L1 L2 : List Value} {s : S6} (s' : S6) (x : Int32) (B : MJ h s) (c : ∀ P : Option Value → db_H → Prop, (∀ h2, Cl h h2 → CJ h2 s' → P (some (.int x)) h2) → db_Go y1 0 L1 [] h P) (m : ∀ (h1 : db_H) (P : Option Value → db_H → Prop), MJ h1 s → (∀ v ∈ s'.1, v < 256) → (∀ h2, Fr MC h1 h2 → MJ h2 s' → P (some (.int x)) h2) → db_Go y2 0 L2 [] h1 P) : JQ y1 y2 L1 L2 h := by
  intro xs Q h4 K
  refine go_lo (c _ (fun h1 cl cj lw => ?_))
  have mj : MJ h1 s := MI_c cl B
  obtain ⟨M, l, a1, _⟩ := id mj
  have e4 := lw 4 _ (by decide) h4
  exact ⟨x, _, rfl, e4, a1, m h1 _ mj (CI_D cj) (fun h3 f mj3 => ⟨rfl, K h3 s' (CI_m f cj) mj3 (Fr_get f (MC_n (by decide)) e4)⟩)⟩
