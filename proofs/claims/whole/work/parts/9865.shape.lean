/-! cells keep their sizes -/
def zs (h h2 : db_H) : Prop := ∃ ex, h2.map db_cz = h.map db_cz ++ ex
theorem zs_rf {h : db_H} : zs h h := ⟨[], by rw [List.append_nil]⟩
theorem zs_tr {h h2 h3 : db_H} (a : zs h h2) (b : zs h2 h3) : zs h h3 := by
  obtain ⟨x, a⟩ := a
  obtain ⟨y, b⟩ := b
  exact ⟨x ++ y, by rw [b, a, List.append_assoc]⟩
theorem zs_set {h : db_H} {k : Nat} {c c' : db_C} (hk : h[k]? = some c) (hz : db_cz c' = db_cz c) : zs h (h.set k c') := by
  refine ⟨[], ?_⟩
  rw [List.append_nil, List.map_set, hz]
  refine List.ext_getElem? (fun i => ?_)
  by_cases e : k = i
  · have hl := (List.getElem?_eq_some_iff.mp hk).1
    rw [← e, List.getElem?_set_self (by rw [List.length_map]; exact hl), List.getElem?_map, hk]
    rfl
  · rw [List.getElem?_set_ne e]
theorem zs_app {h : db_H} {c : db_C} : zs h (h ++ [c]) := ⟨[db_cz c], by rw [List.map_append]; rfl⟩
def dz_grow (L : List Value) (h : db_H) (r : Option db_R) : Prop := ∀ pc' L' S' h', r = some (.inl (pc', L', S', h')) → L'.length = L.length ∧ zs h h'
theorem dz_grow_none {L : List Value} {h : db_H} : dz_grow L h none := fun _ _ _ _ e => by cases e
theorem dz_grow_r {L : List Value} {h : db_H} {x : (Nat × List Value × List Value × Nat) ⊕ Option Value} : dz_grow L h (some (.inr x)) := fun _ _ _ _ e => by cases e
theorem dz_grow_nx {L L1 : List Value} {h h1 : db_H} {pc : Nat} {S : List Value} (hL : L1.length = L.length) (h2 : zs h h1) : dz_grow L h (db_nx pc L1 S h1) := by
  intro pc' L' S' h' e
  cases e
  exact ⟨hL, h2⟩
theorem dz_grow_same {L : List Value} {h : db_H} {pc : Nat} {S : List Value} : dz_grow L h (db_nx pc L S h) := dz_grow_nx rfl zs_rf
theorem dz_grow_L {L L1 : List Value} {h : db_H} {pc : Nat} {S : List Value} (hL : L1.length = L.length) : dz_grow L h (db_nx pc L1 S h) := dz_grow_nx hL zs_rf
theorem dz_grow_set {L : List Value} {h : db_H} {pc k : Nat} {S : List Value} {c c' : db_C} (hk : h[k]? = some c) (hz : db_cz c' = db_cz c) : dz_grow L h (db_nx pc L S (h.set k c')) := dz_grow_nx rfl (zs_set hk hz)
theorem dz_grow_app {L : List Value} {h : db_H} {pc : Nat} {S : List Value} {c : db_C} : dz_grow L h (db_nx pc L S (h ++ [c])) := dz_grow_nx rfl zs_app
theorem dz_grow_get {ai : db_I} {pc : Nat} {L S : List Value} {h : db_H} : dz_grow L h (db_get ai pc L S h) := by
  unfold db_get
  repeat' split
  all_goals first | exact dz_grow_none | exact dz_grow_same
theorem dz_grow_put {ai : db_I} {pc : Nat} {L S : List Value} {h : db_H} : dz_grow L h (db_put ai pc L S h) := by
  unfold db_put
  repeat' split
  all_goals first | exact dz_grow_none | (refine dz_grow_set (by assumption) ?_; simp [db_cz])
theorem dz_grow_ald {t pc : Nat} {L S : List Value} {h : db_H} : dz_grow L h (db_ald t pc L S h) := by
  unfold db_ald
  repeat' split
  all_goals first | exact dz_grow_none | exact dz_grow_same
theorem dz_grow_ast {t pc : Nat} {L S : List Value} {h : db_H} : dz_grow L h (db_ast t pc L S h) := by
  unfold db_ast
  repeat' split
  all_goals first | exact dz_grow_none | (refine dz_grow_set (by assumption) ?_; simp [db_cz])
theorem dz_grow_new {t pc : Nat} {L S : List Value} {h : db_H} : dz_grow L h (db_new t pc L S h) := by
  unfold db_new
  repeat' split
  all_goals first | exact dz_grow_none | exact dz_grow_app
theorem dz_grow_acp {pc : Nat} {L S : List Value} {h : db_H} : dz_grow L h (db_acp pc L S h) := by
  unfold db_acp
  repeat' split
  all_goals first | exact dz_grow_none | skip
  rename_i hb _ _ _ _ _ _ _ _ hc
  refine dz_grow_set (by assumption) ?_
  simp only [db_cz]
  exact db_cpy_len hc.2.2.2.2.2.1 hc.2.2.2.2.2.2
theorem dz_grow_inv {vt : Bool} {ai : db_I} {pc : Nat} {L S : List Value} {h : db_H} : dz_grow L h (db_inv vt ai pc L S h) := by
  unfold db_inv
  repeat' split
  all_goals first | exact dz_grow_none | exact dz_grow_r | exact dz_grow_same | exact dz_grow_acp
theorem dz_grow_stp {ai : db_I} {pc : Nat} {L S : List Value} {h : db_H} : dz_grow L h (db_stp ai pc L S h) := by
  unfold db_stp
  split
  all_goals try exact dz_grow_none
  all_goals try exact dz_grow_same
  all_goals try exact dz_grow_get
  all_goals try exact dz_grow_put
  all_goals try exact dz_grow_ald
  all_goals try exact dz_grow_ast
  all_goals try exact dz_grow_inv
  all_goals try exact dz_grow_app
  all_goals try unfold db_inc
  all_goals try unfold db_neg
  all_goals try unfold db_dup
  all_goals try unfold db_pop
  all_goals try unfold db_dp2
  all_goals try unfold db_if1
  all_goals try unfold db_if2
  all_goals try unfold db_nul
  all_goals try unfold db_nnl
  all_goals try unfold db_tbs
  all_goals try unfold db_lks
  all_goals try unfold db_aln
  all_goals try unfold db_nwa
  all_goals try unfold db_irt
  all_goals try unfold db_art
  all_goals try unfold db_vrt
  all_goals try unfold db_ldi
  all_goals try unfold db_lda
  all_goals try unfold db_sti
  all_goals try unfold db_sta
  all_goals try unfold db_bin
  all_goals try unfold db_dv
  all_goals repeat' split
  all_goals first | exact dz_grow_none | exact dz_grow_same | exact dz_grow_r | exact dz_grow_new | (refine dz_grow_L ?_; simp)
theorem dz_run {lk : Nat → Nat → Option db_I} {ml : Nat → Nat} : ∀ (f y pc : Nat) (L S : List Value) (h : db_H) (v : Option Value) (h' : db_H), db_run lk ml f y pc L S h = some (v, h') → zs h h'
  | 0, _, _, _, _, _, _, _, e => by simp [db_run] at e
  | f + 1, y, pc, L, S, h, v, h', e => by
    cases hk : lk y pc with
    | none => simp [db_run, hk] at e
    | some ai =>
      cases hs : db_stp ai pc L S h with
      | none => simp [db_run, hk, hs] at e
      | some r =>
        rcases r with ⟨pc', L', S', h1⟩ | (⟨z, as, S', pc'⟩ | w)
        · simp only [db_run, hk, hs] at e
          have g := dz_grow_stp pc' L' S' h1 hs
          have i := dz_run f y pc' L' S' h1 v h' e
          exact zs_tr g.2 i
        · simp only [db_run, hk, hs] at e
          by_cases hl : as.length ≤ ml z
          · rw [if_pos hl] at e
            cases hc : db_run lk ml f z 0 (db_ent (ml z) as) [] h with
            | none => simp [hc] at e
            | some q =>
              obtain ⟨v1, h1⟩ := q
              simp only [hc] at e
              have i1 := dz_run f z 0 _ [] h v1 h1 hc
              have i2 := dz_run f y pc' L _ h1 v h' e
              exact zs_tr i1 i2
          · rw [if_neg hl] at e
            cases e
        · simp only [db_run, hk, hs] at e
          cases e
          exact zs_rf
/-- what is owed may lean on the cells' sizes -/
theorem go_zs {y pc : Nat} {L S : List Value} {h : db_H} {P : Option Value → db_H → Prop} (g : db_Go y pc L S h (fun v h2 => zs h h2 → P v h2)) : db_Go y pc L S h P := by
  obtain ⟨f, v, h2, e, p⟩ := g
  exact ⟨f, v, h2, e, p (dz_run f y pc L S h v h2 e)⟩
theorem zs_at {h h2 : db_H} {k : Nat} {c c2 : db_C} (z : zs h h2) (e : h[k]? = some c) (e2 : h2[k]? = some c2) : db_cz c2 = db_cz c := by
  obtain ⟨ex, z⟩ := z
  have hl := (List.getElem?_eq_some_iff.mp e).1
  have a := congrArg (fun w => w[k]?) z
  simp only [List.getElem?_map, e2] at a
  rw [List.getElem?_append_left (by rw [List.length_map]; exact hl), List.getElem?_map, e] at a
  simpa using a
/-- all sizes: the first cells' and the new ones' -/
theorem zs_sz {h h2 : db_H} {m : Nat} (z : zs h h2) (hm : ∀ k c, h.length ≤ k → h2[k]? = some c → db_cz c ≤ m) : db_sz h2 ≤ db_sz h + m * (h2.length - h.length) := by
  obtain ⟨ex, z⟩ := z
  have el : ex.length = h2.length - h.length := by
    have := congrArg List.length z
    rw [List.length_map, List.length_append, List.length_map] at this
    omega
  have hb : ∀ x ∈ ex, x ≤ m := by
    intro x hx
    obtain ⟨i, hi, e⟩ := List.getElem_of_mem hx
    have a : (h2.map db_cz)[h.length + i]? = (h.map db_cz ++ ex)[h.length + i]? := by rw [z]
    rw [List.getElem?_append_right (by rw [List.length_map]; omega), List.length_map, Nat.add_sub_cancel_left, List.getElem?_eq_getElem hi, List.getElem?_map] at a
    cases hc : h2[h.length + i]? with
    | none =>
      rw [hc] at a
      cases a
    | some c =>
      rw [hc] at a
      have : db_cz c = ex[i] := by simpa using a
      rw [← e, ← this]
      exact hm _ c (by omega) hc
  have sb : ∀ (l : List Nat), (∀ x ∈ l, x ≤ m) → l.sum ≤ m * l.length := by
    intro l
    induction l with
    | nil => intro _; exact Nat.zero_le _
    | cons x l ih =>
      intro hx
      have a := hx x List.mem_cons_self
      have b := ih (fun y hy => hx y (List.mem_cons_of_mem _ hy))
      rw [List.sum_cons, List.length_cons, Nat.mul_succ]
      omega
  have := sb ex hb
  unfold db_sz
  rw [z, List.sum_append, ← el]
  omega
/-- a log's room stays -/
theorem cap_zs {h h2 : db_H} {o fc j : Nat} {N : List Nt} {own : Option Ow} (z : zs h h2) (c : cap h fc j) (L : cL h2 o fc N own) : cap h2 fc j := by
  obtain ⟨fa, c1, c3, c4⟩ := c
  obtain ⟨_, ⟨fb, b1, _⟩, _⟩ := L
  have := zs_at z c1 b1
  exact ⟨fb, b1, by show fb.length = _; rw [← c3]; exact this, c4⟩
