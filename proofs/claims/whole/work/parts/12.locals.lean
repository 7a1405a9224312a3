/-! abstract and machine: references, values, cells, locals -/
abbrev db_G : Type := Nat × (Nat → Nat) × va_G × ClassId × ClassId
def db_ad (G : db_G) (k : Nat) : Nat := if k < db_n then G.2.1 k else G.1 + (k - db_n)
def db_va (G : db_G) (v : Value) : Value := match v with
  | .int x => .int x
  | .ref k => .ref (db_ad G k)
  | _ => .null
def db_en (G : db_G) (c : db_C) : va_E := match c with
  | .inl a => .inl ((if a.1 = 0 then G.2.2.2.1 else G.2.2.2.2), a.2.length, .inl (fun i => a.2.getD i 0))
  | .inr o => .inr (o.1, o.2.map (db_va G))
def db_A (G : db_G) : Nat → Prop := fun q => G.1 ≤ q
def db_Rl (G : db_G) (cl : List vw_C) (T h : db_H) (H : Heap) : Prop := db_n ≤ h.length ∧ H.size = G.1 + (h.length - db_n) ∧ (∀ k, k < db_n → h[k]? = T[k]?) ∧ ∀ (k : Nat) (c : db_C), db_n ≤ k → h[k]? = some c → va_at G.2.2.1 cl (G.1 + (k - db_n), db_en G c) H
theorem db_ad_dyn {G : db_G} {k : Nat} (h : ¬ k < db_n) : db_ad G k = G.1 + (k - db_n) := if_neg h
theorem db_va_cat (G : db_G) (v : Value) : (db_va G v).category = 1 := by cases v <;> rfl
def db_lr (G : db_G) (L : List Value) (ls : Array Slot) : Prop := ls.size = L.length ∧ lv_wf ls ∧ ∀ (i : Nat) (v : Value), L[i]? = some v → db_c1 v = true → ls[i]? = some (.val (db_va G v))
def db_lv (G : db_G) (L : List Value) : List (Nat × Value) := (List.range L.length).filterMap (fun i => match L[i]? with
  | some v => if db_c1 v then some (i, db_va G v) else none
  | none => none)
theorem db_lv_mem {G : db_G} {L : List Value} {i : Nat} {w : Value} : (i, w) ∈ db_lv G L ↔ ∃ v, L[i]? = some v ∧ db_c1 v = true ∧ w = db_va G v := by
  unfold db_lv
  rw [List.mem_filterMap]
  constructor
  · rintro ⟨j, hj, h⟩
    cases hv : L[j]? with
    | none => simp [hv] at h
    | some v =>
      by_cases hc : db_c1 v = true
      · simp [hv, hc] at h
        obtain ⟨rfl, rfl⟩ := h
        exact ⟨v, hv, hc, rfl⟩
      · simp [hv, hc] at h
  · rintro ⟨v, hv, hc, rfl⟩
    refine ⟨i, List.mem_range.mpr (List.getElem?_eq_some_iff.mp hv).1, ?_⟩
    simp [hv, hc]
theorem db_lr_has {G : db_G} {L : List Value} {ls : Array Slot} (h : db_lr G L ls) : lv_has ls L.length (db_lv G L) := ⟨h.1, h.2.1, fun q hq => by
  obtain ⟨i, w⟩ := q
  obtain ⟨v, hv, hc, rfl⟩ := db_lv_mem.mp hq
  exact h.2.2 i v hv hc⟩
theorem db_lr_set {G : db_G} {L : List Value} {ls' : Array Slot} {i : Nat} {v : Value} (hi : i < L.length) (hv : lv_has ls' L.length ((i, db_va G v) :: (db_lv G L).filter (fun q => !(q.1 == i) && !(q.1 + 1 == i && q.2.category == 2)))) : db_lr G (L.set i v) ls' := by
  refine ⟨by rw [List.length_set]; exact hv.1, hv.2.1, fun j w hj hc => ?_⟩
  by_cases hij : j = i
  · subst hij
    rw [List.getElem?_set_self hi] at hj
    cases hj
    exact hv.2.2 (j, db_va G v) List.mem_cons_self
  · rw [List.getElem?_set_ne (Ne.symm hij)] at hj
    refine hv.2.2 (j, db_va G w) (List.mem_cons_of_mem _ (List.mem_filter.mpr ⟨db_lv_mem.mpr ⟨w, hj, hc, rfl⟩, ?_⟩))
    simp [hij, db_va_cat]
