/-! rows for runs by equations -/
def db_inx (i : Nat) (n : Int32) (pc : Nat) (L S : List Value) (h : db_H) : Option db_R := match L[i]? with
  | some (.int x) => db_nx pc (L.set i (.int (x + n))) S h
  | _ => none
def db_gx (ci k pc o : Nat) (c : Option db_C) (L S : List Value) (h : db_H) : Option db_R := if o < db_n then none else match c with
  | some (.inr (c, fs)) => if c = ci then (match fs[k]? with
      | some v => if db_c1 v then db_nx pc L (v :: S) h else none
      | none => none) else none
  | _ => none
def db_fx (pc : Nat) (v : Option Value) (L S : List Value) (h : db_H) : Option db_R := match v with
  | some (.int x) => db_nx pc L (.int x :: S) h
  | some (.ref x) => db_nx pc L (.ref x :: S) h
  | some .null => db_nx pc L (.null :: S) h
  | _ => none
def db_px (ci k kd pc : Nat) (v : Value) (o : Nat) (c : Option db_C) (L S : List Value) (h : db_H) : Option db_R := if o < db_n then none else match c with
  | some (.inr (c, fs)) => if c = ci ∧ k < fs.length ∧ db_ft kd v = true then db_nx pc L S (h.set o (.inr (c, fs.set k v))) else none
  | _ => none
def db_lx (pc : Nat) (c : Option db_C) (L S : List Value) (h : db_H) : Option db_R := match c with
  | some (.inl (_, l)) => db_nx pc L (.int (nI l.length) :: S) h
  | _ => none
def db_ax (t pc : Nat) (i : Int32) (c : Option db_C) (L S : List Value) (h : db_H) : Option db_R := match c with
  | some (.inl (u, l)) => if u = t ∧ db_in i l.length = true then db_nx pc L (.int (l.getD i.toNatClampNeg 0) :: S) h else none
  | _ => none
def db_sx (t pc : Nat) (x i : Int32) (o : Nat) (c : Option db_C) (L S : List Value) (h : db_H) : Option db_R := if o < db_n then none else match c with
  | some (.inl (u, l)) => if u = t ∧ db_in i l.length = true ∧ db_ft t (.int x) = true then db_nx pc L S (h.set o (.inl (u, l.set i.toNatClampNeg x))) else none
  | _ => none
section RUN
variable {y pc : Nat} {L S : List Value} {h : db_H} {P : Option Value → db_H → Prop} {X : Prop}
theorem gs_ldi {x : Int32} : db_Gs y L h P (db_ldi (some (.int x)) pc L S h) ↔ db_Go y pc L (.int x :: S) h P := Iff.rfl
theorem gs_lda {x : Nat} : db_Gs y L h P (db_lda (some (.ref x)) pc L S h) ↔ db_Go y pc L (.ref x :: S) h P := Iff.rfl
theorem gs_ldn : db_Gs y L h P (db_lda (some .null) pc L S h) ↔ db_Go y pc L (.null :: S) h P := Iff.rfl
theorem gs_inx {i : Nat} {n x : Int32} (hx : L[i]? = some (.int x)) : db_Gs y L h P (db_inx i n pc L S h) ↔ db_Go y pc (L.set i (.int (x + n))) S h P := by
  unfold db_inx
  rw [hx]
  exact Iff.rfl
theorem gs_if {c : Prop} [Decidable c] {pc1 : Nat} {L1 S1 : List Value} {h1 : db_H} (k : X ↔ db_Gs y L h P (if c then some (.inl (pc1, L1, S1, h1)) else none)) : X ↔ c ∧ db_Go y pc1 L1 S1 h1 P := by
  rw [k]
  by_cases hc : c
  · rw [if_pos hc]
    exact ⟨fun q => ⟨hc, q⟩, fun q => q.2⟩
  · rw [if_neg hc]
    exact ⟨fun q => q.elim, fun q => absurd q.1 hc⟩
theorem gs_sti {i : Nat} {x : Int32} (k : X ↔ db_Gs y L h P (db_sti i pc L (.int x :: S) h)) : X ↔ i < L.length ∧ db_Go y pc (L.set i (.int x)) S h P := gs_if k
theorem gs_sta {i x : Nat} (k : X ↔ db_Gs y L h P (db_sta i pc L (.ref x :: S) h)) : X ↔ i < L.length ∧ db_Go y pc (L.set i (.ref x)) S h P := gs_if k
theorem gs_dv {f : Int32 → Int32 → Int32} {x z : Int32} (k : X ↔ db_Gs y L h P (db_dv f pc L (.int z :: .int x :: S) h)) : X ↔ ¬ z = nI 0 ∧ db_Go y (pc + 1) L (.int (f x z) :: S) h P := by
  rw [k]
  show db_Gs y L h P (if z = nI 0 then none else _) ↔ _
  by_cases hc : z = nI 0
  · rw [if_pos hc]
    exact ⟨fun q => q.elim, fun q => absurd hc q.1⟩
  · rw [if_neg hc]
    exact ⟨fun q => ⟨hc, q⟩, fun q => q.2⟩
theorem gs_n8 {pc1 : Nat} {L1 S1 : List Value} {h1 : db_H} (k : X ↔ db_Gs y L h P (if 8 < S.length then none else some (.inl (pc1, L1, S1, h1)))) : X ↔ S.length ≤ 8 ∧ db_Go y pc1 L1 S1 h1 P := by
  rw [k]
  by_cases hc : 8 < S.length
  · rw [if_pos hc]
    exact ⟨fun q => q.elim, fun q => absurd q.1 (by omega)⟩
  · rw [if_neg hc]
    exact ⟨fun q => ⟨by omega, q⟩, fun q => q.2⟩
theorem cp_eq {x v : Int32} : db_cp .eq x v = true ↔ x = v := by simp [db_cp]
theorem cp_ne {x v : Int32} : db_cp .ne x v = true ↔ ¬ (x = v) := by simp [db_cp]
theorem cp_lt {x v : Int32} : db_cp .lt x v = true ↔ x < v := by simp [db_cp]
theorem cp_ge {x v : Int32} : db_cp .ge x v = true ↔ v ≤ x := by simp [db_cp]
theorem cp_gt {x v : Int32} : db_cp .gt x v = true ↔ v < x := by simp [db_cp]
theorem cp_le {x v : Int32} : db_cp .le x v = true ↔ x ≤ v := by simp [db_cp]
theorem gs_i1 {b : Bool} {c : Prop} [Decidable c] {pc1 pc2 : Nat} {L1 S1 L2 S2 : List Value} {h1 h2 : db_H} (hc : b = true ↔ c) (k : X ↔ db_Gs y L h P (if b = true then some (.inl (pc1, L1, S1, h1)) else some (.inl (pc2, L2, S2, h2)))) : X ↔ if c then db_Go y pc1 L1 S1 h1 P else db_Go y pc2 L2 S2 h2 P := by
  rw [k]
  by_cases h1 : c
  · rw [if_pos h1, if_pos (hc.mpr h1)]
    exact Iff.rfl
  · rw [if_neg h1, if_neg (fun z => h1 (hc.mp z))]
    exact Iff.rfl
theorem gs_zr {v : Int32} (k : X ↔ db_Gs y L h P (db_irt [1] [.int v])) : X ↔ (v = nI 0 ∨ v = nI 1) ∧ P (some (.int v)) h := by
  rw [k]
  have e : db_ft 1 (.int v) = true ↔ (v = nI 0 ∨ v = nI 1) := by
    show ((1 : Nat) == 0 || ((1 : Nat) == 1 && (decide (v = 0) || decide (v = 1)))) = true ↔ _
    simp only [Bool.or_eq_true, Bool.and_eq_true, decide_eq_true_eq]
    exact ⟨fun q => q.elim (fun z => by cases z) (fun z => z.2), fun q => Or.inr ⟨rfl, q⟩⟩
  show db_Gs y L h P (if db_ft 1 (.int v) = true then _ else none) ↔ _
  by_cases hc : db_ft 1 (.int v) = true
  · rw [if_pos hc]
    exact ⟨fun q => ⟨e.mp hc, q⟩, fun q => q.2⟩
  · rw [if_neg hc]
    exact ⟨fun q => q.elim, fun q => absurd (e.mpr q.1) hc⟩
theorem gs_gx {ci k o : Nat} {fs : List Value} (ho : ¬ o < db_n) : db_Gs y L h P (db_gx ci k pc o (some (.inr (ci, fs))) L S h) ↔ db_Gs y L h P (db_fx pc fs[k]? L S h) := by
  unfold db_gx db_fx
  rw [if_neg ho]
  dsimp only
  rw [if_pos rfl]
  cases fs[k]? with
  | none => exact Iff.rfl
  | some v => cases v <;> exact Iff.rfl
theorem fx_int {x : Int32} : db_Gs y L h P (db_fx pc (some (.int x)) L S h) ↔ db_Go y pc L (.int x :: S) h P := Iff.rfl
theorem fx_ref {x : Nat} : db_Gs y L h P (db_fx pc (some (.ref x)) L S h) ↔ db_Go y pc L (.ref x :: S) h P := Iff.rfl
theorem fx_null : db_Gs y L h P (db_fx pc (some .null) L S h) ↔ db_Go y pc L (.null :: S) h P := Iff.rfl
theorem gs_px {ci k kd o : Nat} {fs : List Value} {v : Value} (ho : ¬ o < db_n) : db_Gs y L h P (db_px ci k kd pc v o (some (.inr (ci, fs))) L S h) ↔ (k < fs.length ∧ db_ft kd v = true) ∧ db_Go y pc L S (h.set o (.inr (ci, fs.set k v))) P := by
  unfold db_px
  rw [if_neg ho]
  dsimp only
  by_cases hc : k < fs.length ∧ db_ft kd v = true
  · rw [if_pos ⟨rfl, hc⟩]
    exact ⟨fun q => ⟨hc, q⟩, fun q => q.2⟩
  · rw [if_neg (fun z => hc z.2)]
    exact ⟨fun q => q.elim, fun q => absurd q.1 hc⟩
theorem gs_lx {t : Nat} {l : List Int32} : db_Gs y L h P (db_lx pc (some (.inl (t, l))) L S h) ↔ db_Go y pc L (.int (nI l.length) :: S) h P := Iff.rfl
theorem gs_ax {t : Nat} {i : Int32} {l : List Int32} : db_Gs y L h P (db_ax t pc i (some (.inl (t, l))) L S h) ↔ db_in i l.length = true ∧ db_Go y pc L (.int (l.getD i.toNatClampNeg 0) :: S) h P := by
  unfold db_ax
  dsimp only
  by_cases hc : db_in i l.length = true
  · rw [if_pos ⟨rfl, hc⟩]
    exact ⟨fun q => ⟨hc, q⟩, fun q => q.2⟩
  · rw [if_neg (fun z => hc z.2)]
    exact ⟨fun q => q.elim, fun q => absurd q.1 hc⟩
theorem gs_sx {t o : Nat} {x i : Int32} {l : List Int32} (ho : ¬ o < db_n) : db_Gs y L h P (db_sx t pc x i o (some (.inl (t, l))) L S h) ↔ (db_in i l.length = true ∧ db_ft t (.int x) = true) ∧ db_Go y pc L S (h.set o (.inl (t, l.set i.toNatClampNeg x))) P := by
  unfold db_sx
  rw [if_neg ho]
  dsimp only
  by_cases hc : db_in i l.length = true ∧ db_ft t (.int x) = true
  · rw [if_pos ⟨rfl, hc⟩]
    exact ⟨fun q => ⟨hc, q⟩, fun q => q.2⟩
  · rw [if_neg (fun z => hc z.2)]
    exact ⟨fun q => q.elim, fun q => absurd q.1 hc⟩
theorem ft_int {x : Int32} : db_ft 0 (.int x) = true := rfl
theorem ft_b0 : db_ft 1 (.int (nI 0)) = true := rfl
theorem ft_b1 : db_ft 1 (.int (nI 1)) = true := rfl
theorem ft_ref {k : Nat} : db_ft 2 (.ref k) = true := rfl
theorem c1_int {x : Int32} : db_c1 (.int x) = true := rfl
theorem c1_ref {k : Nat} : db_c1 (.ref k) = true := rfl
/-- calls -/
theorem db_inv_s {ai : db_I} {z n rc : Nat} {t : List Nat} {as : List Value} (ha : ai.2.2 = 0 :: z :: n :: rc :: t) (hn : as.length = n) (hc : as.all db_c1 = true) (h8 : S.length ≤ 8) : db_inv false ai pc L (as.reverse ++ S) h = some (.inr (.inl (z, as, S, pc + 3))) := by
  subst hn
  have e1 : (as.reverse ++ S).take as.length = as.reverse := by
    rw [← List.length_reverse (as := as)]
    exact List.take_left
  have e2 : (as.reverse ++ S).drop as.length = S := by
    rw [← List.length_reverse (as := as)]
    exact List.drop_left
  unfold db_inv
  rw [ha]
  split
  · rename_i heq
    cases heq
    rw [e1, e2, if_pos ⟨by simp, by simp; omega, by rw [List.all_reverse]; exact hc⟩, if_neg (by decide), List.reverse_reverse]
  all_goals first | (rename_i heq; cases heq; done) | (rename_i a b c d e; exact (a _ _ _ _ rfl).elim)
theorem db_inv_v {ai : db_I} {z n rc o : Nat} {t : List Nat} {as fs : List Value} (ha : ai.2.2 = 0 :: z :: n :: rc :: t) (hn : (Value.ref o :: as).length = n) (hc : (Value.ref o :: as).all db_c1 = true) (h8 : S.length ≤ 8) (ho5 : ¬ o < db_n) (ho : h[o]? = some (.inr (rc, fs))) : db_inv true ai pc L ((Value.ref o :: as).reverse ++ S) h = some (.inr (.inl (z, .ref o :: as, S, pc + 3))) := by
  have key : ∀ q : List Value, q = Value.ref o :: as → q.length = n → q.all db_c1 = true → db_inv true ai pc L (q.reverse ++ S) h = some (.inr (.inl (z, q, S, pc + 3))) := by
    intro q hq hn hc
    subst hn
    have e1 : (q.reverse ++ S).take q.length = q.reverse := by
      rw [← List.length_reverse (as := q)]
      exact List.take_left
    have e2 : (q.reverse ++ S).drop q.length = S := by
      rw [← List.length_reverse (as := q)]
      exact List.drop_left
    unfold db_inv
    rw [ha]
    split
    · rename_i heq
      cases heq
      rw [e1, e2, if_pos ⟨by simp, by simp; omega, by rw [List.all_reverse]; exact hc⟩, if_pos rfl, List.reverse_reverse]
      subst hq
      dsimp only
      rw [if_neg ho5, ho]
      exact if_pos rfl
    all_goals first | (rename_i heq; cases heq; done) | (rename_i a b c d e; exact (a _ _ _ _ rfl).elim)
  exact key _ rfl hn hc
theorem gc_s {ai : db_I} {z n rc : Nat} {t : List Nat} {S1 : List Value} (as : List Value) (hk : db_lk y pc = some ai) (hI : db_stp ai pc L S1 h = db_inv false ai pc L S1 h) (ha : ai.2.2 = 0 :: z :: n :: rc :: t) (hS : S1 = as.reverse ++ S) (hn : as.length = n) (hc : as.all db_c1 = true) (hl : as.length ≤ db_ml z) (h8 : S.length ≤ 8)
    (k : db_Go z 0 (db_ent (db_ml z) as) [] h (fun r h1 => db_Go y (pc + 3) L (r.toList ++ S) h1 P)) : db_Go y pc L S1 h P := by
  subst hS
  rw [db_go hk, hI, db_inv_s ha hn hc h8]
  exact ⟨hl, k⟩
theorem gc_v {ai : db_I} {z n rc o : Nat} {t : List Nat} {S1 fs : List Value} (as : List Value) (hk : db_lk y pc = some ai) (hI : db_stp ai pc L S1 h = db_inv true ai pc L S1 h) (ha : ai.2.2 = 0 :: z :: n :: rc :: t) (hS : S1 = (Value.ref o :: as).reverse ++ S) (hn : (Value.ref o :: as).length = n) (hc : (Value.ref o :: as).all db_c1 = true) (hl : (Value.ref o :: as).length ≤ db_ml z) (h8 : S.length ≤ 8) (ho5 : ¬ o < db_n) (ho : h[o]? = some (.inr (rc, fs)))
    (k : db_Go z 0 (db_ent (db_ml z) (.ref o :: as)) [] h (fun r h1 => db_Go y (pc + 3) L (r.toList ++ S) h1 P)) : db_Go y pc L S1 h P := by
  subst hS
  rw [db_go hk, hI, db_inv_v ha hn hc h8 ho5 ho]
  exact ⟨hl, k⟩
end RUN
/-- the cells: reading behind a store -/
theorem hs_same {h : db_H} {o : Nat} {c0 c : db_C} (ho : h[o]? = some c0) : (h.set o c)[o]? = some c := List.getElem?_set_self (List.getElem?_eq_some_iff.mp ho).1
theorem hs_ne {h : db_H} {o r : Nat} {c : db_C} (hn : ¬ r = o) : (h.set r c)[o]? = h[o]? := List.getElem?_set_ne hn
