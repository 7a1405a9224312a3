/-! what a step that succeeds says of its stack and heap -/
theorem db_get_inv {ai : db_I} {pc : Nat} {L S : List Value} {h : db_H} {r : db_R} (h0 : db_get ai pc L S h = some r) : ∃ (k : Nat) (S0 fs : List Value) (v : Value), S = .ref k :: S0 ∧ ¬ k < db_n ∧ h[k]? = some (.inr (ai.2.2.getD 0 0, fs)) ∧ fs[ai.2.2.getD 1 0]? = some v ∧ db_c1 v = true ∧ r = .inl (pc + 3, L, v :: S0, h) := by
  unfold db_get at h0
  split at h0
  · rename_i k S0
    split at h0
    · cases h0
    · rename_i hk
      split at h0
      · rename_i c fs hc
        split at h0
        · rename_i he
          split at h0
          · rename_i v hv
            split at h0
            · rename_i h1
              cases h0
              subst he
              exact ⟨k, S0, fs, v, rfl, hk, hc, hv, h1, rfl⟩
            · cases h0
          · cases h0
        · cases h0
      · cases h0
  · cases h0
theorem db_put_inv {ai : db_I} {pc : Nat} {L S : List Value} {h : db_H} {r : db_R} (h0 : db_put ai pc L S h = some r) : ∃ (k : Nat) (S0 fs : List Value) (v : Value), S = v :: .ref k :: S0 ∧ ¬ k < db_n ∧ h[k]? = some (.inr (ai.2.2.getD 0 0, fs)) ∧ ai.2.2.getD 1 0 < fs.length ∧ db_ft (ai.2.2.getD 2 0) v = true ∧ r = .inl (pc + 3, L, S0, h.set k (.inr (ai.2.2.getD 0 0, fs.set (ai.2.2.getD 1 0) v))) := by
  unfold db_put at h0
  split at h0
  · rename_i v k S0
    split at h0
    · cases h0
    · rename_i hk
      split at h0
      · rename_i c fs hc
        split at h0
        · rename_i he
          cases h0
          obtain ⟨e1, e2, e3⟩ := he
          subst e1
          exact ⟨k, S0, fs, v, rfl, hk, hc, e2, e3, rfl⟩
        · cases h0
      · cases h0
  · cases h0
theorem db_ald_inv {t pc : Nat} {L S : List Value} {h : db_H} {r : db_R} (h0 : db_ald t pc L S h = some r) : ∃ (i : Int32) (k : Nat) (S0 : List Value) (l : List Int32), S = .int i :: .ref k :: S0 ∧ h[k]? = some (.inl (t, l)) ∧ db_in i l.length = true ∧ r = .inl (pc + 1, L, .int (l.getD i.toNatClampNeg 0) :: S0, h) := by
  unfold db_ald at h0
  split at h0
  · rename_i i k S0
    split at h0
    · rename_i u l hc
      split at h0
      · rename_i he
        cases h0
        obtain ⟨e1, e2⟩ := he
        subst e1
        exact ⟨i, k, S0, l, rfl, hc, e2, rfl⟩
      · cases h0
    · cases h0
  · cases h0
theorem db_ast_inv {t pc : Nat} {L S : List Value} {h : db_H} {r : db_R} (h0 : db_ast t pc L S h = some r) : ∃ (x i : Int32) (k : Nat) (S0 : List Value) (l : List Int32), S = .int x :: .int i :: .ref k :: S0 ∧ ¬ k < db_n ∧ h[k]? = some (.inl (t, l)) ∧ db_in i l.length = true ∧ db_ft t (.int x) = true ∧ r = .inl (pc + 1, L, S0, h.set k (.inl (t, l.set i.toNatClampNeg x))) := by
  unfold db_ast at h0
  split at h0
  · rename_i x i k S0
    split at h0
    · cases h0
    · rename_i hk
      split at h0
      · rename_i u l hc
        split at h0
        · rename_i he
          cases h0
          obtain ⟨e1, e2, e3⟩ := he
          subst e1
          exact ⟨x, i, k, S0, l, rfl, hk, hc, e2, e3, rfl⟩
        · cases h0
      · cases h0
  · cases h0
theorem db_new_inv {t pc : Nat} {L S : List Value} {h : db_H} {r : db_R} (h0 : db_new t pc L S h = some r) : ∃ (n : Int32) (S0 : List Value), S = .int n :: S0 ∧ ¬ n < 0 ∧ n.toNatClampNeg ≤ 100000 ∧ r = .inl (pc + 2, L, .ref h.length :: S0, h ++ [.inl (t, List.replicate n.toNatClampNeg 0)]) := by
  unfold db_new at h0
  split at h0
  · rename_i n S0
    split at h0
    · cases h0
    · rename_i hn
      cases h0
      exact ⟨n, S0, rfl, fun q => hn (Or.inl q), by
        rcases Nat.lt_or_ge 100000 n.toNatClampNeg with q | q
        · exact absurd (Or.inr q) hn
        · exact q, rfl⟩
  · cases h0
theorem db_acp_inv {pc : Nat} {L S : List Value} {h : db_H} {r : db_R} (h0 : db_acp pc L S h = some r) : ∃ (n dp sp : Int32) (a b : Nat) (S0 : List Value) (f g : List Int32), S = .int n :: .int dp :: .ref b :: .int sp :: .ref a :: S0 ∧ ¬ b < db_n ∧ ¬ a < db_n ∧ S0.length ≤ 8 ∧ h[a]? = some (.inl (0, f)) ∧ h[b]? = some (.inl (0, g)) ∧ ¬ sp < 0 ∧ ¬ dp < 0 ∧ ¬ n < 0 ∧ sp.toNatClampNeg + n.toNatClampNeg ≤ f.length ∧ dp.toNatClampNeg + n.toNatClampNeg ≤ g.length ∧ r = .inl (pc + 3, L, S0, h.set b (.inl (0, db_cpy f g sp.toNatClampNeg dp.toNatClampNeg n.toNatClampNeg))) := by
  unfold db_acp at h0
  split at h0
  · rename_i n dp b sp a S0
    split at h0
    · cases h0
    · rename_i hk
      split at h0
      · rename_i u f w g hf hg
        split at h0
        · rename_i he
          cases h0
          obtain ⟨e1, e2, e3, e4, e5, e6, e7⟩ := he
          subst e1; subst e2
          refine ⟨n, dp, sp, a, b, S0, f, g, rfl, fun q => hk (Or.inl q), fun q => hk (Or.inr (Or.inl q)), ?_, hf, hg, e3, e4, e5, e6, e7, rfl⟩
          rcases Nat.lt_or_ge 8 S0.length with q | q
          · exact absurd (Or.inr (Or.inr q)) hk
          · exact q
        · cases h0
      · cases h0
  · cases h0
theorem db_okx_ln {y pc n : Nat} {i : Instr} {a : List Nat} (hi : ∀ d lo hi o, i ≠ .tableswitch d lo hi o) (hj : ∀ d q, i ≠ .lookupswitch d q) (h : db_okx y pc (i, n, a) = true) : n = db_ln i ∧ db_okw y pc (i, n, a) = true := by
  cases i <;> first | (simpa [db_okx] using h) | exact absurd rfl (hi _ _ _ _) | exact absurd rfl (hj _ _)
theorem db_ok_inv {y pc : Nat} {ai : db_I} (h : db_ok y pc ai = true) : decode (db_by y) pc = .ok (ai.1, ai.2.1) ∧ db_okx y pc ai = true := by
  simpa [db_ok] using h
theorem db_okf_inv {y i : Nat} {a : List Nat} (h : db_okf y i a = true) : ∃ (C : String) (T : u_T) (N : Nat), db_cl[a.getD 0 0]? = some (C, T, N) ∧ a.getD 1 0 < N ∧ ((a.getD 4 0 = 0 ∧ lw_tbl[a.getD 3 0]? = some (.fieldLink (db_ow y) i (T (a.getD 1 0)).1 (T (a.getD 1 0)).2.1 (T (a.getD 1 0)).2.2.1)) ∨ (¬ a.getD 4 0 = 0 ∧ lw_tbl[a.getD 3 0]? = some (.fieldLinkNest (db_ow y) i (T (a.getD 1 0)).1 (T (a.getD 1 0)).2.1 (T (a.getD 1 0)).2.2.1 "DeflateBlocks"))) := by
  unfold db_okf at h
  split at h
  · rename_i C T N hc
    rw [Bool.and_eq_true, decide_eq_true_eq] at h
    refine ⟨C, T, N, hc, h.1, ?_⟩
    have h2 := h.2
    split at h2
    · rename_i e
      exact Or.inl ⟨e, of_decide_eq_true h2⟩
    · rename_i e
      exact Or.inr ⟨e, of_decide_eq_true h2⟩
  · cases h
theorem db_okp_inv {y : Nat} {a : List Nat} (h : db_okp y a = true) {C : String} {T : u_T} {N : Nat} (hc : db_cl[a.getD 0 0]? = some (C, T, N)) : ∃ ty, parseFieldDescriptor (T (a.getD 1 0)).2.2.1 = some ty ∧ db_kt ty = a.getD 2 0 ∧ ((T (a.getD 1 0)).2.2.2 = true → a.getD 4 0 = 0 ∧ (db_my y).name = "<init>" ∧ (T (a.getD 1 0)).1 = db_ow y) := by
  unfold db_okp at h
  rw [hc] at h
  simp only [Bool.and_eq_true] at h
  obtain ⟨h1, h2⟩ := h
  split at h1
  · rename_i ty ht
    refine ⟨ty, ht, of_decide_eq_true h1, fun hf => ?_⟩
    rw [if_pos hf] at h2
    simpa [and_assoc] using h2
  · cases h1
theorem db_fit {G : db_G} {ty : FieldType} {kd : Nat} {v : Value} (hk : db_kt ty = kd) (h : db_ft kd v = true) : narrow ty (db_va G v) = db_va G v ∧ fits ty (db_va G v) = true := by
  subst hk
  cases v with
  | int x =>
    cases ty with
    | int => exact ⟨rfl, rfl⟩
    | boolean =>
      have hx : x = 0 ∨ x = 1 := by simpa [db_ft, db_kt] using h
      rcases hx with rfl | rfl
      · exact ⟨(by decide +kernel : narrow .boolean (.int 0) = .int 0), (by decide +kernel : fits .boolean (.int 0) = true)⟩
      · exact ⟨(by decide +kernel : narrow .boolean (.int 1) = .int 1), (by decide +kernel : fits .boolean (.int 1) = true)⟩
    | _ => simp [db_ft, db_kt] at h
  | ref k =>
    cases ty with
    | array t => exact ⟨rfl, rfl⟩
    | object t => exact ⟨rfl, rfl⟩
    | _ => simp [db_ft, db_kt] at h
  | null =>
    cases ty with
    | array t => exact ⟨rfl, rfl⟩
    | object t => exact ⟨rfl, rfl⟩
    | _ => simp [db_ft, db_kt] at h
  | _ => simp [db_ft] at h
