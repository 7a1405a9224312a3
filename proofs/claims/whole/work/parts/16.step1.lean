/-! one instruction: the machine follows the interpreter -/
theorem db_nx_inj {pc pc' : Nat} {L L' S S' : List Value} {h h' : db_H} (e : db_nx pc L S h = some (.inl (pc', L', S', h'))) : pc' = pc ∧ L' = L ∧ S' = S ∧ h' = h := by
  cases e
  exact ⟨rfl, rfl, rfl, rfl⟩
section DBS
variable {p : Program} {l : Launch} {e : Env} {R : Room} {s : State} {m : MethodId} {args : Array Value} {below : List Frame} {meth : Method} {c : Code} {H : Heap} {locs : List Loc} {cells slots : Nat} {Q : State → Prop}
variable {pc : Nat} {ls : Array Slot} {G : db_G} {T h h' : db_H} {y pc' : Nat} {L S L' S' : List Value}
def db_kk (p : Program) (l : Launch) (e : Env) (R : Room) (s : State) (m : MethodId) (args : Array Value) (below : List Frame) (meth : Method) (c : Code) (cells slots : Nat) (Q : State → Prop) (G : db_G) (T : db_H) (y pc' : Nat) (L' S' : List Value) (h h' : db_H) : Prop :=
  ∀ (ls' : Array Slot) (H' : Heap) (locs' : List Loc), db_lr G L' ls' → L'.length = db_ml y → db_Rl G db_cl T h' H' → va_S (db_A G) s.heap H' locs' →
    W p l e R s m args below meth c H' locs' (cells + (h'.length - h.length)) (slots + (db_sz h' - db_sz h)) Q (F0 m pc' ls' (S'.map (db_va G)))
theorem db_kk.same (kk : db_kk p l e R s m args below meth c cells slots Q G T y pc' L' S' h h) (hL : db_lr G L' ls) (hn : L'.length = db_ml y) (hR : db_Rl G db_cl T h H) (hS : va_S (db_A G) s.heap H locs) : W p l e R s m args below meth c H locs cells slots Q (F0 m pc' ls (S'.map (db_va G))) := by
  have k := kk ls H locs hL hn hR hS
  rw [Nat.sub_self, Nat.sub_self] at k
  exact k
/-- reads and writes of locals, constants, arithmetic, the stack, branches: the heap stays -/
theorem db_ld {i : Nat} {v : Value} (hL : db_lr G L ls) (hv : L[i]? = some v) (hc : db_c1 v = true) : ls[i]? = some (.val (db_va G v)) := hL.2.2 i v hv hc
theorem db_sto {ls' : Array Slot} {i nL : Nat} {v : Value} (hn : L.length = nL) (hi : i < L.length) (hv : lv_has ls' nL ((i, db_va G v) :: (db_lv G L).filter (fun q => !(q.1 == i) && !(q.1 + 1 == i && q.2.category == 2)))) : db_lr G (L.set i v) ls' := by
  subst hn
  exact db_lr_set hi hv
set_option maxHeartbeats 4000000 in
theorem db_step1 {ai : db_I} (C : db_Cx G T p s m args meth c y) (hok : db_ok y pc ai = true) (hs : db_stp ai pc L S h = some (.inl (pc', L', S', h')))
    (hL : db_lr G L ls) (hLn : L.length = db_ml y) (hR : db_Rl G db_cl T h H) (hS : va_S (db_A G) s.heap H locs)
    (hi : match ai.1 with
      | .iconst _ => True | .bipush _ => True | .sipush _ => True | .ldc _ => True | .ldc_w _ => True | .aconst_null => True
      | .iload_n _ => True | .iload _ => True | .aload_n _ => True | .aload _ => True | .istore_n _ => True | .istore _ => True | .astore_n _ => True | .astore _ => True | .iinc _ _ => True
      | .iadd => True | .isub => True | .imul => True | .iand => True | .ior => True | .ixor => True | .ishl => True | .ishr => True | .iushr => True | .idiv => True | .irem => True | .ineg => True
      | .dup => True | .pop => True | .dup2 => True | .goto _ => True | .ifnull _ => True | .ifnonnull _ => True
      | _ => False)
    (kk : db_kk p l e R s m args below meth c cells slots Q G T y pc' L' S' h h') : W p l e R s m args below meth c H locs cells slots Q (F0 m pc ls (S.map (db_va G))) := by
  obtain ⟨i, n, a⟩ := ai
  obtain ⟨hd, hx⟩ := db_ok_inv hok
  obtain ⟨hX, hb, hml, hown, hts, hname, hWd⟩ := id C
  have hH := db_lr_has hL
  cases i <;> first | (exact hi.elim; done) | skip
  case iconst k =>
    obtain ⟨hn, hw⟩ := db_okx_ln (by intros; nofun) (by intros; nofun) hx
    subst hn
    cases hs
    exact lv_iconst hX hb hd rfl (kk.same hL hLn hR hS)
  case bipush k =>
    obtain ⟨hn, hw⟩ := db_okx_ln (by intros; nofun) (by intros; nofun) hx
    subst hn
    cases hs
    exact lv_bipush hX hb hd rfl (kk.same hL hLn hR hS)
  case sipush k =>
    obtain ⟨hn, hw⟩ := db_okx_ln (by intros; nofun) (by intros; nofun) hx
    subst hn
    cases hs
    exact lv_sipush hX hb hd rfl (kk.same hL hLn hR hS)
  case ldc k =>
    obtain ⟨hn, hw⟩ := db_okx_ln (by intros; nofun) (by intros; nofun) hx
    subst hn
    cases hs
    exact lv_ldc hX hb hown (hts _ (db_in_tb (of_decide_eq_true hw) rfl)) hd (kk.same hL hLn hR hS)
  case ldc_w k =>
    obtain ⟨hn, hw⟩ := db_okx_ln (by intros; nofun) (by intros; nofun) hx
    subst hn
    cases hs
    exact lv_ldcw hX hb hown (hts _ (db_in_tb (of_decide_eq_true hw) rfl)) hd (kk.same hL hLn hR hS)
  case aconst_null =>
    obtain ⟨hn, hw⟩ := db_okx_ln (by intros; nofun) (by intros; nofun) hx
    subst hn
    cases hs
    exact lv_null hX hb hd (kk.same hL hLn hR hS)
  case iload_n k =>
    obtain ⟨hn, hw⟩ := db_okx_ln (by intros; nofun) (by intros; nofun) hx
    subst hn
    simp only [db_stp, db_inc, db_neg, db_dup, db_pop, db_dp2, db_if1, db_if2, db_nul, db_nnl, db_tbs, db_lks, db_aln, db_nwa, db_irt, db_art, db_vrt, db_ldi] at hs
    split at hs
    · rename_i x hv
      cases hs
      exact lv_iload_n hX hb hd rfl (db_ld hL hv rfl) (kk.same hL hLn hR hS)
    · cases hs
  case iload k =>
    obtain ⟨hn, hw⟩ := db_okx_ln (by intros; nofun) (by intros; nofun) hx
    subst hn
    simp only [db_stp, db_inc, db_neg, db_dup, db_pop, db_dp2, db_if1, db_if2, db_nul, db_nnl, db_tbs, db_lks, db_aln, db_nwa, db_irt, db_art, db_vrt, db_ldi] at hs
    split at hs
    · rename_i x hv
      cases hs
      exact lv_iload hX hb hd (db_ld hL hv rfl) (kk.same hL hLn hR hS)
    · cases hs
  case aload_n k =>
    obtain ⟨hn, hw⟩ := db_okx_ln (by intros; nofun) (by intros; nofun) hx
    subst hn
    simp only [db_stp, db_inc, db_neg, db_dup, db_pop, db_dp2, db_if1, db_if2, db_nul, db_nnl, db_tbs, db_lks, db_aln, db_nwa, db_irt, db_art, db_vrt, db_lda] at hs
    split at hs
    · rename_i x hv
      cases hs
      exact lv_aload_n hX hb hd rfl (db_ld hL hv rfl) (kk.same hL hLn hR hS)
    · rename_i hv
      cases hs
      exact lv_aload_nN hX hb hd rfl (db_ld hL hv rfl) (kk.same hL hLn hR hS)
    · cases hs
  case aload k =>
    obtain ⟨hn, hw⟩ := db_okx_ln (by intros; nofun) (by intros; nofun) hx
    subst hn
    simp only [db_stp, db_inc, db_neg, db_dup, db_pop, db_dp2, db_if1, db_if2, db_nul, db_nnl, db_tbs, db_lks, db_aln, db_nwa, db_irt, db_art, db_vrt, db_lda] at hs
    split at hs
    · rename_i x hv
      cases hs
      exact lv_aload hX hb hd (db_ld hL hv rfl) (kk.same hL hLn hR hS)
    · rename_i hv
      cases hs
      exact lv_aloadN hX hb hd (db_ld hL hv rfl) (kk.same hL hLn hR hS)
    · cases hs
  case istore_n k =>
    obtain ⟨hn, hw⟩ := db_okx_ln (by intros; nofun) (by intros; nofun) hx
    subst hn
    simp only [db_stp, db_inc, db_neg, db_dup, db_pop, db_dp2, db_if1, db_if2, db_nul, db_nnl, db_tbs, db_lks, db_aln, db_nwa, db_irt, db_art, db_vrt, db_sti] at hs
    split at hs
    · rename_i x S0
      split at hs
      · rename_i hlt
        cases hs
        exact lv_istore_n hX hb hd rfl hH hlt rfl (fun ls' h2 => kk.same (db_sto rfl hlt h2) (by rw [List.length_set]; exact hLn) hR hS)
      · cases hs
    · cases hs
  case istore k =>
    obtain ⟨hn, hw⟩ := db_okx_ln (by intros; nofun) (by intros; nofun) hx
    subst hn
    simp only [db_stp, db_inc, db_neg, db_dup, db_pop, db_dp2, db_if1, db_if2, db_nul, db_nnl, db_tbs, db_lks, db_aln, db_nwa, db_irt, db_art, db_vrt, db_sti] at hs
    split at hs
    · rename_i x S0
      split at hs
      · rename_i hlt
        cases hs
        exact lv_istore hX hb hd hH hlt rfl (fun ls' h2 => kk.same (db_sto rfl hlt h2) (by rw [List.length_set]; exact hLn) hR hS)
      · cases hs
    · cases hs
  case astore_n k =>
    obtain ⟨hn, hw⟩ := db_okx_ln (by intros; nofun) (by intros; nofun) hx
    subst hn
    simp only [db_stp, db_inc, db_neg, db_dup, db_pop, db_dp2, db_if1, db_if2, db_nul, db_nnl, db_tbs, db_lks, db_aln, db_nwa, db_irt, db_art, db_vrt, db_sta] at hs
    split at hs
    · rename_i x S0
      split at hs
      · rename_i hlt
        cases hs
        exact lv_astore_n hX hb hd rfl hH hlt rfl (fun ls' h2 => kk.same (db_sto (v := .ref x) rfl hlt h2) (by rw [List.length_set]; exact hLn) hR hS)
      · cases hs
    · rename_i S0
      split at hs
      · rename_i hlt
        cases hs
        exact lv_astore_nN hX hb hd rfl hH hlt rfl (fun ls' h2 => kk.same (db_sto (v := .null) rfl hlt h2) (by rw [List.length_set]; exact hLn) hR hS)
      · cases hs
    · cases hs
  case astore k =>
    obtain ⟨hn, hw⟩ := db_okx_ln (by intros; nofun) (by intros; nofun) hx
    subst hn
    simp only [db_stp, db_inc, db_neg, db_dup, db_pop, db_dp2, db_if1, db_if2, db_nul, db_nnl, db_tbs, db_lks, db_aln, db_nwa, db_irt, db_art, db_vrt, db_sta] at hs
    split at hs
    · rename_i x S0
      split at hs
      · rename_i hlt
        cases hs
        exact lv_astore hX hb hd hH hlt rfl (fun ls' h2 => kk.same (db_sto (v := .ref x) rfl hlt h2) (by rw [List.length_set]; exact hLn) hR hS)
      · cases hs
    · rename_i S0
      split at hs
      · rename_i hlt
        cases hs
        exact lv_astoreN hX hb hd hH hlt rfl (fun ls' h2 => kk.same (db_sto (v := .null) rfl hlt h2) (by rw [List.length_set]; exact hLn) hR hS)
      · cases hs
    · cases hs
  case iinc k d =>
    obtain ⟨hn, hw⟩ := db_okx_ln (by intros; nofun) (by intros; nofun) hx
    subst hn
    simp only [db_stp, db_inc, db_neg, db_dup, db_pop, db_dp2, db_if1, db_if2, db_nul, db_nnl, db_tbs, db_lks, db_aln, db_nwa, db_irt, db_art, db_vrt] at hs
    split at hs
    · rename_i x hv
      cases hs
      have hlt : k < L.length := (List.getElem?_eq_some_iff.mp hv).1
      obtain ⟨q, hq⟩ := List.getElem?_of_mem (db_lv_mem (G := G).mpr ⟨_, hv, rfl, rfl⟩)
      exact lv_iinc hX hb hd hH (k := q) (x := x) hq rfl hlt rfl (fun ls' h2 => kk.same (db_sto (v := .int (x + Int32.ofInt d)) rfl hlt h2) (by rw [List.length_set]; exact hLn) hR hS)
    · cases hs
  case iadd =>
    obtain ⟨hn, hw⟩ := db_okx_ln (by intros; nofun) (by intros; nofun) hx
    subst hn
    simp only [db_stp, db_inc, db_neg, db_dup, db_pop, db_dp2, db_if1, db_if2, db_nul, db_nnl, db_tbs, db_lks, db_aln, db_nwa, db_irt, db_art, db_vrt, db_bin] at hs
    split at hs
    · cases hs
      exact lv_iadd hX hb hd (kk.same hL hLn hR hS)
    · cases hs
  case isub =>
    obtain ⟨hn, hw⟩ := db_okx_ln (by intros; nofun) (by intros; nofun) hx
    subst hn
    simp only [db_stp, db_inc, db_neg, db_dup, db_pop, db_dp2, db_if1, db_if2, db_nul, db_nnl, db_tbs, db_lks, db_aln, db_nwa, db_irt, db_art, db_vrt, db_bin] at hs
    split at hs
    · cases hs
      exact lv_isub hX hb hd (kk.same hL hLn hR hS)
    · cases hs
  case imul =>
    obtain ⟨hn, hw⟩ := db_okx_ln (by intros; nofun) (by intros; nofun) hx
    subst hn
    simp only [db_stp, db_inc, db_neg, db_dup, db_pop, db_dp2, db_if1, db_if2, db_nul, db_nnl, db_tbs, db_lks, db_aln, db_nwa, db_irt, db_art, db_vrt, db_bin] at hs
    split at hs
    · cases hs
      exact lv_imul hX hb hd (kk.same hL hLn hR hS)
    · cases hs
  case iand =>
    obtain ⟨hn, hw⟩ := db_okx_ln (by intros; nofun) (by intros; nofun) hx
    subst hn
    simp only [db_stp, db_inc, db_neg, db_dup, db_pop, db_dp2, db_if1, db_if2, db_nul, db_nnl, db_tbs, db_lks, db_aln, db_nwa, db_irt, db_art, db_vrt, db_bin] at hs
    split at hs
    · cases hs
      exact lv_iand hX hb hd (kk.same hL hLn hR hS)
    · cases hs
  case ior =>
    obtain ⟨hn, hw⟩ := db_okx_ln (by intros; nofun) (by intros; nofun) hx
    subst hn
    simp only [db_stp, db_inc, db_neg, db_dup, db_pop, db_dp2, db_if1, db_if2, db_nul, db_nnl, db_tbs, db_lks, db_aln, db_nwa, db_irt, db_art, db_vrt, db_bin] at hs
    split at hs
    · cases hs
      exact lv_ior hX hb hd (kk.same hL hLn hR hS)
    · cases hs
  case ixor =>
    obtain ⟨hn, hw⟩ := db_okx_ln (by intros; nofun) (by intros; nofun) hx
    subst hn
    simp only [db_stp, db_inc, db_neg, db_dup, db_pop, db_dp2, db_if1, db_if2, db_nul, db_nnl, db_tbs, db_lks, db_aln, db_nwa, db_irt, db_art, db_vrt, db_bin] at hs
    split at hs
    · cases hs
      exact lv_ixor hX hb hd (kk.same hL hLn hR hS)
    · cases hs
  case ishl =>
    obtain ⟨hn, hw⟩ := db_okx_ln (by intros; nofun) (by intros; nofun) hx
    subst hn
    simp only [db_stp, db_inc, db_neg, db_dup, db_pop, db_dp2, db_if1, db_if2, db_nul, db_nnl, db_tbs, db_lks, db_aln, db_nwa, db_irt, db_art, db_vrt, db_bin] at hs
    split at hs
    · cases hs
      exact lv_ishl hX hb hd (kk.same hL hLn hR hS)
    · cases hs
  case ishr =>
    obtain ⟨hn, hw⟩ := db_okx_ln (by intros; nofun) (by intros; nofun) hx
    subst hn
    simp only [db_stp, db_inc, db_neg, db_dup, db_pop, db_dp2, db_if1, db_if2, db_nul, db_nnl, db_tbs, db_lks, db_aln, db_nwa, db_irt, db_art, db_vrt, db_bin] at hs
    split at hs
    · cases hs
      exact lv_ishr hX hb hd (kk.same hL hLn hR hS)
    · cases hs
  case iushr =>
    obtain ⟨hn, hw⟩ := db_okx_ln (by intros; nofun) (by intros; nofun) hx
    subst hn
    simp only [db_stp, db_inc, db_neg, db_dup, db_pop, db_dp2, db_if1, db_if2, db_nul, db_nnl, db_tbs, db_lks, db_aln, db_nwa, db_irt, db_art, db_vrt, db_bin] at hs
    split at hs
    · cases hs
      exact lv_iushr hX hb hd rfl (kk.same hL hLn hR hS)
    · cases hs
  case idiv =>
    obtain ⟨hn, hw⟩ := db_okx_ln (by intros; nofun) (by intros; nofun) hx
    subst hn
    simp only [db_stp, db_inc, db_neg, db_dup, db_pop, db_dp2, db_if1, db_if2, db_nul, db_nnl, db_tbs, db_lks, db_aln, db_nwa, db_irt, db_art, db_vrt, db_dv] at hs
    split at hs
    · split at hs
      · cases hs
      · rename_i hne
        cases hs
        exact lv_idiv hX hb hd hne (kk.same hL hLn hR hS)
    · cases hs
  case irem =>
    obtain ⟨hn, hw⟩ := db_okx_ln (by intros; nofun) (by intros; nofun) hx
    subst hn
    simp only [db_stp, db_inc, db_neg, db_dup, db_pop, db_dp2, db_if1, db_if2, db_nul, db_nnl, db_tbs, db_lks, db_aln, db_nwa, db_irt, db_art, db_vrt, db_dv] at hs
    split at hs
    · split at hs
      · cases hs
      · rename_i hne
        cases hs
        exact lv_irem hX hb hd hne (kk.same hL hLn hR hS)
    · cases hs
  case ineg =>
    obtain ⟨hn, hw⟩ := db_okx_ln (by intros; nofun) (by intros; nofun) hx
    subst hn
    simp only [db_stp, db_inc, db_neg, db_dup, db_pop, db_dp2, db_if1, db_if2, db_nul, db_nnl, db_tbs, db_lks, db_aln, db_nwa, db_irt, db_art, db_vrt] at hs
    split at hs
    · cases hs
      exact lv_ineg hX hb hd (kk.same hL hLn hR hS)
    · cases hs
  case dup =>
    obtain ⟨hn, hw⟩ := db_okx_ln (by intros; nofun) (by intros; nofun) hx
    subst hn
    simp only [db_stp, db_inc, db_neg, db_dup, db_pop, db_dp2, db_if1, db_if2, db_nul, db_nnl, db_tbs, db_lks, db_aln, db_nwa, db_irt, db_art, db_vrt] at hs
    split at hs
    · cases hs
    · split at hs
      · cases hs
        exact lv_dup hX hb hd (db_va_cat _ _) (kk.same hL hLn hR hS)
      · cases hs
  case pop =>
    obtain ⟨hn, hw⟩ := db_okx_ln (by intros; nofun) (by intros; nofun) hx
    subst hn
    simp only [db_stp, db_inc, db_neg, db_dup, db_pop, db_dp2, db_if1, db_if2, db_nul, db_nnl, db_tbs, db_lks, db_aln, db_nwa, db_irt, db_art, db_vrt] at hs
    split at hs
    · cases hs
    · split at hs
      · cases hs
        exact lv_pop hX hb hd (db_va_cat _ _) (kk.same hL hLn hR hS)
      · cases hs
  case dup2 =>
    obtain ⟨hn, hw⟩ := db_okx_ln (by intros; nofun) (by intros; nofun) hx
    subst hn
    simp only [db_stp, db_inc, db_neg, db_dup, db_pop, db_dp2, db_if1, db_if2, db_nul, db_nnl, db_tbs, db_lks, db_aln, db_nwa, db_irt, db_art, db_vrt] at hs
    split at hs
    · split at hs
      · cases hs
        exact lv_dup2_11 hX hb hd (db_va_cat _ _) (db_va_cat _ _) (kk.same hL hLn hR hS)
      · cases hs
    · cases hs
  case goto o =>
    obtain ⟨hn, hw⟩ := db_okx_ln (by intros; nofun) (by intros; nofun) hx
    subst hn
    cases hs
    exact lv_goto hX hb hd (of_decide_eq_true hw) (kk.same hL hLn hR hS)
  case ifnull o =>
    obtain ⟨hn, hw⟩ := db_okx_ln (by intros; nofun) (by intros; nofun) hx
    subst hn
    simp only [db_stp, db_inc, db_neg, db_dup, db_pop, db_dp2, db_if1, db_if2, db_nul, db_nnl, db_tbs, db_lks, db_aln, db_nwa, db_irt, db_art, db_vrt] at hs
    split at hs
    · cases hs
      exact lv_ifnullN hX hb hd (of_decide_eq_true hw) (kk.same hL hLn hR hS)
    · cases hs
      exact lv_ifnull hX hb hd (kk.same hL hLn hR hS)
    · cases hs
  case ifnonnull o =>
    obtain ⟨hn, hw⟩ := db_okx_ln (by intros; nofun) (by intros; nofun) hx
    subst hn
    simp only [db_stp, db_inc, db_neg, db_dup, db_pop, db_dp2, db_if1, db_if2, db_nul, db_nnl, db_tbs, db_lks, db_aln, db_nwa, db_irt, db_art, db_vrt] at hs
    split at hs
    · cases hs
      exact lv_ifnonnull hX hb hd (of_decide_eq_true hw) (kk.same hL hLn hR hS)
    · cases hs
      exact lv_ifnonnullN hX hb hd (kk.same hL hLn hR hS)
    · cases hs
end DBS
