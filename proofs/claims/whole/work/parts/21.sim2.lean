/-! every step; the simulation at every fuel -/
section DBS6
variable {p : Program} {l : Launch} {e : Env} {R : Room} {s : State} {m : MethodId} {args : Array Value} {below : List Frame} {meth : Method} {c : Code} {H : Heap} {locs : List Loc} {cells slots : Nat} {Q : State → Prop}
variable {pc : Nat} {ls : Array Slot} {G : db_G} {T h h' : db_H} {y pc' : Nat} {L S L' S' : List Value}
set_option maxHeartbeats 4000000 in
theorem db_step {ai : db_I} (C : db_Cx G T p s m args meth c y) (hok : db_ok y pc ai = true) (hs : db_stp ai pc L S h = some (.inl (pc', L', S', h')))
    (hL : db_lr G L ls) (hLn : L.length = db_ml y) (hR : db_Rl G db_cl T h H) (hS : va_S (db_A G) s.heap H locs)
    (hfr : db_dp y ≤ R.frames) (hlo : db_lo y ≤ R.locals) (hc1 : cells + (h'.length - h.length) ≤ R.cells) (hc2 : slots + (db_sz h' - db_sz h) ≤ R.slots)
    (kk : db_kk p l e R s m args below meth c cells slots Q G T y pc' L' S' h h') : W p l e R s m args below meth c H locs cells slots Q (F0 m pc ls (S.map (db_va G))) := by
  obtain ⟨i, n, a⟩ := ai
  have hc1' : cells ≤ R.cells := by omega
  have hc2' : slots ≤ R.slots := by omega
  cases i
  case invokevirtual k =>
    obtain ⟨hd, hx⟩ := db_ok_inv hok
    obtain ⟨hn, hw⟩ := db_okx_ln (by intros; nofun) (by intros; nofun) hx
    subst hn
    exact db_step4 (kd := 0) C hd hw ⟨nofun, nofun⟩ hs hL hLn hR hS hfr hlo hc1' hc2' kk
  case invokespecial k =>
    obtain ⟨hd, hx⟩ := db_ok_inv hok
    obtain ⟨hn, hw⟩ := db_okx_ln (by intros; nofun) (by intros; nofun) hx
    subst hn
    exact db_step4 (kd := 1) C hd hw ⟨nofun, fun _ => rfl⟩ hs hL hLn hR hS hfr hlo hc1' hc2' kk
  case invokestatic k =>
    obtain ⟨hd, hx⟩ := db_ok_inv hok
    obtain ⟨hn, hw⟩ := db_okx_ln (by intros; nofun) (by intros; nofun) hx
    subst hn
    exact db_step4 (kd := 2) C hd hw ⟨fun _ => rfl, nofun⟩ hs hL hLn hR hS hfr hlo hc1' hc2' kk
  case ireturn =>
    exfalso
    simp only [db_stp, db_inc, db_neg, db_dup, db_pop, db_dp2, db_if1, db_if2, db_nul, db_nnl, db_tbs, db_lks, db_aln, db_nwa, db_irt, db_art, db_vrt] at hs
    repeat' split at hs
    all_goals cases hs
  case areturn =>
    exfalso
    simp only [db_stp, db_inc, db_neg, db_dup, db_pop, db_dp2, db_if1, db_if2, db_nul, db_nnl, db_tbs, db_lks, db_aln, db_nwa, db_irt, db_art, db_vrt] at hs
    repeat' split at hs
    all_goals cases hs
  case return_ =>
    exfalso
    simp only [db_stp, db_inc, db_neg, db_dup, db_pop, db_dp2, db_if1, db_if2, db_nul, db_nnl, db_tbs, db_lks, db_aln, db_nwa, db_irt, db_art, db_vrt] at hs
    repeat' split at hs
    all_goals cases hs
  all_goals first
    | (exact db_step1 C hok hs hL hLn hR hS trivial kk)
    | (exact db_step2 C hok hs hL hLn hR hS trivial kk)
    | (exact db_step3 C hok hs hL hLn hR hS hc1 hc2 trivial kk)
    | (cases hs; done)
end DBS6
set_option maxHeartbeats 4000000 in
theorem db_sim (l : Launch) (G : db_G) (T : db_H) : ∀ f, db_SIM l G T f
  | 0 => by
    intro y pc L S h v h' e0
    simp [db_run] at e0
  | f + 1 => by
    have IH := db_sim l G T f
    intro y pc L S h v h' e0 p e R s m args below meth c Q ls H locs cells slots C hL hLn hR hS hfr hlo hc1 hc2 kk
    cases hk : db_lk y pc with
    | none => simp [db_run, hk] at e0
    | some ai =>
      have hok := db_ok_all hk
      cases hs : db_stp ai pc L S h with
      | none => simp [db_run, hk, hs] at e0
      | some r =>
        rcases r with ⟨pc1, L1, S1, h1⟩ | (⟨z, as, S1, pc1⟩ | w)
        · simp only [db_run, hk, hs] at e0
          have g := db_grow_stp pc1 L1 S1 h1 hs
          have g2 := db_run_grow f y pc1 L1 S1 h1 v h' e0
          refine db_step C hok hs hL hLn hR hS hfr hlo (by omega) (by omega) ?_
          intro ls' H' locs' hL' hLn' hR' hS'
          refine IH y pc1 L1 S1 h1 v h' e0 p e R s m args below meth c Q ls' H' locs' _ _ C hL' hLn' hR' hS' hfr hlo (by omega) (by omega) ?_
          intro pc2 ls2 H2 locs2 ins q1 q2 q3 q4
          have q := kk pc2 ls2 H2 locs2 ins q1 q2 q3 q4
          rw [show cells + (h1.length - h.length) + (h'.length - h1.length) = cells + (h'.length - h.length) by omega, show slots + (db_sz h1 - db_sz h) + (db_sz h' - db_sz h1) = slots + (db_sz h' - db_sz h) by omega]
          exact q
        · simp only [db_run, hk, hs] at e0
          by_cases hl : as.length ≤ db_ml z
          · rw [if_pos hl] at e0
            cases hc : db_run db_lk db_ml f z 0 (db_ent (db_ml z) as) [] h with
            | none => simp [hc] at e0
            | some q =>
              obtain ⟨v1, h1⟩ := q
              simp only [hc] at e0
              have g1 := db_run_grow f z 0 _ [] h v1 h1 hc
              have g2 := db_run_grow f y pc1 L _ h1 v h' e0
              have hM : 1 ≤ z → z < 176 → as.all db_c1 = true → db_Mt l G T z as h v1 h1 := fun a1 a2 a3 => db_met IH a1 a2 hc hl a3
              have kc : ∀ (H' : Heap) (locs' : List Loc), db_Rl G db_cl T h1 H' → va_S (db_A G) s.heap H' locs' → W p l e R s m args below meth c H' locs' (cells + (h1.length - h.length)) (slots + (db_sz h1 - db_sz h)) Q (F0 m pc1 ls ((v1.toList ++ S1).map (db_va G))) := by
                intro H' locs' hR' hS'
                refine IH y pc1 L (v1.toList ++ S1) h1 v h' e0 p e R s m args below meth c Q ls H' locs' _ _ C hL hLn hR' hS' hfr hlo (by omega) (by omega) ?_
                intro pc2 ls2 H2 locs2 ins q1 q2 q3 q4
                have q := kk pc2 ls2 H2 locs2 ins q1 q2 q3 q4
                rw [show cells + (h1.length - h.length) + (h'.length - h1.length) = cells + (h'.length - h.length) by omega, show slots + (db_sz h1 - db_sz h) + (db_sz h' - db_sz h1) = slots + (db_sz h' - db_sz h) by omega]
                exact q
              obtain ⟨i, n, a⟩ := ai
              by_cases hg : db_il (db_stp (i, n, a) pc L S h)
              · obtain ⟨q, hq⟩ := hg _ hs
                cases hq
              · cases i <;> first | (exact absurd (db_il_stp (by trivial)) hg) | skip
                case invokevirtual k =>
                  obtain ⟨hd, hx⟩ := db_ok_inv hok
                  obtain ⟨hn, hw⟩ := db_okx_ln (by intros; nofun) (by intros; nofun) hx
                  subst hn
                  exact db_call (kd := 0) C hd hw (Or.inl ⟨rfl, rfl, rfl⟩) hs hM hL hLn hR hS hfr hlo (by omega) (by omega) kc
                case invokespecial k =>
                  obtain ⟨hd, hx⟩ := db_ok_inv hok
                  obtain ⟨hn, hw⟩ := db_okx_ln (by intros; nofun) (by intros; nofun) hx
                  subst hn
                  exact db_call (kd := 1) C hd hw (Or.inr (Or.inl ⟨rfl, rfl, rfl⟩)) hs hM hL hLn hR hS hfr hlo (by omega) (by omega) kc
                case invokestatic k =>
                  obtain ⟨hd, hx⟩ := db_ok_inv hok
                  obtain ⟨hn, hw⟩ := db_okx_ln (by intros; nofun) (by intros; nofun) hx
                  subst hn
                  exact db_call (kd := 2) C hd hw (Or.inr (Or.inr ⟨rfl, rfl⟩)) hs hM hL hLn hR hS hfr hlo (by omega) (by omega) kc
                all_goals
                  exfalso
                  simp only [db_stp, db_inc, db_neg, db_dup, db_pop, db_dp2, db_if1, db_if2, db_nul, db_nnl, db_tbs, db_lks, db_aln, db_nwa, db_irt, db_art, db_vrt] at hs
                  repeat' split at hs
                  all_goals cases hs
          · rw [if_neg hl] at e0
            cases e0
        · simp only [db_run, hk, hs] at e0
          cases e0
          obtain ⟨ins, hd, hrk, hSe⟩ := db_ret_inv (G := G) hok hs
          subst hSe
          have q := kk pc ls H locs ins hd hrk hR hS
          rw [Nat.sub_self, Nat.sub_self] at q
          cases v <;> exact q
