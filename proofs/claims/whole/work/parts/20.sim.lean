/-! calls of our own methods, returns; the simulation -/
def db_wsm (z : Nat) : List Cond := .code (db_my z) (db_by z) (db_ml z) (db_rt z) :: db_tb
def db_rm (z : Nat) (h h1 : db_H) : Room := { frames := db_dp z, cells := h1.length - h.length, slots := db_sz h1 - db_sz h, locals := db_lo z }
def db_Pre (G : db_G) (T h : db_H) (U : State) : Prop := db_Rl G db_cl T h U.heap ∧ db_Wd G T U U.heap
def db_Qc (G : db_G) (T : db_H) (v : Option Value) (h1 : db_H) : Array Value → State → Outcome → State → Prop := fun _ st oc t => oc = .returned (v.map (db_va G)) ∧ db_Rl G db_cl T h1 t.heap ∧ va_F (db_A G) st t
abbrev db_Mt (l : Launch) (G : db_G) (T : db_H) (z : Nat) (as : List Value) (h : db_H) (v : Option Value) (h1 : db_H) : Prop := Met l (db_my z) (db_wsm z) (db_rm z h h1) (va_Pc (as.map (db_va G)) (db_Pre G T h)) (db_Qc G T v h1) (h1.length - h.length) (db_sz h1 - db_sz h) (db_A G)
theorem db_Pc_blind {G : db_G} {T h : db_H} {av : List Value} : FrameBlind (va_Pc av (db_Pre G T h)) := fun a U g mk q => ⟨q.1, q.2.1, db_Wd.same (u := U) (U := U.calling g mk a) rfl q.2.2⟩
theorem db_inv_r {vt : Bool} {ai : db_I} {pc z pc1 : Nat} {L S as S0 : List Value} {h : db_H} (h0 : db_inv vt ai pc L S h = some (.inr (.inl (z, as, S0, pc1)))) : ∃ (nn rc : Nat) (t : List Nat), ai.2.2 = 0 :: z :: nn :: rc :: t ∧ as.length = nn ∧ S = as.reverse ++ S0 ∧ S0.length ≤ 8 ∧ pc1 = pc + 3 ∧ as.all db_c1 = true ∧ (vt = true → ∃ (k : Nat) (as' fs : List Value), as = .ref k :: as' ∧ ¬ k < db_n ∧ h[k]? = some (.inr (rc, fs))) := by
  unfold db_inv at h0
  split at h0
  · rename_i y n rc t ha
    split at h0
    · rename_i hc
      have key : ∀ as0, as0 = (S.take n).reverse → as0.length = n ∧ S = as0.reverse ++ S.drop n ∧ (S.drop n).length ≤ 8 ∧ as0.all db_c1 = true := by
        intro as0 e
        subst e
        refine ⟨by simp; omega, by simp, by simp; omega, by rw [List.all_reverse]; exact hc.2.2⟩
      split at h0
      · rename_i hv
        split at h0
        · rename_i k as' hr
          split at h0
          · cases h0
          · rename_i hk
            split at h0
            · rename_i cc fs hcell
              split at h0
              · rename_i he
                cases h0
                obtain ⟨k1, k2, k3, k4⟩ := key _ rfl
                refine ⟨n, rc, t, ha, k1, k2, k3, rfl, k4, fun _ => ⟨k, as', fs, hr, hk, ?_⟩⟩
                rw [← he]
                exact hcell
              · cases h0
            · cases h0
        · cases h0
      · rename_i hv
        cases h0
        obtain ⟨k1, k2, k3, k4⟩ := key _ rfl
        exact ⟨n, rc, t, ha, k1, k2, k3, rfl, k4, fun q => absurd q hv⟩
    · cases h0
  all_goals (try (repeat' split at h0)) <;> (try cases h0)
  · rename_i hx
    obtain ⟨_, _, _, _, _, _, _, _, _, _, _, _, _, _, _, _, _, _, _, hr⟩ := db_acp_inv h0
    cases hr
def db_il (x : Option db_R) : Prop := ∀ r, x = some r → ∃ q, r = .inl q
theorem db_il_none : db_il none := fun _ h => by cases h
theorem db_il_nx {pc : Nat} {L S : List Value} {h : db_H} : db_il (db_nx pc L S h) := fun _ h => by cases h; exact ⟨_, rfl⟩
theorem db_il_get {ai : db_I} {pc : Nat} {L S : List Value} {h : db_H} : db_il (db_get ai pc L S h) := by
  unfold db_get
  repeat' split
  all_goals first | exact db_il_none | exact db_il_nx
theorem db_il_put {ai : db_I} {pc : Nat} {L S : List Value} {h : db_H} : db_il (db_put ai pc L S h) := by
  unfold db_put
  repeat' split
  all_goals first | exact db_il_none | exact db_il_nx
theorem db_il_ald {t pc : Nat} {L S : List Value} {h : db_H} : db_il (db_ald t pc L S h) := by
  unfold db_ald
  repeat' split
  all_goals first | exact db_il_none | exact db_il_nx
theorem db_il_ast {t pc : Nat} {L S : List Value} {h : db_H} : db_il (db_ast t pc L S h) := by
  unfold db_ast
  repeat' split
  all_goals first | exact db_il_none | exact db_il_nx
theorem db_il_new {t pc : Nat} {L S : List Value} {h : db_H} : db_il (db_new t pc L S h) := by
  unfold db_new
  repeat' split
  all_goals first | exact db_il_none | exact db_il_nx
theorem db_il_stp {ai : db_I} {pc : Nat} {L S : List Value} {h : db_H} (hi : match ai.1 with
    | .invokevirtual _ => False | .invokespecial _ => False | .invokestatic _ => False | .ireturn => False | .areturn => False | .return_ => False
    | _ => True) : db_il (db_stp ai pc L S h) := by
  obtain ⟨i, n, a⟩ := ai
  cases i <;> first | (exact hi.elim; done) | (exact db_il_none; done) | (exact db_il_nx; done) | (exact db_il_get; done) | (exact db_il_put; done) | (exact db_il_ald; done) | (exact db_il_ast; done) | (simp only [db_stp, db_inc, db_neg, db_dup, db_pop, db_dp2, db_if1, db_if2, db_nul, db_nnl, db_tbs, db_lks, db_aln, db_nwa, db_irt, db_art, db_vrt, db_ldi, db_lda, db_sti, db_sta, db_bin, db_dv]; (repeat' split) <;> first | exact db_il_none | exact db_il_nx | exact db_il_new)
theorem db_okc_0 {kd y i z n rc w ns : Nat} {t : List Nat} : db_okc kd y i (0 :: z :: n :: rc :: w :: ns :: t) = (match db_mw[z]? with
    | some (_, st, _, wse, _, np) => decide (1 ≤ z) && decide (db_dp z + 1 ≤ db_dp y) && decide (8 + (db_ml z + 11) + db_lo z ≤ db_lo y) &&
      (if ns = 0 then decide (lw_tbl[w]? = some (.methodLink (db_ow y) i (db_my z))) else decide (lw_tbl[w]? = some (.methodLinkNest (db_ow y) i (db_my z) "DeflateBlocks"))) &&
      (match kd with
        | 0 => decide (ns = 0) && decide (st = 0) && decide (n = np + 1) && decide (lw_tbl[wse]? = some (.selects (db_ow z) (db_my z) (db_my z))) && (match db_cl[rc]? with
          | some q => decide (q.1 = db_ow z)
          | none => false)
        | 1 => decide (st = 0) && decide (n = np + 1) && decide ((db_my z).name = "<init>") && decide (db_rt z = none)
        | _ => decide (st = 1) && decide (n = np))
    | none => false) := rfl
theorem db_okc0 {kd y i z n rc w ns : Nat} {t : List Nat} (h : db_okc kd y i (0 :: z :: n :: rc :: w :: ns :: t) = true) : ∃ wc st wi wse win np : Nat, db_mw[z]? = some (wc, st, wi, wse, win, np) ∧ 1 ≤ z ∧ db_dp z + 1 ≤ db_dp y ∧ 8 + (db_ml z + 11) + db_lo z ≤ db_lo y ∧ ((ns = 0 ∧ lw_tbl[w]? = some (.methodLink (db_ow y) i (db_my z))) ∨ (¬ ns = 0 ∧ lw_tbl[w]? = some (.methodLinkNest (db_ow y) i (db_my z) "DeflateBlocks"))) ∧ (kd = 0 → ns = 0 ∧ st = 0 ∧ n = np + 1 ∧ lw_tbl[wse]? = some (.selects (db_ow z) (db_my z) (db_my z)) ∧ ∃ q, db_cl[rc]? = some q ∧ q.1 = db_ow z) ∧ (kd = 1 → st = 0 ∧ n = np + 1 ∧ (db_my z).name = "<init>" ∧ db_rt z = none) ∧ (kd = 2 → st = 1 ∧ n = np) := by
  rw [db_okc_0] at h
  split at h
  · rename_i wc st wi wse win np hm
    simp only [Bool.and_eq_true, decide_eq_true_eq] at h
    obtain ⟨⟨⟨⟨q1, q2⟩, q3⟩, q4⟩, q5⟩ := h
    refine ⟨wc, st, wi, wse, win, np, hm, q1, q2, q3, ?_, ?_, ?_, ?_⟩
    · split at q4
      · rename_i e
        exact Or.inl ⟨e, of_decide_eq_true q4⟩
      · rename_i e
        exact Or.inr ⟨e, of_decide_eq_true q4⟩
    · rintro rfl
      simp only [Bool.and_eq_true, decide_eq_true_eq] at q5
      obtain ⟨⟨⟨⟨r1, r2⟩, r3⟩, r4⟩, r5⟩ := q5
      refine ⟨r1, r2, r3, r4, ?_⟩
      split at r5
      · rename_i q hq
        exact ⟨q, hq, of_decide_eq_true r5⟩
      · cases r5
    · rintro rfl
      simpa [and_assoc] using q5
    · rintro rfl
      simpa [and_assoc] using q5
  · cases h
section DBS5
variable {p : Program} {l : Launch} {e : Env} {R : Room} {s : State} {m : MethodId} {args : Array Value} {below : List Frame} {meth : Method} {c : Code} {H : Heap} {locs : List Loc} {cells slots : Nat} {Q : State → Prop}
variable {pc : Nat} {ls : Array Slot} {G : db_G} {T h h' : db_H} {y pc' : Nat} {L S L' S' : List Value}
theorem db_called {mc ms : Nat} {st0 rest : List Value} {v : Option Value} {h1 : db_H} {a : Array Value} (hr : va_Run p l e R s m args below meth c H locs cells slots mc ms (F0 m pc ls st0) rest (db_Qc G T v h1 a) (db_A G)) (hS : va_S (db_A G) s.heap H locs)
    (kk : ∀ (H' : Heap) (locs' : List Loc), db_Rl G db_cl T h1 H' → va_S (db_A G) s.heap H' locs' → W p l e R s m args below meth c H' locs' (cells + mc) (slots + ms) Q (F0 m (pc + 3) ls ((v.map (db_va G)).toList ++ rest))) : W p l e R s m args below meth c H locs cells slots Q (F0 m pc ls st0) := by
  intro T0 hT X
  obtain ⟨v0, st₀, t, T', L, h0, X', hL, e1, e2, ⟨hv, hRl, hz, hk⟩, st⟩ := hr T0 hT X
  cases hv
  rw [h0] at hz hk
  obtain ⟨t2, a1, b1⟩ := kk T'.heap (locs ++ L) (by rw [e1]; exact hRl) ⟨Nat.le_trans hS.1 (by rw [e1]; exact hz), fun q h1 h2 => by rw [e1, hk q (Nat.lt_of_lt_of_le h1 hS.1) h2]; exact hS.2.1 q h1 h2, fun q hq => by
      rcases List.mem_append.mp hq with h | h
      · exact hS.2.2 q h
      · exact hL q h⟩ T' rfl X'
  exact ⟨t2, st t2 a1, b1⟩
theorem db_pre {av : List Value} (hWd : db_Wd G T s s.heap) (hR : db_Rl G db_cl T h H) (hS : va_S (db_A G) s.heap H locs) : PreS s H (va_Pc av (db_Pre G T h)) av :=
  ⟨db_Pc_blind, fun U hU hW => ⟨rfl, by rw [hU]; exact hR, by
    rw [hU]
    exact db_Wd.moved hW (hWd.kept (fun a h1 h2 => hS.2.1 a h1 h2))⟩⟩
/-- the words of a callee -/
theorem db_mk_inv {z : Nat} (h1 : 1 ≤ z) (h2 : z < 176) : ∃ wc st wi wse win np : Nat, db_mw[z]? = some (wc, st, wi, wse, win, np) ∧ Cond.code (db_my z) (db_by z) (db_ml z) (db_rt z) ∈ db_tb ∧ ((st = 0 ∧ Cond.instanceMethod (db_my z) ∈ db_tb) ∨ (¬ st = 0 ∧ Cond.static (db_my z) ∈ db_tb)) ∧ Cond.initialized (db_ow z) ∈ db_tb ∧ plainName (db_ow z) = true ∧ db_ow z ≠ "java/lang/invoke/MethodHandle" ∧ db_ow z ≠ "java/lang/invoke/VarHandle" ∧ (parseMethodDescriptor (db_my z).desc).map (fun d => d.parameters.length) = some np := by
  have h := db_mk2_all h1 h2
  have hcw := db_cw_all (z - 1) (by omega)
  rw [show z - 1 + 1 = z by omega] at hcw
  unfold db_mk2 at h
  split at h
  · rename_i wc st wi wse win np hw
    simp only [Bool.and_eq_true, decide_eq_true_eq] at h
    obtain ⟨⟨⟨⟨⟨q2, q3⟩, q4⟩, q5⟩, q6⟩, q7⟩ := h
    refine ⟨wc, st, wi, wse, win, np, hw, db_in_tb hcw rfl, ?_, db_in_tb q3 rfl, q4, q5, q6, q7⟩
    split at q2
    · rename_i e
      exact Or.inl ⟨e, db_in_tb (of_decide_eq_true q2) rfl⟩
    · rename_i e
      exact Or.inr ⟨e, db_in_tb (of_decide_eq_true q2) rfl⟩
  · cases h
theorem db_good_wsm {z : Nat} (hc : Cond.code (db_my z) (db_by z) (db_ml z) (db_rt z) ∈ db_tb) : GoodIn db_tb (db_wsm z) := fun w hw => by
  rcases List.mem_cons.mp hw with rfl | hw
  · exact db_good_tb _ hc
  · exact db_good_tb w hw
set_option maxHeartbeats 4000000 in
theorem db_call {vt : Bool} {n kd idx z pc1 : Nat} {a : List Nat} {i : Instr} {as S0 : List Value} {v : Option Value} {h1 : db_H} (C : db_Cx G T p s m args meth c y) (hd : decode (db_by y) pc = .ok (i, 3)) (hw : db_okc kd y idx a = true)
    (hik : (kd = 0 ∧ i = .invokevirtual idx ∧ vt = true) ∨ (kd = 1 ∧ i = .invokespecial idx ∧ vt = true) ∨ (kd = 2 ∧ i = .invokestatic idx))
    (hs : db_inv vt (i, n, a) pc L S h = some (.inr (.inl (z, as, S0, pc1)))) (hM0 : 1 ≤ z → z < 176 → as.all db_c1 = true → db_Mt l G T z as h v h1)
    (hL : db_lr G L ls) (hLn : L.length = db_ml y) (hR : db_Rl G db_cl T h H) (hS : va_S (db_A G) s.heap H locs)
    (hfr : db_dp y ≤ R.frames) (hlo : db_lo y ≤ R.locals) (hc1 : cells + (h1.length - h.length) ≤ R.cells) (hc2 : slots + (db_sz h1 - db_sz h) ≤ R.slots)
    (kk : ∀ (H' : Heap) (locs' : List Loc), db_Rl G db_cl T h1 H' → va_S (db_A G) s.heap H' locs' → W p l e R s m args below meth c H' locs' (cells + (h1.length - h.length)) (slots + (db_sz h1 - db_sz h)) Q (F0 m pc1 ls ((v.toList ++ S0).map (db_va G)))) : W p l e R s m args below meth c H locs cells slots Q (F0 m pc ls (S.map (db_va G))) := by
  obtain ⟨hX, hb, hml, hown, hts, hname, hWd⟩ := id C
  obtain ⟨nn, rc, t, ha, hln, hSe, hS8, hpc, hall, hrec⟩ := db_inv_r hs
  dsimp only at ha
  subst ha
  subst hpc
  have hcat : 2 * (F0 m pc ls (S.map (db_va G))).monitorRoom + ((S0.map (db_va G)).map fun v => v.category).sum ≤ 8 := by
    show 2 * 0 + _ ≤ 8
    have := db_cat_sum (G := G) S0
    omega
  have hsize : ls.size = db_ml y := by rw [hL.1, hLn]
  have k2 : ∀ (H' : Heap) (locs' : List Loc), db_Rl G db_cl T h1 H' → va_S (db_A G) s.heap H' locs' → W p l e R s m args below meth c H' locs' (cells + (h1.length - h.length)) (slots + (db_sz h1 - db_sz h)) Q (F0 m (pc + 3) ls ((v.map (db_va G)).toList ++ S0.map (db_va G))) := by
    intro H' locs' q1 q2
    have q := kk H' locs' q1 q2
    rw [List.map_append] at q
    cases v <;> exact q
  cases t with
  | nil => simp [db_okc] at hw
  | cons w t =>
    cases t with
    | nil => simp [db_okc] at hw
    | cons ns t =>
      obtain ⟨wc0, st0, wi0, wse, win0, np, hmw, hz1, hdp, hlo2, hlk, hk0, hk1, hk2⟩ := db_okc0 hw
      have hz2 : z < 176 := by rw [← db_mw_len]; exact (List.getElem?_eq_some_iff.mp hmw).1
      obtain ⟨wc, st, wi, wse', win, np', hmw', hcode, hinst, hini, hpl, hn1, hn2, hpar⟩ := db_mk_inv hz1 hz2
      rw [hmw] at hmw'
      cases hmw'
      have hM := hM0 hz1 hz2 hall
      have hRm : (db_rm z h h1).frames + 1 ≤ R.frames ∧ 8 + (db_ml z + 11) + (db_rm z h h1).locals ≤ R.locals := ⟨by show db_dp z + 1 ≤ _; omega, by show 8 + (db_ml z + 11) + db_lo z ≤ _; omega⟩
      have hdd : (db_my z).cls ≠ "java/lang/invoke/MethodHandle" ∧ (db_my z).cls ≠ "java/lang/invoke/VarHandle" ∧ (parseMethodDescriptor (db_my z).desc).map (fun d => d.parameters.length) = some np := ⟨hn1, hn2, hpar⟩
      rcases hik with ⟨rfl, rfl, rfl⟩ | ⟨rfl, rfl, rfl⟩ | ⟨rfl, rfl⟩
      · obtain ⟨hns, hst, hnp, hsel, q, hq, hqc⟩ := hk0 rfl
        obtain ⟨k, as', fs, rfl, hk, hcell⟩ := hrec rfl
        have hin : (Cond.instanceMethod (db_my z)).before args s = true := by
          rcases hinst with ⟨-, h⟩ | ⟨h, -⟩
          · exact hts _ h
          · exact absurd hst h
        have hlk2 : (Cond.methodLink (db_ow y) idx (db_my z)).before args s = true := by
          rcases hlk with ⟨-, h⟩ | ⟨h, -⟩
          · exact hts _ (db_in_tb h rfl)
          · exact absurd hns h
        have hst2 : S.map (db_va G) = (as'.map (db_va G)).reverse ++ .ref (db_ad G k) :: S0.map (db_va G) := by
          rw [hSe, List.reverse_cons, List.append_assoc, List.map_append, List.map_append, List.map_reverse]
          rfl
        have hat := hR.2.2.2 k _ (Nat.not_lt.mp hk) hcell
        have hcw : CallW R s args (db_ow y) (db_ow z) idx (db_my z) (db_by z) (db_ml z) (db_rt z) (db_wsm z) (db_rm z h h1) (h1.length - h.length) (db_sz h1 - db_sz h) np :=
          ⟨callB_of np hts (db_good_wsm hcode) rfl rfl rfl (hts _ hini) hlk2 hdd hRm, hin, hts _ (db_in_tb hsel rfl)⟩
        have hpv : PreV s H (db_ow z) (db_ad G k) (va_Pc ((.ref k :: as').map (db_va G)) (db_Pre G T h)) (as'.map (db_va G)) := by
          refine ⟨db_Pc_blind, ?_, (db_pre (av := (.ref k :: as').map (db_va G)) hWd hR hS).2⟩
          obtain ⟨r, g0, cell, g1, g2, g3, -⟩ := hat
          have er : r = q := Option.some.inj (g0.symm.trans hq)
          subst er
          rw [db_ad_dyn hk]
          exact ⟨cell, g1, by rw [g3]; rfl, by rw [g2, ← hqc]; exact (hWd.1.1 rc r hq).2.1⟩
        rw [hst2]
        exact db_called (va_runV ⟨hX, hb, hml, hown, hts⟩ hM hcw hpv rfl (by rw [List.length_map]; simp at hln; omega) hsize rfl (by rw [hst2] at hcat; exact hcat) hd ⟨hc1, hc2⟩) hS k2
      · obtain ⟨hst, hnp, hnm, hrt⟩ := hk1 rfl
        obtain ⟨k, as', fs, rfl, hk, hcell⟩ := hrec rfl
        have hin : (Cond.instanceMethod (db_my z)).before args s = true := by
          rcases hinst with ⟨-, h⟩ | ⟨h, -⟩
          · exact hts _ h
          · exact absurd hst h
        have hst2 : S.map (db_va G) = (as'.map (db_va G)).reverse ++ .ref (db_ad G k) :: S0.map (db_va G) := by
          rw [hSe, List.reverse_cons, List.append_assoc, List.map_append, List.map_append, List.map_reverse]
          rfl
        have hps : PreS s H (va_Pc ((.ref k :: as').map (db_va G)) (db_Pre G T h)) (.ref (db_ad G k) :: as'.map (db_va G)) := db_pre (av := (.ref k :: as').map (db_va G)) hWd hR hS
        rw [hst2]
        rcases hlk with ⟨-, hlk⟩ | ⟨-, hlk⟩
        · have hcb := callB_of (R := R) (mc := h1.length - h.length) (ms := db_sz h1 - db_sz h) (own := db_ow y) (index := idx) (rm := db_rm z h h1) np hts (db_good_wsm hcode) rfl rfl rfl (hts _ hini) (hts _ (db_in_tb hlk rfl)) hdd hRm
          rw [hrt] at hcb
          exact db_called (va_runI ⟨hX, hb, hml, hown, hts⟩ hM ⟨hcb, hnm, hin⟩ hps rfl (by rw [List.length_map]; simp at hln; omega) hsize rfl (by rw [hst2] at hcat; exact hcat) hd ⟨hc1, hc2⟩) hS k2
        · have hcb := va_cnB (R := R) (mc := h1.length - h.length) (ms := db_sz h1 - db_sz h) (own := db_ow y) (index := idx) (rm := db_rm z h h1) np hts (db_good_wsm hcode) rfl rfl rfl (hWd.2.1 _ (List.mem_of_getElem? hlk) rfl) (hts _ hini) hdd hRm
          rw [hrt] at hcb
          exact db_called (va_runIN ⟨hX, hb, hml, hown, hts⟩ hM ⟨hcb, hnm, hin⟩ hps rfl (by rw [List.length_map]; simp at hln; omega) hsize rfl (by rw [hst2] at hcat; exact hcat) hd ⟨hc1, hc2⟩) hS k2
      · obtain ⟨hst, hnp⟩ := hk2 rfl
        have hsc : (Cond.static (db_my z)).before args s = true := by
          rcases hinst with ⟨h, -⟩ | ⟨-, h⟩
          · omega
          · exact hts _ h
        have hst2 : S.map (db_va G) = (as.map (db_va G)).reverse ++ S0.map (db_va G) := by
          rw [hSe, List.map_append, List.map_reverse]
        have hps : PreS s H (va_Pc (as.map (db_va G)) (db_Pre G T h)) (as.map (db_va G)) := db_pre hWd hR hS
        rw [hst2]
        rcases hlk with ⟨-, hlk⟩ | ⟨-, hlk⟩
        · exact db_called (va_runS ⟨hX, hb, hml, hown, hts⟩ hM ⟨callB_of np hts (db_good_wsm hcode) rfl rfl rfl (hts _ hini) (hts _ (db_in_tb hlk rfl)) hdd hRm, hsc⟩ hps rfl (by rw [List.length_map]; omega) hsize rfl (by rw [hst2] at hcat; exact hcat) hd ⟨hc1, hc2⟩) hS k2
        · exact db_called (va_runSN ⟨hX, hb, hml, hown, hts⟩ hM ⟨va_cnB np hts (db_good_wsm hcode) rfl rfl rfl (hWd.2.1 _ (List.mem_of_getElem? hlk) rfl) (hts _ hini) hdd hRm, hsc, trivial⟩ hps rfl (by rw [List.length_map]; omega) hsize rfl (by rw [hst2] at hcat; exact hcat) hd ⟨hc1, hc2⟩) hS k2
end DBS5
/-- a return: which instruction, and what is on the stack -/
def db_rk (G : db_G) (y : Nat) (v : Option Value) (ins : Instr) : Prop := (v = none ∧ ins = .return_ ∧ db_rt y = none) ∨ (∃ (x : Int32) (ty : FieldType), v = some (.int x) ∧ ins = .ireturn ∧ db_rt y = some ty ∧ narrow ty (.int x) = .int x) ∨ (∃ (w : Value) (ty : FieldType), v = some w ∧ ins = .areturn ∧ db_rt y = some ty ∧ ((∃ n, ty = .object n) ∨ ∃ t, ty = .array t) ∧ (db_va G w = .null ∨ ∃ a, db_va G w = .ref a))
theorem db_ret_inv {G : db_G} {ai : db_I} {y pc : Nat} {L S : List Value} {h : db_H} {v : Option Value} (hok : db_ok y pc ai = true) (hs : db_stp ai pc L S h = some (.inr (.inr v))) : ∃ ins, decode (db_by y) pc = .ok (ins, 1) ∧ db_rk G y v ins ∧ S = v.toList := by
  obtain ⟨hd, hx⟩ := db_ok_inv hok
  obtain ⟨i, n, a⟩ := ai
  by_cases hg : db_il (db_stp (i, n, a) pc L S h)
  · obtain ⟨q, hq⟩ := hg _ hs
    cases hq
  · cases i <;> first | (exact absurd (db_il_stp (by trivial)) hg) | skip
    case ireturn =>
      obtain ⟨hn, hw⟩ := db_okx_ln (by intros; nofun) (by intros; nofun) hx
      subst hn
      simp only [db_stp, db_inc, db_neg, db_dup, db_pop, db_dp2, db_if1, db_if2, db_nul, db_nnl, db_tbs, db_lks, db_aln, db_nwa, db_irt, db_art, db_vrt] at hs
      split at hs
      · rename_i x
        split at hs
        · rename_i hf
          cases hs
          have hw2 : (decide (db_rt y = some .int ∧ a.getD 0 0 = 0) || decide (db_rt y = some .boolean ∧ a.getD 0 0 = 1)) = true := hw
          rw [Bool.or_eq_true, decide_eq_true_eq, decide_eq_true_eq] at hw2
          refine ⟨.ireturn, hd, Or.inr (Or.inl ?_), rfl⟩
          rcases hw2 with ⟨h1, h2⟩ | ⟨h1, h2⟩
          · exact ⟨x, .int, rfl, rfl, h1, rfl⟩
          · have hf2 : db_ft 1 (.int x) = true := by rw [← h2]; exact hf
            exact ⟨x, .boolean, rfl, rfl, h1, (db_fit (G := G) (ty := .boolean) (kd := 1) rfl hf2).1⟩
        · cases hs
      · cases hs
    case areturn =>
      obtain ⟨hn, hw⟩ := db_okx_ln (by intros; nofun) (by intros; nofun) hx
      subst hn
      have hrt : ∃ ty, db_rt y = some ty ∧ ((∃ n, ty = .object n) ∨ ∃ t, ty = .array t) := by
        have hw2 : (match db_rt y with
          | some (.object _) => true
          | some (.array _) => true
          | _ => false) = true := hw
        split at hw2
        · rename_i o ho
          exact ⟨_, ho, Or.inl ⟨o, rfl⟩⟩
        · rename_i o ho
          exact ⟨_, ho, Or.inr ⟨o, rfl⟩⟩
        · cases hw2
      obtain ⟨ty, h1, h2⟩ := hrt
      simp only [db_stp, db_inc, db_neg, db_dup, db_pop, db_dp2, db_if1, db_if2, db_nul, db_nnl, db_tbs, db_lks, db_aln, db_nwa, db_irt, db_art, db_vrt] at hs
      split at hs
      · rename_i k
        cases hs
        exact ⟨.areturn, hd, Or.inr (Or.inr ⟨.ref k, ty, rfl, rfl, h1, h2, Or.inr ⟨_, rfl⟩⟩), rfl⟩
      · cases hs
        exact ⟨.areturn, hd, Or.inr (Or.inr ⟨.null, ty, rfl, rfl, h1, h2, Or.inl rfl⟩), rfl⟩
      · cases hs
    case return_ =>
      obtain ⟨hn, hw⟩ := db_okx_ln (by intros; nofun) (by intros; nofun) hx
      subst hn
      simp only [db_stp, db_inc, db_neg, db_dup, db_pop, db_dp2, db_if1, db_if2, db_nul, db_nnl, db_tbs, db_lks, db_aln, db_nwa, db_irt, db_art, db_vrt] at hs
      split at hs
      · cases hs
        exact ⟨.return_, hd, Or.inl ⟨rfl, rfl, of_decide_eq_true hw⟩, rfl⟩
      · cases hs
    all_goals
      exfalso
      simp only [db_stp, db_inc, db_neg, db_dup, db_pop, db_dp2, db_if1, db_if2, db_nul, db_nnl, db_tbs, db_lks, db_aln, db_nwa, db_irt, db_art, db_vrt, db_inv] at hs
      repeat' split at hs
      all_goals first | (cases hs; done) | (obtain ⟨_, _, _, _, _, _, _, _, _, _, _, _, _, _, _, _, _, _, _, hr⟩ := db_acp_inv hs; cases hr)
theorem db_ent_lr {G : db_G} {n : Nat} {as : List Value} (hc : as.all db_c1 = true) (hl : as.length ≤ n) : db_lr G (db_ent n as) (((as.map (db_va G)).map Slot.val ++ List.replicate (n - (as.map (db_va G)).length) Slot.unset).toArray) := by
  have hat : ∀ (i : Nat) (z : Slot), (((as.map (db_va G)).map Slot.val ++ List.replicate (n - (as.map (db_va G)).length) Slot.unset).toArray)[i]? = some z → z = .unset ∨ ∃ w, z = .val (db_va G w) := by
    intro i z hz
    rw [List.getElem?_toArray] at hz
    rcases List.mem_append.mp (List.mem_of_getElem? hz) with q | q
    · obtain ⟨w, hw, e⟩ := List.mem_map.mp q
      obtain ⟨u, -, e2⟩ := List.mem_map.mp hw
      exact Or.inr ⟨u, by rw [e2]; exact e.symm⟩
    · exact Or.inl (List.eq_of_mem_replicate q)
  refine ⟨by simp [db_ent], ⟨fun i v hv h2 => ?_, fun i hi => ?_⟩, fun i v hv h1 => ?_⟩
  · rcases hat i _ hv with q | ⟨w, q⟩
    · cases q
    · cases q
      rw [db_va_cat] at h2
      omega
  · rcases hat i _ hi with q | ⟨w, q⟩ <;> cases q
  · unfold db_ent at hv
    by_cases hi : i < as.length
    · rw [List.getElem?_append_left hi] at hv
      rw [List.getElem?_toArray, List.getElem?_append_left (by simpa using hi), List.getElem?_map, List.getElem?_map, hv]
      rfl
    · rw [List.getElem?_append_right (by omega)] at hv
      have := List.eq_of_mem_replicate (List.mem_of_getElem? hv)
      subst this
      cases h1
/-- what the simulation says, at a fuel -/
def db_SIM (l : Launch) (G : db_G) (T : db_H) (f : Nat) : Prop := ∀ (y pc : Nat) (L S : List Value) (h : db_H) (v : Option Value) (h' : db_H), db_run db_lk db_ml f y pc L S h = some (v, h') →
  ∀ (p : Program) (e : Env) (R : Room) (s : State) (m : MethodId) (args : Array Value) (below : List Frame) (meth : Method) (c : Code) (Q : State → Prop) (ls : Array Slot) (H : Heap) (locs : List Loc) (cells slots : Nat),
    db_Cx G T p s m args meth c y → db_lr G L ls → L.length = db_ml y → db_Rl G db_cl T h H → va_S (db_A G) s.heap H locs → db_dp y ≤ R.frames → db_lo y ≤ R.locals → cells + (h'.length - h.length) ≤ R.cells → slots + (db_sz h' - db_sz h) ≤ R.slots →
    (∀ (pc' : Nat) (ls' : Array Slot) (H' : Heap) (locs' : List Loc) (ins : Instr), decode (db_by y) pc' = .ok (ins, 1) → db_rk G y v ins → db_Rl G db_cl T h' H' → va_S (db_A G) s.heap H' locs' → W p l e R s m args below meth c H' locs' (cells + (h'.length - h.length)) (slots + (db_sz h' - db_sz h)) Q (F0 m pc' ls' (v.map (db_va G)).toList)) →
    W p l e R s m args below meth c H locs cells slots Q (F0 m pc ls (S.map (db_va G)))
theorem db_met {l : Launch} {G : db_G} {T : db_H} {f : Nat} (IH : db_SIM l G T f) {z : Nat} {as : List Value} {h h1 : db_H} {v : Option Value} (hz1 : 1 ≤ z) (hz2 : z < 176) (hrun : db_run db_lk db_ml f z 0 (db_ent (db_ml z) as) [] h = some (v, h1)) (hlen : as.length ≤ db_ml z) (hcat : as.all db_c1 = true) : db_Mt l G T z as h v h1 := by
  obtain ⟨wc, st, wi, wse', win, np', hmw', hcode, hinst, hini, hpl, hn1, hn2, hpar⟩ := db_mk_inv hz1 hz2
  refine Met.ofW (cc := db_by z) (maxL := db_ml z) (ret := db_rt z) hpl rfl ?_
  intro p e s m args below meth c s₁ B hml hv
  obtain ⟨rfl, hRl, hWd⟩ := hv
  have hts := atoms_spec (ws := db_wsm z) B.pre
  have hown : s.vm.findClass (db_ow z) = some m.cls := findClass_of_methodNamed B.named
  have hnm : meth.name = (db_my z).name := (name_of_methodNamed B.named B.method).1
  rw [entry_eq m (as.map (db_va G)) (fun w hw => by obtain ⟨u, -, rfl⟩ := List.mem_map.mp hw; exact db_va_cat G u) (db_ml z)]
  have hlocks := B.notSynchronized
  refine IH z 0 (db_ent (db_ml z) as) [] h v h1 hrun p e _ s m _ below meth c _ _ s.heap [] 0 0 ⟨B.exec, B.bytes, hml, hown, fun w hw => hts w (List.mem_cons_of_mem _ hw), fun q => hnm.trans q, hWd⟩ (db_ent_lr hcat hlen) (by simp [db_ent]; omega) hRl va_S.rf (Nat.le_refl _) (Nat.le_refl _) (by rw [Nat.zero_add]; exact Nat.le_refl _) (by rw [Nat.zero_add]; exact Nat.le_refl _) ?_
  intro pc' ls' H' locs' ins hd hk hR' hS'
  rw [Nat.zero_add, Nat.zero_add]
  rcases hk with ⟨rfl, rfl, hrt⟩ | ⟨x, ty, rfl, rfl, hrt, hnar⟩ | ⟨w, ty, rfl, rfl, hrt, hty, hw⟩
  · exact W.vret B.exec B.bytes (B.returns.trans hrt) (fun t ht _ => ⟨rfl, by rw [ht]; exact hR', hS'.F ht⟩) hS'.2.2 hd hlocks
  · exact W.zret B.exec B.bytes (B.returns.trans hrt) hnar (fun t ht _ => ⟨rfl, by rw [ht]; exact hR', hS'.F ht⟩) hS'.2.2 hd hlocks
  · exact W.aret B.exec B.bytes (B.returns.trans hrt) hty hw (fun t ht _ => ⟨rfl, by rw [ht]; exact hR', hS'.F ht⟩) hS'.2.2 hd hlocks
